def rFaA (n : Nat) : Int64 := it (fun _ (s : Int64) => s * 10) n 0 1
def rFaC (x : Int32) (i : Nat) : Nat → Int64 × Int32 → Int64 × Int32 := fun j s => (s.1 * (if rHas (nI i) (nI j) = true then (10 - x).toInt64 else x.toInt64), s.2 + (if rHas (nI i) (nI j) = true then 1 else 0))
def rFaF (m : jMem) (k n : Nat) (x : Int32) : Nat → Int64 → Int64 := fun i s => s + (if 0 < (it (rFaC x i) n 0 (1, 0)).2 ∧ rWF m 0 k (it (rFaC x i) n 0 (1, 0)).2 = true then (it (rFaC x i) n 0 (1, 0)).1 else 0)
def rFaU (m : jMem) (k n : Nat) (x : Int32) : Int64 := it (rFaF m k n x) (2 ^ n) 0 0
def rGcd : Nat → Int64 → Int64 → Option Int64
  | 0, _, _ => none
  | f + 1, a, b => if b = 0 then some a else rGcd f b (a - a / b * b)
def rFail (m : jMem) (k n x part : Int32) : Option (Int32 × jMem) :=
  if rIsW m k = true ∧ rIn n.toInt64 1 9 = true ∧ rIn x.toInt64 0 10 = true ∧ rIn part.toInt64 0 1 = true then
    (if rSt m 0 k.toNatClampNeg = true then (rGcd 100 (rFaU m k.toNatClampNeg n.toNatClampNeg x) (rFaA n.toNatClampNeg)).bind (fun g => if g = 0 then none else some ((if part = 0 then rFaU m k.toNatClampNeg n.toNatClampNeg x / g else rFaA n.toNatClampNeg / g).toInt32, m)) else some (-2, m)) else some (-1, m)
theorem shl_9 {p : Nat} (h : p ≤ 9) : (1 : Int32) <<< (nI p &&& 31) = nI (2 ^ p) := by
  have : p = 0 ∨ p = 1 ∨ p = 2 ∨ p = 3 ∨ p = 4 ∨ p = 5 ∨ p = 6 ∨ p = 7 ∨ p = 8 ∨ p = 9 := by omega
  rcases this with e | e | e | e | e | e | e | e | e | e <;> subst e <;> decide
theorem two_9 {p : Nat} (h : p ≤ 9) : 2 ^ p ≤ 512 := by
  have : p = 0 ∨ p = 1 ∨ p = 2 ∨ p = 3 ∨ p = 4 ∨ p = 5 ∨ p = 6 ∨ p = 7 ∨ p = 8 ∨ p = 9 := by omega
  rcases this with e | e | e | e | e | e | e | e | e | e <;> subst e <;> decide
set_option maxRecDepth 20000 in
theorem lr_faA {G : jG} {N : Nat} {κ : Nat → jK} {ρ : Nat → Nat → Option Nat} {ν : Nat → Nat → Int64} {Q : Option Value → jH → Prop} {d : Nat} {k n : Nat} {x part : Int32} {μ : jMem} (hr : shR N κ ρ) (hn : n ≤ 9) (K : J G RX7 cX7_fail 15 false d Q 0 0 (N, κ, ρ, μ, ν) 86 [some (.ref 165), some (.int (nI k)), some (.int (nI n)), some (.int x), some (.int part), some (.long 0), none, some (.long (it (fun _ (s : Int64) => s * 10) n 0 1)), none, some (.int (nI n)), none, none, none, none, none] []) : J G RX7 cX7_fail 15 false d Q 0 0 (N, κ, ρ, μ, ν) 66 [some (.ref 165), some (.int (nI k)), some (.int (nI n)), some (.int x), some (.int part), some (.long 0), none, some (.long 1), none, some (.int (nI 0)), none, none, none, none, none] [] := by
  refine it_loop (f := fun _ (s : Int64) => s * 10) (p := n) (fun i s => J G RX7 cX7_fail 15 false d Q 0 0 (N, κ, ρ, μ, ν) 66 [some (.ref 165), some (.int (nI k)), some (.int (nI n)), some (.int x), some (.int part), some (.long 0), none, some (.long s), none, some (.int (nI i)), none, none, none, none, none] []) (fun s => J G RX7 cX7_fail 15 false d Q 0 0 (N, κ, ρ, μ, ν) 86 [some (.ref 165), some (.int (nI k)), some (.int (nI n)), some (.int x), some (.int part), some (.long 0), none, some (.long s), none, some (.int (nI n)), none, none, none, none, none] []) (fun _ _ => True) ?_ ?_ (fun _ _ _ _ => trivial) n 0 1 (by omega) trivial K
  · intro s hI K
    refine j_iload dX7_fail_66 rfl ?_
    refine j_iload_n dX7_fail_68 rfl ?_
    refine k_icmp_ge (tgt := 86) dX7_fail_69 (by decide) (fun c69 c69' => ?_) (fun c69 c69' => ?_)
    · skip
      exact K
    · skip
      exact absurd (Int32.le_refl _) c69
  · intro i s hi hI K
    (try dsimp only at K)
    refine j_iload dX7_fail_66 rfl ?_
    refine j_iload_n dX7_fail_68 rfl ?_
    refine k_icmp_ge (tgt := 86) dX7_fail_69 (by decide) (fun c69 c69' => ?_) (fun c69 c69' => ?_)
    · skip
      exact absurd c69 (nI_ge hi (by omega))
    · skip
      refine j_lload dX7_fail_72 rfl ?_
      refine j_ldc2 dX7_fail_74 ct_X7_207 ?_
      refine j_lmul dX7_fail_77 ?_
      refine j_lstore_7 dX7_fail_78 rfl ?_
      refine j_iinc_9 (v := nI (i + 1)) dX7_fail_80 (nI_add _ _) rfl ?_
      refine j_goto (tgt := 66) dX7_fail_83 (by decide) ?_
      (try simp only [c69, c69', reduceIte, Bool.false_eq_true, Bool.true_eq_false, and_self, and_true, true_and, and_false, false_and, not_true_eq_false, not_false_eq_true, ne_eq, decide_true, decide_false, if_true, if_false, Bool.not_eq_true, Bool.not_eq_false] at K)
      exact K

set_option maxRecDepth 20000 in
theorem lr_faC {G : jG} {N : Nat} {κ : Nat → jK} {ρ : Nat → Nat → Option Nat} {ν : Nat → Nat → Int64} {Q : Option Value → jH → Prop} {d : Nat} (hd1 : 1 ≤ d) {k n h : Nat} {x part : Int32} {t5 t7 : Int64} {μ : jMem} (hr : shR N κ ρ) (hn : n ≤ 9) (K : J G RX7 cX7_fail 15 false d Q 0 0 (N, κ, ρ, μ, ν) 163 [some (.ref 165), some (.int (nI k)), some (.int (nI n)), some (.int x), some (.int part), some (.long t5), none, some (.long t7), none, some (.int (nI h)), some (.long (it (rFaC x h) n 0 (1, 0)).1), none, some (.int (it (rFaC x h) n 0 (1, 0)).2), some (.int (nI n)), none] []) : J G RX7 cX7_fail 15 false d Q 0 0 (N, κ, ρ, μ, ν) 106 [some (.ref 165), some (.int (nI k)), some (.int (nI n)), some (.int x), some (.int part), some (.long t5), none, some (.long t7), none, some (.int (nI h)), some (.long (1, 0).1), none, some (.int (1, 0).2), some (.int (nI 0)), none] [] := by
  refine it_loop (f := rFaC x h) (p := n) (fun i s => J G RX7 cX7_fail 15 false d Q 0 0 (N, κ, ρ, μ, ν) 106 [some (.ref 165), some (.int (nI k)), some (.int (nI n)), some (.int x), some (.int part), some (.long t5), none, some (.long t7), none, some (.int (nI h)), some (.long s.1), none, some (.int s.2), some (.int (nI i)), none] []) (fun s => J G RX7 cX7_fail 15 false d Q 0 0 (N, κ, ρ, μ, ν) 163 [some (.ref 165), some (.int (nI k)), some (.int (nI n)), some (.int x), some (.int part), some (.long t5), none, some (.long t7), none, some (.int (nI h)), some (.long s.1), none, some (.int s.2), some (.int (nI n)), none] []) (fun _ _ => True) ?_ ?_ (fun _ _ _ _ => trivial) n 0 (1, 0) (by omega) trivial K
  · intro s hI K
    refine j_iload dX7_fail_106 rfl ?_
    refine j_iload_n dX7_fail_108 rfl ?_
    refine k_icmp_ge (tgt := 163) dX7_fail_109 (by decide) (fun c109 c109' => ?_) (fun c109 c109' => ?_)
    · skip
      exact K
    · skip
      exact absurd (Int32.le_refl _) c109
  · intro i s hi hI K
    (try dsimp only at K)
    refine j_iload dX7_fail_106 rfl ?_
    refine j_iload_n dX7_fail_108 rfl ?_
    refine k_icmp_ge (tgt := 163) dX7_fail_109 (by decide) (fun c109 c109' => ?_) (fun c109 c109' => ?_)
    · skip
      exact absurd c109 (nI_ge hi (by omega))
    · skip
      refine j_lload dX7_fail_112 rfl ?_
      refine j_iload dX7_fail_114 rfl ?_
      refine j_iload dX7_fail_116 rfl ?_
      refine j_cS2r dX7_fail_118 r_has ml_X7_201 my_X7_has ms_X7_has (by omega) (Nat.le_of_ble_eq_true rfl) (Nat.le_of_ble_eq_true rfl) ?_
      refine j_if_eqB (tgt := 132) dX7_fail_121 (by decide) (fun c121 => ?_) (fun c121 => ?_)
      · skip
        refine j_iload_n dX7_fail_132 rfl ?_
        refine j_i2l dX7_fail_133 ?_
        refine j_lmul dX7_fail_134 ?_
        refine j_lstore_10 dX7_fail_135 rfl ?_
        refine j_iload dX7_fail_137 rfl ?_
        refine j_iload dX7_fail_139 rfl ?_
        refine j_iload dX7_fail_141 rfl ?_
        refine j_cS2r dX7_fail_143 r_has ml_X7_201 my_X7_has ms_X7_has (by omega) (Nat.le_of_ble_eq_true rfl) (Nat.le_of_ble_eq_true rfl) ?_
        refine j_if_eqB (tgt := 153) dX7_fail_146 (by decide) (fun c146 => ?_) (fun c146 => ?_)
        · skip
          refine j_iconst (v := 0) dX7_fail_153 (by decide) ?_
          refine j_iadd dX7_fail_154 ?_
          refine j_istore_12 dX7_fail_155 rfl ?_
          refine j_iinc_13 (v := nI (i + 1)) dX7_fail_157 (nI_add _ _) rfl ?_
          refine j_goto (tgt := 106) dX7_fail_160 (by decide) ?_
          first | (exfalso; revert c121 c146; cases rHas (nI h) (nI i) <;> simp; done) | (simp only [rFaC, c121, c146, reduceIte, Bool.false_eq_true, Bool.true_eq_false, and_self, and_true, true_and, and_false, false_and, not_true_eq_false, not_false_eq_true, ne_eq, decide_true, decide_false, if_true, if_false, Bool.not_eq_true, Bool.not_eq_false] at K; exact K)
        · skip
          refine j_iconst (v := 1) dX7_fail_149 (by decide) ?_
          refine j_goto (tgt := 154) dX7_fail_150 (by decide) ?_
          refine j_iadd dX7_fail_154 ?_
          refine j_istore_12 dX7_fail_155 rfl ?_
          refine j_iinc_13 (v := nI (i + 1)) dX7_fail_157 (nI_add _ _) rfl ?_
          refine j_goto (tgt := 106) dX7_fail_160 (by decide) ?_
          first | (exfalso; revert c121 c146; cases rHas (nI h) (nI i) <;> simp; done) | (simp only [rFaC, c121, c146, reduceIte, Bool.false_eq_true, Bool.true_eq_false, and_self, and_true, true_and, and_false, false_and, not_true_eq_false, not_false_eq_true, ne_eq, decide_true, decide_false, if_true, if_false, Bool.not_eq_true, Bool.not_eq_false] at K; exact K)
      · skip
        refine j_bipush (v := 10) dX7_fail_124 (by decide) ?_
        refine j_iload_n dX7_fail_126 rfl ?_
        refine j_isub dX7_fail_127 ?_
        refine j_i2l dX7_fail_128 ?_
        refine j_goto (tgt := 134) dX7_fail_129 (by decide) ?_
        refine j_lmul dX7_fail_134 ?_
        refine j_lstore_10 dX7_fail_135 rfl ?_
        refine j_iload dX7_fail_137 rfl ?_
        refine j_iload dX7_fail_139 rfl ?_
        refine j_iload dX7_fail_141 rfl ?_
        refine j_cS2r dX7_fail_143 r_has ml_X7_201 my_X7_has ms_X7_has (by omega) (Nat.le_of_ble_eq_true rfl) (Nat.le_of_ble_eq_true rfl) ?_
        refine j_if_eqB (tgt := 153) dX7_fail_146 (by decide) (fun c146 => ?_) (fun c146 => ?_)
        · skip
          refine j_iconst (v := 0) dX7_fail_153 (by decide) ?_
          refine j_iadd dX7_fail_154 ?_
          refine j_istore_12 dX7_fail_155 rfl ?_
          refine j_iinc_13 (v := nI (i + 1)) dX7_fail_157 (nI_add _ _) rfl ?_
          refine j_goto (tgt := 106) dX7_fail_160 (by decide) ?_
          first | (exfalso; revert c121 c146; cases rHas (nI h) (nI i) <;> simp; done) | (simp only [rFaC, c121, c146, reduceIte, Bool.false_eq_true, Bool.true_eq_false, and_self, and_true, true_and, and_false, false_and, not_true_eq_false, not_false_eq_true, ne_eq, decide_true, decide_false, if_true, if_false, Bool.not_eq_true, Bool.not_eq_false] at K; exact K)
        · skip
          refine j_iconst (v := 1) dX7_fail_149 (by decide) ?_
          refine j_goto (tgt := 154) dX7_fail_150 (by decide) ?_
          refine j_iadd dX7_fail_154 ?_
          refine j_istore_12 dX7_fail_155 rfl ?_
          refine j_iinc_13 (v := nI (i + 1)) dX7_fail_157 (nI_add _ _) rfl ?_
          refine j_goto (tgt := 106) dX7_fail_160 (by decide) ?_
          first | (exfalso; revert c121 c146; cases rHas (nI h) (nI i) <;> simp; done) | (simp only [rFaC, c121, c146, reduceIte, Bool.false_eq_true, Bool.true_eq_false, and_self, and_true, true_and, and_false, false_and, not_true_eq_false, not_false_eq_true, ne_eq, decide_true, decide_false, if_true, if_false, Bool.not_eq_true, Bool.not_eq_false] at K; exact K)

set_option maxRecDepth 20000 in
theorem lr_faB {G : jG} {N : Nat} {κ : Nat → jK} {ρ : Nat → Nat → Option Nat} {ν : Nat → Nat → Int64} {Q : Option Value → jH → Prop} {d : Nat} (hd1 : 1 ≤ d) {k n : Nat} {x part : Int32} {t7 : Int64} {μ : jMem} (hr : shR N κ ρ) (hn : n ≤ 9) (hk : k < 5) (h512 : 2 ^ n ≤ 512) {x10 : Option Value} {x11 : Option Value} {x12 : Option Value} {x13 : Option Value} (K : ∀ x10 x11 x12 x13, J G RX7 cX7_fail 15 false d Q 0 0 (N, κ, ρ, μ, ν) 196 [some (.ref 165), some (.int (nI k)), some (.int (nI n)), some (.int x), some (.int part), some (.long (it (rFaF μ k n x) (2 ^ n) 0 0)), none, some (.long t7), none, some (.int (nI (2 ^ n))), x10, x11, x12, x13, none] []) : J G RX7 cX7_fail 15 false d Q 0 0 (N, κ, ρ, μ, ν) 89 [some (.ref 165), some (.int (nI k)), some (.int (nI n)), some (.int x), some (.int part), some (.long 0), none, some (.long t7), none, some (.int (nI 0)), x10, x11, x12, x13, none] [] := by
  refine it_loop (f := rFaF μ k n x) (p := (2 ^ n)) (fun i s => ∀ x10 x11 x12 x13, J G RX7 cX7_fail 15 false d Q 0 0 (N, κ, ρ, μ, ν) 89 [some (.ref 165), some (.int (nI k)), some (.int (nI n)), some (.int x), some (.int part), some (.long s), none, some (.long t7), none, some (.int (nI i)), x10, x11, x12, x13, none] []) (fun s => ∀ x10 x11 x12 x13, J G RX7 cX7_fail 15 false d Q 0 0 (N, κ, ρ, μ, ν) 196 [some (.ref 165), some (.int (nI k)), some (.int (nI n)), some (.int x), some (.int part), some (.long s), none, some (.long t7), none, some (.int (nI (2 ^ n))), x10, x11, x12, x13, none] []) (fun _ _ => True) ?_ ?_ (fun _ _ _ _ => trivial) (2 ^ n) 0 0 (by omega) trivial K _ _ _ _
  · intro s hI K x10 x11 x12 x13
    refine j_iload dX7_fail_89 rfl ?_
    refine j_iconst (v := 1) dX7_fail_91 (by decide) ?_
    refine j_iload_n dX7_fail_92 rfl ?_
    refine j_ishl dX7_fail_93 ?_
    refine j_topi (w := nI (2 ^ n)) (shl_9 hn) ?_
    refine k_icmp_ge (tgt := 196) dX7_fail_94 (by decide) (fun c94 c94' => ?_) (fun c94 c94' => ?_)
    · skip
      exact K _ _ _ _
    · skip
      exact absurd (Int32.le_refl _) c94
  · intro i s hi hI K x10 x11 x12 x13
    refine j_iload dX7_fail_89 rfl ?_
    refine j_iconst (v := 1) dX7_fail_91 (by decide) ?_
    refine j_iload_n dX7_fail_92 rfl ?_
    refine j_ishl dX7_fail_93 ?_
    refine j_topi (w := nI (2 ^ n)) (shl_9 hn) ?_
    refine k_icmp_ge (tgt := 196) dX7_fail_94 (by decide) (fun c94 c94' => ?_) (fun c94 c94' => ?_)
    · skip
      exact absurd c94 (nI_ge (by omega) (by omega))
    · skip
      refine j_lconst (v := 1) dX7_fail_97 (by decide) ?_
      refine j_lstore_10 dX7_fail_98 rfl ?_
      refine j_iconst (v := 0) dX7_fail_100 (by decide) ?_
      refine j_istore_12 dX7_fail_101 rfl ?_
      refine j_iconst (v := 0) dX7_fail_103 (by decide) ?_
      refine j_istore_13 dX7_fail_104 rfl ?_
      refine lr_faC (by omega) hr hn ?_
      refine j_lload dX7_fail_163 rfl ?_
      refine j_iload dX7_fail_165 rfl ?_
      refine k_if_le (tgt := 186) dX7_fail_167 (by decide) (fun c167 c167' => ?_) (fun c167 c167' => ?_)
      · skip
        refine j_lconst (v := 0) dX7_fail_186 (by decide) ?_
        refine j_ladd dX7_fail_187 ?_
        refine j_lstore_5 dX7_fail_188 rfl ?_
        refine j_iinc_9 (v := nI (i + 1)) dX7_fail_190 (nI_add _ _) rfl ?_
        refine j_goto (tgt := 89) dX7_fail_193 (by decide) ?_
        simp only [rFaF, c167, c167', reduceIte, Bool.false_eq_true, Bool.true_eq_false, and_self, and_true, true_and, and_false, false_and, not_true_eq_false, not_false_eq_true, ne_eq, decide_true, decide_false, if_true, if_false, Bool.not_eq_true, Bool.not_eq_false] at K
        exact K _ _ _ _
      · skip
        refine j_aload_n dX7_fail_170 rfl ?_
        refine j_iconst (v := 0) dX7_fail_171 (by decide) ?_
        refine j_iload_n dX7_fail_172 rfl ?_
        refine j_iload dX7_fail_173 rfl ?_
        refine j_cV3r dX7_fail_175 (r_wouldFall (r := 0) (k := k) hr (by omega) (by omega)) ml_X7_146 my_X7_wouldFall mi_X7_wouldFall (o_165 hr) rfl (by omega) (Nat.le_of_ble_eq_true rfl) (Nat.le_of_ble_eq_true rfl) ?_
        refine j_if_eqB (tgt := 186) dX7_fail_178 (by decide) (fun c178 => ?_) (fun c178 => ?_)
        · skip
          refine j_lconst (v := 0) dX7_fail_186 (by decide) ?_
          refine j_ladd dX7_fail_187 ?_
          refine j_lstore_5 dX7_fail_188 rfl ?_
          refine j_iinc_9 (v := nI (i + 1)) dX7_fail_190 (nI_add _ _) rfl ?_
          refine j_goto (tgt := 89) dX7_fail_193 (by decide) ?_
          simp only [rFaF, c167, c167', c178, reduceIte, Bool.false_eq_true, Bool.true_eq_false, and_self, and_true, true_and, and_false, false_and, not_true_eq_false, not_false_eq_true, ne_eq, decide_true, decide_false, if_true, if_false, Bool.not_eq_true, Bool.not_eq_false] at K
          exact K _ _ _ _
        · skip
          refine j_lload dX7_fail_181 rfl ?_
          refine j_goto (tgt := 187) dX7_fail_183 (by decide) ?_
          refine j_ladd dX7_fail_187 ?_
          refine j_lstore_5 dX7_fail_188 rfl ?_
          refine j_iinc_9 (v := nI (i + 1)) dX7_fail_190 (nI_add _ _) rfl ?_
          refine j_goto (tgt := 89) dX7_fail_193 (by decide) ?_
          simp only [rFaF, c167, c167', c178, reduceIte, Bool.false_eq_true, Bool.true_eq_false, and_self, and_true, true_and, and_false, false_and, not_true_eq_false, not_false_eq_true, ne_eq, decide_true, decide_false, if_true, if_false, Bool.not_eq_true, Bool.not_eq_false] at K
          exact K _ _ _ _

set_option maxRecDepth 20000 in
theorem lr_faG {G : jG} {N : Nat} {κ : Nat → jK} {ρ : Nat → Nat → Option Nat} {ν : Nat → Nat → Int64} {Q : Option Value → jH → Prop} {d : Nat} {k n : Nat} {x part : Int32} {t5 t7 : Int64} {μ : jMem} (hr : shR N κ ρ) : ∀ (f : Nat) (a b g : Int64) (x13 x14 : Option Value), rGcd f a b = some g → (∀ b x13 x14, J G RX7 cX7_fail 15 false d Q 0 0 (N, κ, ρ, μ, ν) 229 [some (.ref 165), some (.int (nI k)), some (.int (nI n)), some (.int x), some (.int part), some (.long t5), none, some (.long t7), none, some (.long g), none, some (.long b), none, x13, x14] []) → J G RX7 cX7_fail 15 false d Q 0 0 (N, κ, ρ, μ, ν) 204 [some (.ref 165), some (.int (nI k)), some (.int (nI n)), some (.int x), some (.int part), some (.long t5), none, some (.long t7), none, some (.long a), none, some (.long b), none, x13, x14] []
  | 0, a, b, g, x13, x14, e, K => by rw [rGcd] at e; cases e
  | f + 1, a, b, g, x13, x14, e, K => by
    rw [rGcd] at e
    refine j_lload dX7_fail_204 rfl ?_
    refine j_lconst (v := 0) dX7_fail_206 (by decide) ?_
    refine j_lcmp dX7_fail_207 ?_
    refine j_if_eq (tgt := 229) dX7_fail_208 (by decide) (fun c208 => ?_) (fun c208 => ?_)
    · skip
      rw [if_pos ((lg_cmp_eq _ _).mp c208)] at e
      cases e
      exact K _ _ _
    · skip
      have hb0 : ¬ b = 0 := fun z => c208 ((lg_cmp_eq _ _).mpr z)
      rw [if_neg hb0] at e
      refine j_lload dX7_fail_211 rfl ?_
      refine j_lload dX7_fail_213 rfl ?_
      refine j_lrem dX7_fail_215 hb0 ?_
      refine j_lstore_13 dX7_fail_216 rfl ?_
      refine j_lload dX7_fail_218 rfl ?_
      refine j_lstore_9 dX7_fail_220 rfl ?_
      refine j_lload dX7_fail_222 rfl ?_
      refine j_lstore_11 dX7_fail_224 rfl ?_
      refine j_goto (tgt := 204) dX7_fail_226 (by decide) ?_
      exact lr_faG hr f _ _ g _ _ e K

set_option maxRecDepth 20000 in
theorem r_fail {G : jG} {N : Nat} {κ : Nat → jK} {ρ : Nat → Nat → Option Nat} {μ : Nat → Nat → Int32} {ν : Nat → Nat → Int64} (hr : shR N κ ρ) {p : Nat} (hp : μ 165 3 = nI p) (hp5 : p ≤ 5) {k n x part : Int32} {zv : Int32} {zm : jMem} (zhb : rFail μ k n x part = some (zv, zm)) : MT G yX7_fail cX7_fail 15 (some .int) 2 0 0 [.ref 165, .int k, .int n, .int x, .int part] (N, κ, ρ, μ, ν) (some (.int zv)) (N, κ, ρ, zm, ν) := by
  refine jMT (ini := false) my_X7_fail (fun h => by cases h) (jRv_i _) (Nat.le_of_ble_eq_true rfl) ?_
  show J G RX7 cX7_fail 15 false 2 _ 0 0 (N, κ, ρ, μ, ν) 0 [some (.ref 165), some (.int k), some (.int n), some (.int x), some (.int part), none, none, none, none, none, none, none, none, none, none] []
  generalize hQe : (fun (v' : Option Value) (h'' : jH) => v' = (some (.int zv)) ∧ h'' = (N, κ, ρ, zm, ν)) = Q
  have hQ : Q (some (.int zv)) (N, κ, ρ, zm, ν) := by rw [← hQe]; exact ⟨rfl, rfl⟩
  clear hQe
  refine j_aload_n dX7_fail_0 rfl ?_
  refine j_iload_n dX7_fail_1 rfl ?_
  refine j_cV1r dX7_fail_2 (r_isWall hr) ml_X7_130 my_X7_isWall mi_X7_isWall (o_165 hr) rfl (by omega) (Nat.le_of_ble_eq_true rfl) (Nat.le_of_ble_eq_true rfl) ?_
  refine j_if_eqB (tgt := 43) dX7_fail_5 (by decide) (fun c5 => ?_) (fun c5 => ?_)
  · skip
    refine j_iconst (v := (-1)) dX7_fail_43 (by decide) ?_
    (simp only [rFail, c5, reduceIte, Bool.false_eq_true, Bool.true_eq_false, and_self, and_true, true_and, and_false, false_and, not_true_eq_false, not_false_eq_true, ne_eq, decide_true, decide_false, if_true, if_false, Bool.not_eq_true, Bool.not_eq_false] at zhb; cases zhb; exact j_iret dX7_fail_44 hQ)
  · skip
    obtain ⟨i, hi, rfl⟩ := in_wall hp hp5 c5
    have ei : (nI i).toNatClampNeg = i := nI_clamp (by omega)
    refine j_iload_n dX7_fail_8 rfl ?_
    refine j_i2l dX7_fail_9 ?_
    refine j_lconst (v := 1) dX7_fail_10 (by decide) ?_
    refine j_ldc2 dX7_fail_11 ct_X7_163 ?_
    refine j_cS3r dX7_fail_14 r_in ml_X7_72 my_X7_in ms_X7_in (by omega) (Nat.le_of_ble_eq_true rfl) (Nat.le_of_ble_eq_true rfl) ?_
    refine j_if_eqB (tgt := 43) dX7_fail_17 (by decide) (fun c17 => ?_) (fun c17 => ?_)
    · skip
      refine j_iconst (v := (-1)) dX7_fail_43 (by decide) ?_
      (simp only [rFail, c5, ei, c17, reduceIte, Bool.false_eq_true, Bool.true_eq_false, and_self, and_true, true_and, and_false, false_and, not_true_eq_false, not_false_eq_true, ne_eq, decide_true, decide_false, if_true, if_false, Bool.not_eq_true, Bool.not_eq_false] at zhb; cases zhb; exact j_iret dX7_fail_44 hQ)
    · skip
      obtain ⟨kn, hn1, hn2, rfl⟩ := rin_lh (l := 1) (h := 9) (by decide) (by decide) c17
      have ekn : (nI kn).toNatClampNeg = kn := nI_clamp (by omega)
      have h512 := two_9 hn2
      refine j_iload_n dX7_fail_20 rfl ?_
      refine j_i2l dX7_fail_21 ?_
      refine j_lconst (v := 0) dX7_fail_22 (by decide) ?_
      refine j_ldc2 dX7_fail_23 ct_X7_207 ?_
      refine j_cS3r dX7_fail_26 r_in ml_X7_72 my_X7_in ms_X7_in (by omega) (Nat.le_of_ble_eq_true rfl) (Nat.le_of_ble_eq_true rfl) ?_
      refine j_if_eqB (tgt := 43) dX7_fail_29 (by decide) (fun c29 => ?_) (fun c29 => ?_)
      · skip
        refine j_iconst (v := (-1)) dX7_fail_43 (by decide) ?_
        (simp only [rFail, c5, ei, c17, ekn, c29, reduceIte, Bool.false_eq_true, Bool.true_eq_false, and_self, and_true, true_and, and_false, false_and, not_true_eq_false, not_false_eq_true, ne_eq, decide_true, decide_false, if_true, if_false, Bool.not_eq_true, Bool.not_eq_false] at zhb; cases zhb; exact j_iret dX7_fail_44 hQ)
      · skip
        refine j_iload dX7_fail_32 rfl ?_
        refine j_i2l dX7_fail_34 ?_
        refine j_lconst (v := 0) dX7_fail_35 (by decide) ?_
        refine j_lconst (v := 1) dX7_fail_36 (by decide) ?_
        refine j_cS3r dX7_fail_37 r_in ml_X7_72 my_X7_in ms_X7_in (by omega) (Nat.le_of_ble_eq_true rfl) (Nat.le_of_ble_eq_true rfl) ?_
        refine j_if_neB (tgt := 45) dX7_fail_40 (by decide) (fun c40 => ?_) (fun c40 => ?_)
        · skip
          refine j_aload_n dX7_fail_45 rfl ?_
          refine j_iconst (v := 0) dX7_fail_46 (by decide) ?_
          refine j_iload_n dX7_fail_47 rfl ?_
          refine j_cV2r dX7_fail_48 (r_stands (r := 0) (k := i) hr (by omega) (by omega)) ml_X7_138 my_X7_stands mi_X7_stands (o_165 hr) rfl (by omega) (Nat.le_of_ble_eq_true rfl) (Nat.le_of_ble_eq_true rfl) ?_
          refine j_if_neB (tgt := 57) dX7_fail_51 (by decide) (fun c51 => ?_) (fun c51 => ?_)
          · skip
            refine j_lconst (v := 0) dX7_fail_57 (by decide) ?_
            refine j_lstore_5 dX7_fail_58 rfl ?_
            refine j_lconst (v := 1) dX7_fail_60 (by decide) ?_
            refine j_lstore_7 dX7_fail_61 rfl ?_
            refine j_iconst (v := 0) dX7_fail_63 (by decide) ?_
            refine j_istore_9 dX7_fail_64 rfl ?_
            refine lr_faA hr hn2 ?_
            refine j_iconst (v := 0) dX7_fail_86 (by decide) ?_
            refine j_istore_9 dX7_fail_87 rfl ?_
            refine lr_faB (by omega) hr hn2 (by omega) h512 (fun x10 x11 x12 x13 => ?_)
            refine j_lload dX7_fail_196 rfl ?_
            refine j_lstore_9 dX7_fail_198 rfl ?_
            refine j_lload dX7_fail_200 rfl ?_
            refine j_lstore_11 dX7_fail_202 rfl ?_
            simp only [rFail, c5, ei, c17, ekn, c29, c40, c51, reduceIte, Bool.false_eq_true, Bool.true_eq_false, and_self, and_true, true_and, and_false, false_and, not_true_eq_false, not_false_eq_true, ne_eq, decide_true, decide_false, if_true, if_false, Bool.not_eq_true, Bool.not_eq_false] at zhb
            obtain ⟨g, zq, ze⟩ := Option.bind_eq_some_iff.mp zhb
            have g0 : ¬ g = 0 := fun z => by rw [if_pos z] at ze; cases ze
            rw [if_neg g0] at ze
            cases ze
            refine lr_faG hr 100 _ _ g _ _ zq (fun zbb x13 x14 => ?_)
            refine j_iload dX7_fail_229 rfl ?_
            refine j_if_ne (tgt := 242) dX7_fail_231 (by decide) (fun c231 => ?_) (fun c231 => ?_)
            · skip
              refine j_lload dX7_fail_242 rfl ?_
              refine j_lload dX7_fail_244 rfl ?_
              refine j_ldiv dX7_fail_246 g0 ?_
              refine j_l2i dX7_fail_247 ?_
              exact j_iret dX7_fail_248 (by simpa only [c231, rFaA, rFaU, reduceIte, Bool.false_eq_true, Bool.true_eq_false, and_self, and_true, true_and, and_false, false_and, not_true_eq_false, not_false_eq_true, ne_eq, decide_true, decide_false, if_true, if_false, Bool.not_eq_true, Bool.not_eq_false] using hQ)
            · skip
              refine j_lload dX7_fail_234 rfl ?_
              refine j_lload dX7_fail_236 rfl ?_
              refine j_ldiv dX7_fail_238 g0 ?_
              refine j_goto (tgt := 247) dX7_fail_239 (by decide) ?_
              refine j_l2i dX7_fail_247 ?_
              exact j_iret dX7_fail_248 (by simpa only [eq_true c231, rFaA, rFaU, reduceIte, Bool.false_eq_true, Bool.true_eq_false, and_self, and_true, true_and, and_false, false_and, not_true_eq_false, not_false_eq_true, ne_eq, decide_true, decide_false, if_true, if_false, Bool.not_eq_true, Bool.not_eq_false] using hQ)
          · skip
            refine j_bipush (v := (-2)) dX7_fail_54 (by decide) ?_
            (simp only [rFail, c5, ei, c17, ekn, c29, c40, c51, reduceIte, Bool.false_eq_true, Bool.true_eq_false, and_self, and_true, true_and, and_false, false_and, not_true_eq_false, not_false_eq_true, ne_eq, decide_true, decide_false, if_true, if_false, Bool.not_eq_true, Bool.not_eq_false] at zhb; cases zhb; exact j_iret dX7_fail_56 hQ)
        · skip
          refine j_iconst (v := (-1)) dX7_fail_43 (by decide) ?_
          (simp only [rFail, c5, ei, c17, ekn, c29, c40, reduceIte, Bool.false_eq_true, Bool.true_eq_false, and_self, and_true, true_and, and_false, false_and, not_true_eq_false, not_false_eq_true, ne_eq, decide_true, decide_false, if_true, if_false, Bool.not_eq_true, Bool.not_eq_false] at zhb; cases zhb; exact j_iret dX7_fail_44 hQ)

