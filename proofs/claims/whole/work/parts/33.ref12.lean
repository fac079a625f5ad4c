theorem jl79 : (79 : Int32) = nI 79 := rfl
def rSvH (m : jMem) (i : Nat) : Nat → Int32 → Int32 := fun c s => s ||| (if 0 < m 166 (27 + 5 * c + i) then 1 <<< (nI c &&& 31) else 0)
def rSvM (m : jMem) (i p : Nat) : Int32 := it (rSvH m i) p 0 0
def rSvC (i : Nat) (t : Int32) : Nat → jMem → jMem := fun c m => jup m 166 (79 + 5 * c + i) (if rHas t (nI c) = true then 0 else m 166 (27 + 5 * c + i))
def rSvP (i : Nat) (t : Int32) (p : Nat) (m : jMem) : jMem := it (rSvC i t) p 0 (rCopy m 0 52)
def rSvF (i j p : Nat) (mask : Int32) (t : Nat) (s : Int32 × Int32 × jMem) : Option (Int32 × Int32 × jMem) :=
  if nI t &&& (mask ^^^ (-1)) = 0 ∧ rOnes (nI t) < s.2.1 then (rFl 52 p 6 true 0 (rSvP i (nI t) p s.2.2) j).map (fun a => if rSt a 52 i = true then (nI t, rOnes (nI t), a) else (s.1, s.2.1, a)) else some s
def rSave (m : jMem) (x y : Int32) (p : Nat) : Option (Int32 × jMem) :=
  if rIsW m x = true ∧ rIsW m y = true ∧ ¬ x = y then (if rSt m 0 x.toNatClampNeg = true ∧ rSt m 0 y.toNatClampNeg = true then (itO (rSvF x.toNatClampNeg y.toNatClampNeg p (rSvM m x.toNatClampNeg p)) (2 ^ p) 0 (rSvM m x.toNatClampNeg p, 1000000, m)).map (fun s => (s.1, s.2.2)) else some (-2, m)) else some (-1, m)
theorem rSvC_lo (i : Nat) (t : Int32) (c : Nat) (m : jMem) {x y : Nat} (h : x ≠ 166) : rSvC i t c m x y = m x y := jup_oth h
theorem rSvP_lo (i : Nat) (t : Int32) (p : Nat) (m : jMem) {x y : Nat} (h : x ≠ 166) : rSvP i t p m x y = m x y := by
  unfold rSvP
  rw [it_lo (fun c m => rSvC_lo i t c m h), rCopy_lo _ _ _ h]
theorem rSvF_lo {i j p t x y : Nat} {mask : Int32} {s s' : Int32 × Int32 × jMem} (h : x ≠ 166) (h6 : x ≠ 176) (h7 : x ≠ 177) (e : rSvF i j p mask t s = some s') : s'.2.2 x y = s.2.2 x y := by
  unfold rSvF at e
  split at e
  · obtain ⟨a, ha, rfl⟩ := Option.map_eq_some_iff.mp e
    have : a x y = s.2.2 x y := (rFl_lo h _ _ _ _ _ _ (Or.inl ⟨h6, h7⟩) ha).trans (rSvP_lo i (nI t) p s.2.2 h)
    split
    · exact this
    · exact this
  · cases e; rfl
theorem shl_p {p : Nat} (h : p ≤ 5) : (1 : Int32) <<< (nI p &&& 31) = nI (2 ^ p) := by
  have : p = 0 ∨ p = 1 ∨ p = 2 ∨ p = 3 ∨ p = 4 ∨ p = 5 := by omega
  rcases this with e | e | e | e | e | e <;> subst e <;> decide
theorem two_p {p : Nat} (h : p ≤ 5) : 2 ^ p ≤ 32 := by
  have : p = 0 ∨ p = 1 ∨ p = 2 ∨ p = 3 ∨ p = 4 ∨ p = 5 := by omega
  rcases this with e | e | e | e | e | e <;> subst e <;> decide
set_option maxRecDepth 20000 in
theorem lr_sv1 {G : jG} {N : Nat} {κ : Nat → jK} {ρ : Nat → Nat → Option Nat} {ν : Nat → Nat → Int64} {Q : Option Value → jH → Prop} {d : Nat} {i0 j0 p : Nat} {μ : jMem} (hr : shR N κ ρ) (hp : μ 165 3 = nI p) (hp5 : p ≤ 5) (hi0 : i0 < 5) (K : J G RX7 cX7_save 8 false d Q 0 0 (N, κ, ρ, μ, ν) 92 [some (.ref 165), some (.int (nI i0)), some (.int (nI j0)), some (.int (it (rSvH μ i0) p 0 0)), some (.int (nI p)), none, none, none] []) : J G RX7 cX7_save 8 false d Q 0 0 (N, κ, ρ, μ, ν) 49 [some (.ref 165), some (.int (nI i0)), some (.int (nI j0)), some (.int 0), some (.int (nI 0)), none, none, none] [] := by
  refine it_loop (f := rSvH μ i0) (p := p) (fun i s => J G RX7 cX7_save 8 false d Q 0 0 (N, κ, ρ, μ, ν) 49 [some (.ref 165), some (.int (nI i0)), some (.int (nI j0)), some (.int s), some (.int (nI i)), none, none, none] []) (fun s => J G RX7 cX7_save 8 false d Q 0 0 (N, κ, ρ, μ, ν) 92 [some (.ref 165), some (.int (nI i0)), some (.int (nI j0)), some (.int s), some (.int (nI p)), none, none, none] []) (fun _ _ => True) ?_ ?_ (fun _ _ _ _ => trivial) p 0 0 (by omega) trivial K
  · intro s hI K
    refine j_iload dX7_save_49 rfl ?_
    refine j_aload_n dX7_save_51 rfl ?_
    refine j_geti dX7_save_52 fl_X7_69 rfl (o_165 hr) ?_
    refine k_icmp_ge (tgt := 92) dX7_save_55 (by decide) (fun c55 c55' => ?_) (fun c55 c55' => ?_)
    · skip
      exact K
    · skip
      exact absurd (by rw [hp]; exact Int32.le_refl _) c55
  · intro i s hi hI K
    (try dsimp only at K)
    unfold rSvH at K
    (try dsimp only at K)
    refine j_iload dX7_save_49 rfl ?_
    refine j_aload_n dX7_save_51 rfl ?_
    refine j_geti dX7_save_52 fl_X7_69 rfl (o_165 hr) ?_
    refine k_icmp_ge (tgt := 92) dX7_save_55 (by decide) (fun c55 c55' => ?_) (fun c55 c55' => ?_)
    · skip
      exact absurd c55 (by rw [hp]; exact nI_ge (by omega) (by omega))
    · skip
      refine j_iload_n dX7_save_58 rfl ?_
      refine j_aload_n dX7_save_59 rfl ?_
      refine j_getr dX7_save_60 fl_X7_7 rfl (o_165 hr) (r_165_0 hr) ?_
      refine j_bipush (v := 27) dX7_save_63 (by decide) ?_
      refine j_iconst (v := 5) dX7_save_65 (by decide) ?_
      refine j_iload dX7_save_66 rfl ?_
      refine j_imul dX7_save_68 ?_
      refine j_iadd dX7_save_69 ?_
      refine j_iload_n dX7_save_70 rfl ?_
      refine j_iadd dX7_save_71 ?_
      refine j_iald (k := ((27 + (5 * i)) + i0)) dX7_save_72 (a_166 hr) (by simp only [jl5, jl27, nI_add, pk_mul]) (by omega) ?_
      refine k_if_le (tgt := 83) dX7_save_73 (by decide) (fun c73 c73' => ?_) (fun c73 c73' => ?_)
      · skip
        refine j_iconst (v := 0) dX7_save_83 (by decide) ?_
        refine j_ior dX7_save_84 ?_
        refine j_istore_3 dX7_save_85 rfl ?_
        refine j_iinc_4 (v := nI (i + 1)) dX7_save_86 (nI_add _ _) rfl ?_
        refine j_goto (tgt := 49) dX7_save_89 (by decide) ?_
        (try simp only [c55, c55', c73, c73', reduceIte, Bool.false_eq_true, Bool.true_eq_false, and_self, and_true, true_and, and_false, false_and, not_true_eq_false, not_false_eq_true, ne_eq, decide_true, decide_false, if_true, if_false, Bool.not_eq_true, Bool.not_eq_false] at K)
        exact K
      · skip
        refine j_iconst (v := 1) dX7_save_76 (by decide) ?_
        refine j_iload dX7_save_77 rfl ?_
        refine j_ishl dX7_save_79 ?_
        refine j_goto (tgt := 84) dX7_save_80 (by decide) ?_
        refine j_ior dX7_save_84 ?_
        refine j_istore_3 dX7_save_85 rfl ?_
        refine j_iinc_4 (v := nI (i + 1)) dX7_save_86 (nI_add _ _) rfl ?_
        refine j_goto (tgt := 49) dX7_save_89 (by decide) ?_
        (try simp only [c55, c55', c73, c73', reduceIte, Bool.false_eq_true, Bool.true_eq_false, and_self, and_true, true_and, and_false, false_and, not_true_eq_false, not_false_eq_true, ne_eq, decide_true, decide_false, if_true, if_false, Bool.not_eq_true, Bool.not_eq_false] at K)
        exact K

set_option maxRecDepth 20000 in
theorem lr_sv3 {G : jG} {N : Nat} {κ : Nat → jK} {ρ : Nat → Nat → Option Nat} {ν : Nat → Nat → Int64} {Q : Option Value → jH → Prop} {d : Nat} (hd1 : 1 ≤ d) {i0 j0 p : Nat} {mask x4 x5 t : Int32} {μ : jMem} (hr : shR N κ ρ) (hp : μ 165 3 = nI p) (hp5 : p ≤ 5) (hi0 : i0 < 5) (K : J G RX7 cX7_save 8 false d Q 0 0 (N, κ, ρ, (it (rSvC i0 t) p 0 μ), ν) 196 [some (.ref 165), some (.int (nI i0)), some (.int (nI j0)), some (.int mask), some (.int x4), some (.int x5), some (.int t), some (.int (nI p))] []) : J G RX7 cX7_save 8 false d Q 0 0 (N, κ, ρ, μ, ν) 139 [some (.ref 165), some (.int (nI i0)), some (.int (nI j0)), some (.int mask), some (.int x4), some (.int x5), some (.int t), some (.int (nI 0))] [] := by
  refine it_loop (f := rSvC i0 t) (p := p) (fun i s => J G RX7 cX7_save 8 false d Q 0 0 (N, κ, ρ, s, ν) 139 [some (.ref 165), some (.int (nI i0)), some (.int (nI j0)), some (.int mask), some (.int x4), some (.int x5), some (.int t), some (.int (nI i))] []) (fun s => J G RX7 cX7_save 8 false d Q 0 0 (N, κ, ρ, s, ν) 196 [some (.ref 165), some (.int (nI i0)), some (.int (nI j0)), some (.int mask), some (.int x4), some (.int x5), some (.int t), some (.int (nI p))] []) (fun _ s => s 165 3 = nI p) ?_ ?_ (fun i s _ h => by rw [rSvC_lo i0 t i s (by decide)]; exact h) p 0 μ (by omega) hp K
  · intro s hI K
    replace hp := hI
    refine j_iload dX7_save_139 rfl ?_
    refine j_aload_n dX7_save_141 rfl ?_
    refine j_geti dX7_save_142 fl_X7_69 rfl (o_165 hr) ?_
    refine k_icmp_ge (tgt := 196) dX7_save_145 (by decide) (fun c145 c145' => ?_) (fun c145 c145' => ?_)
    · skip
      exact K
    · skip
      exact absurd (by rw [hp]; exact Int32.le_refl _) c145
  · intro i s hi hI K
    (try dsimp only at K)
    replace hp := hI
    unfold rSvC at K
    (try dsimp only at K)
    refine j_iload dX7_save_139 rfl ?_
    refine j_aload_n dX7_save_141 rfl ?_
    refine j_geti dX7_save_142 fl_X7_69 rfl (o_165 hr) ?_
    refine k_icmp_ge (tgt := 196) dX7_save_145 (by decide) (fun c145 c145' => ?_) (fun c145 c145' => ?_)
    · skip
      exact absurd c145 (by rw [hp]; exact nI_ge (by omega) (by omega))
    · skip
      refine j_aload_n dX7_save_148 rfl ?_
      refine j_getr dX7_save_149 fl_X7_7 rfl (o_165 hr) (r_165_0 hr) ?_
      refine j_bipush (v := 79) dX7_save_152 (by decide) ?_
      refine j_iconst (v := 5) dX7_save_154 (by decide) ?_
      refine j_iload dX7_save_155 rfl ?_
      refine j_imul dX7_save_157 ?_
      refine j_iadd dX7_save_158 ?_
      refine j_iload_n dX7_save_159 rfl ?_
      refine j_iadd dX7_save_160 ?_
      refine j_iload dX7_save_161 rfl ?_
      refine j_iload dX7_save_163 rfl ?_
      refine j_cS2r dX7_save_165 r_has ml_X7_201 my_X7_has ms_X7_has (by omega) (Nat.le_of_ble_eq_true rfl) (Nat.le_of_ble_eq_true rfl) ?_
      refine j_if_eqB (tgt := 175) dX7_save_168 (by decide) (fun c168 => ?_) (fun c168 => ?_)
      · skip
        refine j_aload_n dX7_save_175 rfl ?_
        refine j_getr dX7_save_176 fl_X7_7 rfl (o_165 hr) (r_165_0 hr) ?_
        refine j_bipush (v := 27) dX7_save_179 (by decide) ?_
        refine j_iconst (v := 5) dX7_save_181 (by decide) ?_
        refine j_iload dX7_save_182 rfl ?_
        refine j_imul dX7_save_184 ?_
        refine j_iadd dX7_save_185 ?_
        refine j_iload_n dX7_save_186 rfl ?_
        refine j_iadd dX7_save_187 ?_
        refine j_iald (k := ((27 + (5 * i)) + i0)) dX7_save_188 (a_166 hr) (by simp only [jl5, jl27, nI_add, pk_mul]) (by omega) ?_
        refine j_iast (k := ((79 + (5 * i)) + i0)) dX7_save_189 (a_166 hr) (by simp only [jl5, jl79, nI_add, pk_mul]) (by omega) ?_
        refine j_iinc_7 (v := nI (i + 1)) dX7_save_190 (nI_add _ _) rfl ?_
        refine j_goto (tgt := 139) dX7_save_193 (by decide) ?_
        (try simp only [c145, c145', c168, reduceIte, Bool.false_eq_true, Bool.true_eq_false, and_self, and_true, true_and, and_false, false_and, not_true_eq_false, not_false_eq_true, ne_eq, decide_true, decide_false, if_true, if_false, Bool.not_eq_true, Bool.not_eq_false] at K)
        exact K
      · skip
        refine j_iconst (v := 0) dX7_save_171 (by decide) ?_
        refine j_goto (tgt := 189) dX7_save_172 (by decide) ?_
        refine j_iast (k := ((79 + (5 * i)) + i0)) dX7_save_189 (a_166 hr) (by simp only [jl5, jl79, nI_add, pk_mul]) (by omega) ?_
        refine j_iinc_7 (v := nI (i + 1)) dX7_save_190 (nI_add _ _) rfl ?_
        refine j_goto (tgt := 139) dX7_save_193 (by decide) ?_
        (try simp only [c145, c145', c168, reduceIte, Bool.false_eq_true, Bool.true_eq_false, and_self, and_true, true_and, and_false, false_and, not_true_eq_false, not_false_eq_true, ne_eq, decide_true, decide_false, if_true, if_false, Bool.not_eq_true, Bool.not_eq_false] at K)
        exact K

set_option maxRecDepth 20000 in
theorem lr_sv2 {G : jG} {N : Nat} {κ : Nat → jK} {ρ : Nat → Nat → Option Nat} {ν : Nat → Nat → Int64} {Q : Option Value → jH → Prop} {d : Nat} (hd1 : 3 ≤ d) {i0 j0 p : Nat} {mask : Int32} (hr : shR N κ ρ) (hp5 : p ≤ 5) (hi0 : i0 < 5) (hj0 : j0 < 5) {s0 s1 : Int32 × Int32 × jMem} (hp : s0.2.2 165 3 = nI p) {x7 : Option Value} (zhb : itO (rSvF i0 j0 p mask) (2 ^ p) 0 s0 = some s1) (K : ∀ x7, J G RX7 cX7_save 8 false d Q 0 0 (N, κ, ρ, s1.2.2, ν) 231 [some (.ref 165), some (.int (nI i0)), some (.int (nI j0)), some (.int mask), some (.int s1.1), some (.int s1.2.1), some (.int (nI (2 ^ p))), x7] []) : J G RX7 cX7_save 8 false d Q 0 0 (N, κ, ρ, s0.2.2, ν) 102 [some (.ref 165), some (.int (nI i0)), some (.int (nI j0)), some (.int mask), some (.int s0.1), some (.int s0.2.1), some (.int (nI 0)), x7] [] := by
  have h32 := two_p hp5
  refine itO_loop (f := rSvF i0 j0 p mask) (p := 2 ^ p) (fun i s => ∀ x7, J G RX7 cX7_save 8 false d Q 0 0 (N, κ, ρ, s.2.2, ν) 102 [some (.ref 165), some (.int (nI i0)), some (.int (nI j0)), some (.int mask), some (.int s.1), some (.int s.2.1), some (.int (nI i)), x7] []) (fun s => ∀ x7, J G RX7 cX7_save 8 false d Q 0 0 (N, κ, ρ, s.2.2, ν) 231 [some (.ref 165), some (.int (nI i0)), some (.int (nI j0)), some (.int mask), some (.int s.1), some (.int s.2.1), some (.int (nI (2 ^ p))), x7] []) (fun _ s => s.2.2 165 3 = nI p) ?_ ?_ (fun i s s' _ h e => (rSvF_lo (by decide) (by decide) (by decide) e).trans h) (2 ^ p) 0 s0 s1 (by omega) hp zhb K x7
  · intro s hp K x7
    refine j_iload dX7_save_102 rfl ?_
    refine j_iconst (v := 1) dX7_save_104 (by decide) ?_
    refine j_aload_n dX7_save_105 rfl ?_
    refine j_geti dX7_save_106 fl_X7_69 rfl (o_165 hr) ?_
    refine j_ishl dX7_save_109 ?_
    refine j_topi (w := nI (2 ^ p)) (by rw [hp]; exact shl_p hp5) ?_
    refine k_icmp_ge (tgt := 231) dX7_save_110 (by decide) (fun c110 c110' => ?_) (fun c110 c110' => ?_)
    · skip
      exact K x7
    · skip
      exact absurd (Int32.le_refl _) c110
  · intro i s s' hi hp e K x7
    unfold rSvF at e
    refine j_iload dX7_save_102 rfl ?_
    refine j_iconst (v := 1) dX7_save_104 (by decide) ?_
    refine j_aload_n dX7_save_105 rfl ?_
    refine j_geti dX7_save_106 fl_X7_69 rfl (o_165 hr) ?_
    refine j_ishl dX7_save_109 ?_
    refine j_topi (w := nI (2 ^ p)) (by rw [hp]; exact shl_p hp5) ?_
    refine k_icmp_ge (tgt := 231) dX7_save_110 (by decide) (fun c110 c110' => ?_) (fun c110 c110' => ?_)
    · skip
      exact absurd c110 (nI_ge (by omega) (by omega))
    · skip
      refine j_iload dX7_save_113 rfl ?_
      refine j_iload_n dX7_save_115 rfl ?_
      refine j_iconst (v := (-1)) dX7_save_116 (by decide) ?_
      refine j_ixor dX7_save_117 ?_
      refine j_iand dX7_save_118 ?_
      refine j_if_ne (tgt := 225) dX7_save_119 (by decide) (fun c119 => ?_) (fun c119 => ?_)
      · skip
        refine j_iinc_6 (v := nI (i + 1)) dX7_save_225 (nI_add _ _) rfl ?_
        refine j_goto (tgt := 102) dX7_save_228 (by decide) ?_
        rw [if_neg (fun z => c119 z.1)] at e
        cases e
        exact K x7
      · skip
        refine j_iload dX7_save_122 rfl ?_
        refine j_cS1r dX7_save_124 r_ones ml_X7_189 my_X7_ones ms_X7_ones (by omega) (Nat.le_of_ble_eq_true rfl) (Nat.le_of_ble_eq_true rfl) ?_
        refine j_iload dX7_save_127 rfl ?_
        refine k_icmp_ge (tgt := 225) dX7_save_129 (by decide) (fun c129 c129' => ?_) (fun c129 c129' => ?_)
        · skip
          refine j_iinc_6 (v := nI (i + 1)) dX7_save_225 (nI_add _ _) rfl ?_
          refine j_goto (tgt := 102) dX7_save_228 (by decide) ?_
          rw [if_neg (fun z => c129' z.2)] at e
          cases e
          exact K x7
        · skip
          rw [if_pos ⟨c119, c129'⟩] at e
          obtain ⟨za, zq, ze⟩ := Option.map_eq_some_iff.mp e
          refine j_aload_n dX7_save_132 rfl ?_
          refine j_cV0v dX7_save_133 (r_tries hr) ml_X7_183 my_X7_tries mi_X7_tries (o_165 hr) rfl (by omega) (Nat.le_of_ble_eq_true rfl) (Nat.le_of_ble_eq_true rfl) ?_
          refine j_iconst (v := 0) dX7_save_136 (by decide) ?_
          refine j_istore_7 dX7_save_137 rfl ?_
          refine lr_sv3 (by omega) hr ((rCopy_lo _ _ _ (by decide)).trans hp) hp5 hi0 ?_
          refine j_aload_n dX7_save_196 rfl ?_
          refine j_bipush (v := 52) dX7_save_197 (by decide) ?_
          refine j_iload_n dX7_save_199 rfl ?_
          refine j_iconst (v := 1) dX7_save_200 (by decide) ?_
          refine j_cV3v dX7_save_201 (r_falls (r := 52) (k := j0) (b := true) hr (by omega) ((rSvP_lo _ _ _ _ (by decide)).trans hp) hp5 hj0 zq) ml_X7_149 my_X7_falls mi_X7_falls (o_165 hr) rfl (by omega) (Nat.le_of_ble_eq_true rfl) (Nat.le_of_ble_eq_true rfl) ?_
          refine j_aload_n dX7_save_204 rfl ?_
          refine j_bipush (v := 52) dX7_save_205 (by decide) ?_
          refine j_iload_n dX7_save_207 rfl ?_
          refine j_cV2r dX7_save_208 (r_stands (r := 52) (k := i0) hr (by omega) (by omega)) ml_X7_138 my_X7_stands mi_X7_stands (o_165 hr) rfl (by omega) (Nat.le_of_ble_eq_true rfl) (Nat.le_of_ble_eq_true rfl) ?_
          refine j_if_eqB (tgt := 225) dX7_save_211 (by decide) (fun c211 => ?_) (fun c211 => ?_)
          · skip
            rw [if_neg (by rw [c211]; decide)] at ze
            cases ze
            refine j_iinc_6 (v := nI (i + 1)) dX7_save_225 (nI_add _ _) rfl ?_
            refine j_goto (tgt := 102) dX7_save_228 (by decide) ?_
            exact K _
          · skip
            rw [if_pos c211] at ze
            cases ze
            refine j_iload dX7_save_214 rfl ?_
            refine j_istore_4 dX7_save_216 rfl ?_
            refine j_iload dX7_save_218 rfl ?_
            refine j_cS1r dX7_save_220 r_ones ml_X7_189 my_X7_ones ms_X7_ones (by omega) (Nat.le_of_ble_eq_true rfl) (Nat.le_of_ble_eq_true rfl) ?_
            refine j_istore_5 dX7_save_223 rfl ?_
            refine j_iinc_6 (v := nI (i + 1)) dX7_save_225 (nI_add _ _) rfl ?_
            refine j_goto (tgt := 102) dX7_save_228 (by decide) ?_
            exact K _

set_option maxRecDepth 20000 in
theorem r_save {G : jG} {N : Nat} {κ : Nat → jK} {ρ : Nat → Nat → Option Nat} {μ : Nat → Nat → Int32} {ν : Nat → Nat → Int64} (hr : shR N κ ρ) {p : Nat} (hp : μ 165 3 = nI p) (hp5 : p ≤ 5) {x y : Int32} {zv : Int32} {zm : jMem} (zhb : rSave μ x y p = some (zv, zm)) : MT G yX7_save cX7_save 8 (some .int) 4 0 0 [.ref 165, .int x, .int y] (N, κ, ρ, μ, ν) (some (.int zv)) (N, κ, ρ, zm, ν) := by
  refine jMT (ini := false) my_X7_save (fun h => by cases h) (jRv_i _) (Nat.le_of_ble_eq_true rfl) ?_
  show J G RX7 cX7_save 8 false 4 _ 0 0 (N, κ, ρ, μ, ν) 0 [some (.ref 165), some (.int x), some (.int y), none, none, none, none, none] []
  generalize hQe : (fun (v' : Option Value) (h'' : jH) => v' = (some (.int zv)) ∧ h'' = (N, κ, ρ, zm, ν)) = Q
  have hQ : Q (some (.int zv)) (N, κ, ρ, zm, ν) := by rw [← hQe]; exact ⟨rfl, rfl⟩
  clear hQe
  refine j_aload_n dX7_save_0 rfl ?_
  refine j_iload_n dX7_save_1 rfl ?_
  refine j_cV1r dX7_save_2 (r_isWall hr) ml_X7_130 my_X7_isWall mi_X7_isWall (o_165 hr) rfl (by omega) (Nat.le_of_ble_eq_true rfl) (Nat.le_of_ble_eq_true rfl) ?_
  refine j_if_eqB (tgt := 21) dX7_save_5 (by decide) (fun c5 => ?_) (fun c5 => ?_)
  · skip
    refine j_iconst (v := (-1)) dX7_save_21 (by decide) ?_
    (simp only [rSave, c5, reduceIte, Bool.false_eq_true, Bool.true_eq_false, and_self, and_true, true_and, and_false, false_and, not_true_eq_false, not_false_eq_true, ne_eq, decide_true, decide_false, if_true, if_false, Bool.not_eq_true, Bool.not_eq_false] at zhb; cases zhb; exact j_iret dX7_save_22 hQ)
  · skip
    obtain ⟨i, hi, rfl⟩ := in_wall hp hp5 c5
    have ei : (nI i).toNatClampNeg = i := nI_clamp (by omega)
    refine j_aload_n dX7_save_8 rfl ?_
    refine j_iload_n dX7_save_9 rfl ?_
    refine j_cV1r dX7_save_10 (r_isWall hr) ml_X7_130 my_X7_isWall mi_X7_isWall (o_165 hr) rfl (by omega) (Nat.le_of_ble_eq_true rfl) (Nat.le_of_ble_eq_true rfl) ?_
    refine j_if_eqB (tgt := 21) dX7_save_13 (by decide) (fun c13 => ?_) (fun c13 => ?_)
    · skip
      refine j_iconst (v := (-1)) dX7_save_21 (by decide) ?_
      (simp only [rSave, c5, ei, c13, reduceIte, Bool.false_eq_true, Bool.true_eq_false, and_self, and_true, true_and, and_false, false_and, not_true_eq_false, not_false_eq_true, ne_eq, decide_true, decide_false, if_true, if_false, Bool.not_eq_true, Bool.not_eq_false] at zhb; cases zhb; exact j_iret dX7_save_22 hQ)
    · skip
      obtain ⟨j, hj, rfl⟩ := in_wall hp hp5 c13
      have ej : (nI j).toNatClampNeg = j := nI_clamp (by omega)
      refine j_iload_n dX7_save_16 rfl ?_
      refine j_iload_n dX7_save_17 rfl ?_
      refine j_icmp_ne (tgt := 23) dX7_save_18 (by decide) (fun c18 => ?_) (fun c18 => ?_)
      · skip
        refine j_aload_n dX7_save_23 rfl ?_
        refine j_iconst (v := 0) dX7_save_24 (by decide) ?_
        refine j_iload_n dX7_save_25 rfl ?_
        refine j_cV2r dX7_save_26 (r_stands (r := 0) (k := i) hr (by omega) (by omega)) ml_X7_138 my_X7_stands mi_X7_stands (o_165 hr) rfl (by omega) (Nat.le_of_ble_eq_true rfl) (Nat.le_of_ble_eq_true rfl) ?_
        refine j_if_eqB (tgt := 41) dX7_save_29 (by decide) (fun c29 => ?_) (fun c29 => ?_)
        · skip
          refine j_bipush (v := (-2)) dX7_save_41 (by decide) ?_
          (simp only [rSave, c5, ei, c13, ej, c18, c29, reduceIte, Bool.false_eq_true, Bool.true_eq_false, and_self, and_true, true_and, and_false, false_and, not_true_eq_false, not_false_eq_true, ne_eq, decide_true, decide_false, if_true, if_false, Bool.not_eq_true, Bool.not_eq_false] at zhb; cases zhb; exact j_iret dX7_save_43 hQ)
        · skip
          refine j_aload_n dX7_save_32 rfl ?_
          refine j_iconst (v := 0) dX7_save_33 (by decide) ?_
          refine j_iload_n dX7_save_34 rfl ?_
          refine j_cV2r dX7_save_35 (r_stands (r := 0) (k := j) hr (by omega) (by omega)) ml_X7_138 my_X7_stands mi_X7_stands (o_165 hr) rfl (by omega) (Nat.le_of_ble_eq_true rfl) (Nat.le_of_ble_eq_true rfl) ?_
          refine j_if_neB (tgt := 44) dX7_save_38 (by decide) (fun c38 => ?_) (fun c38 => ?_)
          · skip
            refine j_iconst (v := 0) dX7_save_44 (by decide) ?_
            refine j_istore_3 dX7_save_45 rfl ?_
            refine j_iconst (v := 0) dX7_save_46 (by decide) ?_
            refine j_istore_4 dX7_save_47 rfl ?_
            refine lr_sv1 hr hp hp5 (by omega) ?_
            refine j_iload_n dX7_save_92 rfl ?_
            refine j_istore_4 dX7_save_93 rfl ?_
            refine j_ldc dX7_save_95 ct_X7_192 ?_
            refine j_istore_5 dX7_save_97 rfl ?_
            refine j_iconst (v := 0) dX7_save_99 (by decide) ?_
            refine j_istore_6 dX7_save_100 rfl ?_
            simp only [rSave, c5, ei, c13, ej, c18, c29, c38, reduceIte, Bool.false_eq_true, Bool.true_eq_false, and_self, and_true, true_and, and_false, false_and, not_true_eq_false, not_false_eq_true, ne_eq, decide_true, decide_false, if_true, if_false, Bool.not_eq_true, Bool.not_eq_false] at zhb
            obtain ⟨zs, zq, ze⟩ := Option.map_eq_some_iff.mp zhb
            cases ze
            refine lr_sv2 (s0 := (rSvM μ i p, 1000000, μ)) (by omega) hr hp5 (by omega) (by omega) hp zq (fun x7 => ?_)
            refine j_iload dX7_save_231 rfl ?_
            exact j_iret dX7_save_233 hQ
          · skip
            refine j_bipush (v := (-2)) dX7_save_41 (by decide) ?_
            (simp only [rSave, c5, ei, c13, ej, c18, c29, c38, reduceIte, Bool.false_eq_true, Bool.true_eq_false, and_self, and_true, true_and, and_false, false_and, not_true_eq_false, not_false_eq_true, ne_eq, decide_true, decide_false, if_true, if_false, Bool.not_eq_true, Bool.not_eq_false] at zhb; cases zhb; exact j_iret dX7_save_43 hQ)
      · skip
        refine j_iconst (v := (-1)) dX7_save_21 (by decide) ?_
        (simp only [rSave, c5, ei, c13, ej, eq_true c18, reduceIte, Bool.false_eq_true, Bool.true_eq_false, and_self, and_true, true_and, and_false, false_and, not_true_eq_false, not_false_eq_true, ne_eq, decide_true, decide_false, if_true, if_false, Bool.not_eq_true, Bool.not_eq_false] at zhb; cases zhb; exact j_iret dX7_save_22 hQ)

