def rCiL (m : jMem) (r k : Nat) : Nat → Nat → Int32
  | 0, _ => -4
  | n + 1, i => if rWF m r k (nI i) = true then nI i else rCiL m r k n (i + 1)
def rCi (m : jMem) (r k : Nat) : Int32 := rCiL m r k 9 1
theorem itO_loop {σ : Type} {f : Nat → σ → Option σ} {p : Nat} (P : Nat → σ → Prop) (E : σ → Prop) (I : Nat → σ → Prop) (hx : ∀ s, I p s → E s → P p s) (hb : ∀ i s s', i < p → I i s → f i s = some s' → P (i + 1) s' → P i s) (hI : ∀ i s s', i < p → I i s → f i s = some s' → I (i + 1) s') : ∀ n i s s', i + n = p → I i s → itO f n i s = some s' → E s' → P i s
  | 0, i, s, s', h, hi, he, hE => by
    have : i = p := by omega
    subst this
    rw [itO] at he
    cases he
    exact hx s hi hE
  | n + 1, i, s, s', h, hi, he, hE => by
    rw [itO] at he
    cases q : f i s with
    | none => rw [q] at he; cases he
    | some a => rw [q] at he; exact hb i s a (by omega) hi q (itO_loop P E I hx hb hI n (i + 1) a s' (by omega) (hI i s a (by omega) hi q) he hE)
set_option maxRecDepth 20000 in
theorem lr_ci {G : jG} {N : Nat} {κ : Nat → jK} {ρ : Nat → Nat → Option Nat} {ν : Nat → Nat → Int64} {Q : Option Value → jH → Prop} {d : Nat} (hd1 : 1 ≤ d) {r k : Nat} {μ : jMem} (hr : shR N κ ρ) (hrr : r + 52 ≤ 1196) (hk : k < 5) : ∀ n i, i + n = 10 → Q (some (.int (rCiL μ r k n i))) (N, κ, ρ, μ, ν) → J G RX7 cX7_callsIn 4 false d Q 0 0 (N, κ, ρ, μ, ν) 2 [some (.ref 165), some (.int (nI r)), some (.int (nI k)), some (.int (nI i))] []
  | 0, i, hi, hQ => by
    refine j_iload_n dX7_callsIn_2 rfl ?_
    refine j_bipush (v := 10) dX7_callsIn_3 (by decide) ?_
    refine k_icmp_ge (tgt := 26) dX7_callsIn_5 (by decide) (fun c5 c5' => ?_) (fun c5 c5' => ?_)
    · skip
      refine j_bipush (v := (-4)) dX7_callsIn_26 (by decide) ?_
      exact j_iret dX7_callsIn_28 hQ
    · skip
      exact absurd (by rw [jl10]; exact nI_le (by omega) (by omega)) c5
  | n + 1, i, hi, hQ => by
    rw [rCiL] at hQ
    refine j_iload_n dX7_callsIn_2 rfl ?_
    refine j_bipush (v := 10) dX7_callsIn_3 (by decide) ?_
    refine k_icmp_ge (tgt := 26) dX7_callsIn_5 (by decide) (fun c5 c5' => ?_) (fun c5 c5' => ?_)
    · skip
      exact absurd (by rw [jl10]; exact nI_lt (by omega) (by omega)) c5'
    · skip
      refine j_aload_n dX7_callsIn_8 rfl ?_
      refine j_iload_n dX7_callsIn_9 rfl ?_
      refine j_iload_n dX7_callsIn_10 rfl ?_
      refine j_iload_n dX7_callsIn_11 rfl ?_
      refine j_cV3r dX7_callsIn_12 (r_wouldFall (r := r) (k := k) hr (by omega) (by omega)) ml_X7_146 my_X7_wouldFall mi_X7_wouldFall (o_165 hr) rfl (by omega) (Nat.le_of_ble_eq_true rfl) (Nat.le_of_ble_eq_true rfl) ?_
      refine j_if_eqB (tgt := 20) dX7_callsIn_15 (by decide) (fun c15 => ?_) (fun c15 => ?_)
      · skip
        rw [if_neg (by rw [c15]; decide)] at hQ
        refine j_iinc_3 (v := nI (i + 1)) dX7_callsIn_20 (nI_add _ _) rfl ?_
        refine j_goto (tgt := 2) dX7_callsIn_23 (by decide) ?_
        exact lr_ci hd1 hr hrr hk n (i + 1) (by omega) hQ
      · skip
        rw [if_pos c15] at hQ
        refine j_iload_n dX7_callsIn_18 rfl ?_
        exact j_iret dX7_callsIn_19 hQ

set_option maxRecDepth 20000 in
theorem r_ci {G : jG} {N : Nat} {κ : Nat → jK} {ρ : Nat → Nat → Option Nat} {μ : Nat → Nat → Int32} {ν : Nat → Nat → Int64} {r : Nat} (hr : shR N κ ρ) (hrr : r + 52 ≤ 1196) {k : Nat} (hk : k < 5) : MT G yX7_callsIn cX7_callsIn 4 (some .int) 1 0 0 [.ref 165, .int (nI r), .int (nI k)] (N, κ, ρ, μ, ν) (some (.int (rCi μ r k))) (N, κ, ρ, μ, ν) := by
  refine jMT (ini := false) my_X7_callsIn (fun h => by cases h) (jRv_i _) (Nat.le_of_ble_eq_true rfl) ?_
  show J G RX7 cX7_callsIn 4 false 1 _ 0 0 (N, κ, ρ, μ, ν) 0 [some (.ref 165), some (.int (nI r)), some (.int (nI k)), none] []
  refine j_iconst (v := 1) dX7_callsIn_0 (by decide) ?_
  refine j_istore_3 dX7_callsIn_1 rfl ?_
  exact lr_ci (by omega) hr hrr hk 9 1 (by omega) ⟨rfl, rfl⟩

def rCalls (m : jMem) (k : Int32) : Int32 × jMem := if rIsW m k = true then (if rSt m 0 k.toNatClampNeg = true then (rCi m 0 k.toNatClampNeg, m) else (-2, m)) else (-1, m)
set_option maxRecDepth 20000 in
theorem r_calls {G : jG} {N : Nat} {κ : Nat → jK} {ρ : Nat → Nat → Option Nat} {μ : Nat → Nat → Int32} {ν : Nat → Nat → Int64} (hr : shR N κ ρ) {p : Nat} (hp : μ 165 3 = nI p) (hp5 : p ≤ 5) {k : Int32} : MT G yX7_calls cX7_calls 2 (some .int) 3 0 0 [.ref 165, .int k] (N, κ, ρ, μ, ν) (some (.int (rCalls μ k).1)) (N, κ, ρ, (rCalls μ k).2, ν) := by
  refine jMT (ini := false) my_X7_calls (fun h => by cases h) (jRv_i _) (Nat.le_of_ble_eq_true rfl) ?_
  show J G RX7 cX7_calls 2 false 3 _ 0 0 (N, κ, ρ, μ, ν) 0 [some (.ref 165), some (.int k)] []
  generalize hQe : (fun (v' : Option Value) (h'' : jH) => v' = (some (.int (rCalls μ k).1)) ∧ h'' = (N, κ, ρ, (rCalls μ k).2, ν)) = Q
  have hQ : Q (some (.int (rCalls μ k).1)) (N, κ, ρ, (rCalls μ k).2, ν) := by rw [← hQe]; exact ⟨rfl, rfl⟩
  clear hQe
  refine j_aload_n dX7_calls_0 rfl ?_
  refine j_iload_n dX7_calls_1 rfl ?_
  refine j_cV1r dX7_calls_2 (r_isWall hr) ml_X7_130 my_X7_isWall mi_X7_isWall (o_165 hr) rfl (by omega) (Nat.le_of_ble_eq_true rfl) (Nat.le_of_ble_eq_true rfl) ?_
  refine j_if_neB (tgt := 12) dX7_calls_5 (by decide) (fun c5 => ?_) (fun c5 => ?_)
  · skip
    obtain ⟨i, hi, rfl⟩ := in_wall hp hp5 c5
    have ei : (nI i).toNatClampNeg = i := nI_clamp (by omega)
    refine j_aload_n dX7_calls_12 rfl ?_
    refine j_iconst (v := 0) dX7_calls_13 (by decide) ?_
    refine j_iload_n dX7_calls_14 rfl ?_
    refine j_cV2r dX7_calls_15 (r_stands (r := 0) (k := i) hr (by omega) (by omega)) ml_X7_138 my_X7_stands mi_X7_stands (o_165 hr) rfl (by omega) (Nat.le_of_ble_eq_true rfl) (Nat.le_of_ble_eq_true rfl) ?_
    refine j_if_neB (tgt := 26) dX7_calls_18 (by decide) (fun c18 => ?_) (fun c18 => ?_)
    · skip
      refine j_aload_n dX7_calls_26 rfl ?_
      refine j_iconst (v := 0) dX7_calls_27 (by decide) ?_
      refine j_iload_n dX7_calls_28 rfl ?_
      refine j_cV2r dX7_calls_29 (r_ci (r := 0) (k := i) hr (by omega) (by omega)) ml_X7_179 my_X7_callsIn mi_X7_callsIn (o_165 hr) rfl (by omega) (Nat.le_of_ble_eq_true rfl) (Nat.le_of_ble_eq_true rfl) ?_
      exact j_iret dX7_calls_32 (by simpa only [rCalls, c5, ei, c18, reduceIte, Bool.false_eq_true, Bool.true_eq_false, and_self, and_true, true_and, and_false, false_and, not_true_eq_false, not_false_eq_true, ne_eq, decide_true, decide_false, if_true, if_false, Bool.not_eq_true, Bool.not_eq_false] using hQ)
    · skip
      refine j_bipush (v := (-2)) dX7_calls_21 (by decide) ?_
      refine j_goto (tgt := 32) dX7_calls_23 (by decide) ?_
      exact j_iret dX7_calls_32 (by simpa only [rCalls, c5, ei, c18, reduceIte, Bool.false_eq_true, Bool.true_eq_false, and_self, and_true, true_and, and_false, false_and, not_true_eq_false, not_false_eq_true, ne_eq, decide_true, decide_false, if_true, if_false, Bool.not_eq_true, Bool.not_eq_false] using hQ)
  · skip
    refine j_iconst (v := (-1)) dX7_calls_8 (by decide) ?_
    refine j_goto (tgt := 32) dX7_calls_9 (by decide) ?_
    exact j_iret dX7_calls_32 (by simpa only [rCalls, c5, reduceIte, Bool.false_eq_true, Bool.true_eq_false, and_self, and_true, true_and, and_false, false_and, not_true_eq_false, not_false_eq_true, ne_eq, decide_true, decide_false, if_true, if_false, Bool.not_eq_true, Bool.not_eq_false] using hQ)

set_option maxRecDepth 20000 in
theorem r_tries {G : jG} {N : Nat} {κ : Nat → jK} {ρ : Nat → Nat → Option Nat} {μ : Nat → Nat → Int32} {ν : Nat → Nat → Int64} (hr : shR N κ ρ) : MT G yX7_tries cX7_tries 1 none 1 0 0 [.ref 165] (N, κ, ρ, μ, ν) none (N, κ, ρ, rCopy μ 0 52, ν) := by
  refine jMT (ini := false) my_X7_tries (fun h => by cases h) jRv_v (Nat.le_of_ble_eq_true rfl) ?_
  show J G RX7 cX7_tries 1 false 1 _ 0 0 (N, κ, ρ, μ, ν) 0 [some (.ref 165)] []
  refine j_aload_n dX7_tries_0 rfl ?_
  refine j_iconst (v := 0) dX7_tries_1 (by decide) ?_
  refine j_bipush (v := 52) dX7_tries_2 (by decide) ?_
  refine j_cV2v dX7_tries_4 (r_copy (f := 0) (t := 52) hr (by omega) (by omega)) ml_X7_153 my_X7_copy mi_X7_copy (o_165 hr) rfl (by omega) (Nat.le_of_ble_eq_true rfl) (Nat.le_of_ble_eq_true rfl) ?_
  exact j_vret dX7_tries_7 ⟨rfl, rfl⟩

def rRnL (k : Nat) (n : Int32) : Nat → Nat → jMem → Int32 × jMem
  | 0, _, m => (-4, m)
  | f + 1, i, m => if rWF m 52 k n = true ∧ m 169 k ≤ m 166 (64 + k) then (nI i, m) else if m 166 (64 + k) = 7 then (-4, m) else rRnL k n f (i + 1) (rRo m 52 k)
def rRounds (m : jMem) (k n : Int32) : Int32 × jMem := if rIsW m k = true ∧ rIn n.toInt64 1 9 = true then (if rSt m 0 k.toNatClampNeg = true then rRnL k.toNatClampNeg n 8 0 (rCopy m 0 52) else (-2, m)) else (-1, m)
set_option maxRecDepth 20000 in
theorem lr_rn {G : jG} {N : Nat} {κ : Nat → jK} {ρ : Nat → Nat → Option Nat} {ν : Nat → Nat → Int64} {Q : Option Value → jH → Prop} {d : Nat} (hd1 : 1 ≤ d) {k : Nat} {n : Int32} (hr : shR N κ ρ) (hk : k < 5) : ∀ (f i : Nat) (μ : jMem), i + f = 8 → Q (some (.int (rRnL k n f i μ).1)) (N, κ, ρ, (rRnL k n f i μ).2, ν) → J G RX7 cX7_rounds 4 false d Q 0 0 (N, κ, ρ, μ, ν) 40 [some (.ref 165), some (.int (nI k)), some (.int n), some (.int (nI i))] []
  | 0, i, μ, hi, hQ => by
    refine j_iload_n dX7_rounds_40 rfl ?_
    refine j_bipush (v := 8) dX7_rounds_41 (by decide) ?_
    refine k_icmp_ge (tgt := 107) dX7_rounds_43 (by decide) (fun c43 c43' => ?_) (fun c43 c43' => ?_)
    · skip
      refine j_bipush (v := (-4)) dX7_rounds_107 (by decide) ?_
      exact j_iret dX7_rounds_109 hQ
    · skip
      exact absurd (by rw [jl8]; exact nI_le (by omega) (by omega)) c43
  | f + 1, i, μ, hi, hQ => by
    refine j_iload_n dX7_rounds_40 rfl ?_
    refine j_bipush (v := 8) dX7_rounds_41 (by decide) ?_
    refine k_icmp_ge (tgt := 107) dX7_rounds_43 (by decide) (fun c43 c43' => ?_) (fun c43 c43' => ?_)
    · skip
      exact absurd (by rw [jl8]; exact nI_lt (by omega) (by omega)) c43'
    · skip
      refine j_aload_n dX7_rounds_46 rfl ?_
      refine j_bipush (v := 52) dX7_rounds_47 (by decide) ?_
      refine j_iload_n dX7_rounds_49 rfl ?_
      refine j_iload_n dX7_rounds_50 rfl ?_
      refine j_cV3r dX7_rounds_51 (r_wouldFall (r := 52) (k := k) hr (by omega) (by omega)) ml_X7_146 my_X7_wouldFall mi_X7_wouldFall (o_165 hr) rfl (by omega) (Nat.le_of_ble_eq_true rfl) (Nat.le_of_ble_eq_true rfl) ?_
      refine j_if_eqB (tgt := 77) dX7_rounds_54 (by decide) (fun c54 => ?_) (fun c54 => ?_)
      · skip
        refine j_aload_n dX7_rounds_77 rfl ?_
        refine j_getr dX7_rounds_78 fl_X7_7 rfl (o_165 hr) (r_165_0 hr) ?_
        refine j_bipush (v := 64) dX7_rounds_81 (by decide) ?_
        refine j_iload_n dX7_rounds_83 rfl ?_
        refine j_iadd dX7_rounds_84 ?_
        refine j_iald (k := (64 + k)) dX7_rounds_85 (a_166 hr) (by simp only [jl64, nI_add, pk_mul]) (by omega) ?_
        refine j_bipush (v := 7) dX7_rounds_86 (by decide) ?_
        refine j_icmp_ne (tgt := 94) dX7_rounds_88 (by decide) (fun c88 => ?_) (fun c88 => ?_)
        · skip
          refine j_aload_n dX7_rounds_94 rfl ?_
          refine j_bipush (v := 52) dX7_rounds_95 (by decide) ?_
          refine j_iload_n dX7_rounds_97 rfl ?_
          refine j_cV2v dX7_rounds_98 (r_ro (r := 52) (k := k) hr (by omega) (by omega)) ml_X7_160 my_X7_roundsOne mi_X7_roundsOne (o_165 hr) rfl (by omega) (Nat.le_of_ble_eq_true rfl) (Nat.le_of_ble_eq_true rfl) ?_
          refine j_iinc_3 (v := nI (i + 1)) dX7_rounds_101 (nI_add _ _) rfl ?_
          refine j_goto (tgt := 40) dX7_rounds_104 (by decide) ?_
          rw [rRnL, if_neg (fun z => by rw [c54] at z; cases z.1), if_neg c88] at hQ
          exact lr_rn hd1 hr hk f (i + 1) _ (by omega) hQ
        · skip
          refine j_bipush (v := (-4)) dX7_rounds_91 (by decide) ?_
          (rw [rRnL, if_neg (fun z => by rw [c54] at z; cases z.1), if_pos c88] at hQ; exact j_iret dX7_rounds_93 hQ)
      · skip
        refine j_aload_n dX7_rounds_57 rfl ?_
        refine j_getr dX7_rounds_58 fl_X7_7 rfl (o_165 hr) (r_165_0 hr) ?_
        refine j_bipush (v := 64) dX7_rounds_61 (by decide) ?_
        refine j_iload_n dX7_rounds_63 rfl ?_
        refine j_iadd dX7_rounds_64 ?_
        refine j_iald (k := (64 + k)) dX7_rounds_65 (a_166 hr) (by simp only [jl64, nI_add, pk_mul]) (by omega) ?_
        refine j_aload_n dX7_rounds_66 rfl ?_
        refine j_getr dX7_rounds_67 fl_X7_19 rfl (o_165 hr) (r_165_6 hr) ?_
        refine j_iload_n dX7_rounds_70 rfl ?_
        refine j_iald (k := k) dX7_rounds_71 (a_169 hr) rfl (by omega) ?_
        refine k_icmp_lt (tgt := 77) dX7_rounds_72 (by decide) (fun c72 c72' => ?_) (fun c72 c72' => ?_)
        · skip
          refine j_aload_n dX7_rounds_77 rfl ?_
          refine j_getr dX7_rounds_78 fl_X7_7 rfl (o_165 hr) (r_165_0 hr) ?_
          refine j_bipush (v := 64) dX7_rounds_81 (by decide) ?_
          refine j_iload_n dX7_rounds_83 rfl ?_
          refine j_iadd dX7_rounds_84 ?_
          refine j_iald (k := (64 + k)) dX7_rounds_85 (a_166 hr) (by simp only [jl64, nI_add, pk_mul]) (by omega) ?_
          refine j_bipush (v := 7) dX7_rounds_86 (by decide) ?_
          refine j_icmp_ne (tgt := 94) dX7_rounds_88 (by decide) (fun c88 => ?_) (fun c88 => ?_)
          · skip
            refine j_aload_n dX7_rounds_94 rfl ?_
            refine j_bipush (v := 52) dX7_rounds_95 (by decide) ?_
            refine j_iload_n dX7_rounds_97 rfl ?_
            refine j_cV2v dX7_rounds_98 (r_ro (r := 52) (k := k) hr (by omega) (by omega)) ml_X7_160 my_X7_roundsOne mi_X7_roundsOne (o_165 hr) rfl (by omega) (Nat.le_of_ble_eq_true rfl) (Nat.le_of_ble_eq_true rfl) ?_
            refine j_iinc_3 (v := nI (i + 1)) dX7_rounds_101 (nI_add _ _) rfl ?_
            refine j_goto (tgt := 40) dX7_rounds_104 (by decide) ?_
            rw [rRnL, if_neg (fun z => c72' z.2), if_neg c88] at hQ
            exact lr_rn hd1 hr hk f (i + 1) _ (by omega) hQ
          · skip
            refine j_bipush (v := (-4)) dX7_rounds_91 (by decide) ?_
            (rw [rRnL, if_neg (fun z => c72' z.2), if_pos c88] at hQ; exact j_iret dX7_rounds_93 hQ)
        · skip
          refine j_iload_n dX7_rounds_75 rfl ?_
          (rw [rRnL, if_pos ⟨c54, c72'⟩] at hQ; exact j_iret dX7_rounds_76 hQ)

set_option maxRecDepth 20000 in
theorem r_rounds {G : jG} {N : Nat} {κ : Nat → jK} {ρ : Nat → Nat → Option Nat} {μ : Nat → Nat → Int32} {ν : Nat → Nat → Int64} (hr : shR N κ ρ) {p : Nat} (hp : μ 165 3 = nI p) (hp5 : p ≤ 5) {k n : Int32} : MT G yX7_rounds cX7_rounds 4 (some .int) 2 0 0 [.ref 165, .int k, .int n] (N, κ, ρ, μ, ν) (some (.int (rRounds μ k n).1)) (N, κ, ρ, (rRounds μ k n).2, ν) := by
  refine jMT (ini := false) my_X7_rounds (fun h => by cases h) (jRv_i _) (Nat.le_of_ble_eq_true rfl) ?_
  show J G RX7 cX7_rounds 4 false 2 _ 0 0 (N, κ, ρ, μ, ν) 0 [some (.ref 165), some (.int k), some (.int n), none] []
  generalize hQe : (fun (v' : Option Value) (h'' : jH) => v' = (some (.int (rRounds μ k n).1)) ∧ h'' = (N, κ, ρ, (rRounds μ k n).2, ν)) = Q
  have hQ : Q (some (.int (rRounds μ k n).1)) (N, κ, ρ, (rRounds μ k n).2, ν) := by rw [← hQe]; exact ⟨rfl, rfl⟩
  clear hQe
  refine j_aload_n dX7_rounds_0 rfl ?_
  refine j_iload_n dX7_rounds_1 rfl ?_
  refine j_cV1r dX7_rounds_2 (r_isWall hr) ml_X7_130 my_X7_isWall mi_X7_isWall (o_165 hr) rfl (by omega) (Nat.le_of_ble_eq_true rfl) (Nat.le_of_ble_eq_true rfl) ?_
  refine j_if_eqB (tgt := 20) dX7_rounds_5 (by decide) (fun c5 => ?_) (fun c5 => ?_)
  · skip
    refine j_iconst (v := (-1)) dX7_rounds_20 (by decide) ?_
    exact j_iret dX7_rounds_21 (by simpa only [rRounds, c5, reduceIte, Bool.false_eq_true, Bool.true_eq_false, and_self, and_true, true_and, and_false, false_and, not_true_eq_false, not_false_eq_true, ne_eq, decide_true, decide_false, if_true, if_false, Bool.not_eq_true, Bool.not_eq_false] using hQ)
  · skip
    obtain ⟨i, hi, rfl⟩ := in_wall hp hp5 c5
    have ei : (nI i).toNatClampNeg = i := nI_clamp (by omega)
    refine j_iload_n dX7_rounds_8 rfl ?_
    refine j_i2l dX7_rounds_9 ?_
    refine j_lconst (v := 1) dX7_rounds_10 (by decide) ?_
    refine j_ldc2 dX7_rounds_11 ct_X7_163 ?_
    refine j_cS3r dX7_rounds_14 r_in ml_X7_72 my_X7_in ms_X7_in (by omega) (Nat.le_of_ble_eq_true rfl) (Nat.le_of_ble_eq_true rfl) ?_
    refine j_if_neB (tgt := 22) dX7_rounds_17 (by decide) (fun c17 => ?_) (fun c17 => ?_)
    · skip
      refine j_aload_n dX7_rounds_22 rfl ?_
      refine j_iconst (v := 0) dX7_rounds_23 (by decide) ?_
      refine j_iload_n dX7_rounds_24 rfl ?_
      refine j_cV2r dX7_rounds_25 (r_stands (r := 0) (k := i) hr (by omega) (by omega)) ml_X7_138 my_X7_stands mi_X7_stands (o_165 hr) rfl (by omega) (Nat.le_of_ble_eq_true rfl) (Nat.le_of_ble_eq_true rfl) ?_
      refine j_if_neB (tgt := 34) dX7_rounds_28 (by decide) (fun c28 => ?_) (fun c28 => ?_)
      · skip
        refine j_aload_n dX7_rounds_34 rfl ?_
        refine j_cV0v dX7_rounds_35 (r_tries hr) ml_X7_183 my_X7_tries mi_X7_tries (o_165 hr) rfl (by omega) (Nat.le_of_ble_eq_true rfl) (Nat.le_of_ble_eq_true rfl) ?_
        refine j_iconst (v := 0) dX7_rounds_38 (by decide) ?_
        refine j_istore_3 dX7_rounds_39 rfl ?_
        exact lr_rn (by omega) hr (by omega) 8 0 _ (by omega) (by simpa only [rRounds, ei, c5, c17, c28, and_self, reduceIte] using hQ)
      · skip
        refine j_bipush (v := (-2)) dX7_rounds_31 (by decide) ?_
        exact j_iret dX7_rounds_33 (by simpa only [rRounds, c5, ei, c17, c28, reduceIte, Bool.false_eq_true, Bool.true_eq_false, and_self, and_true, true_and, and_false, false_and, not_true_eq_false, not_false_eq_true, ne_eq, decide_true, decide_false, if_true, if_false, Bool.not_eq_true, Bool.not_eq_false] using hQ)
    · skip
      refine j_iconst (v := (-1)) dX7_rounds_20 (by decide) ?_
      exact j_iret dX7_rounds_21 (by simpa only [rRounds, c5, ei, c17, reduceIte, Bool.false_eq_true, Bool.true_eq_false, and_self, and_true, true_and, and_false, false_and, not_true_eq_false, not_false_eq_true, ne_eq, decide_true, decide_false, if_true, if_false, Bool.not_eq_true, Bool.not_eq_false] using hQ)

def rDo (m : jMem) (r p : Nat) : Int32 := it (fun k (s : Int32) => s ||| (if rSt m r k = true then (0 : Int32) else 1 <<< (nI k &&& 31))) p 0 0
set_option maxRecDepth 20000 in
theorem lr_do {G : jG} {N : Nat} {κ : Nat → jK} {ρ : Nat → Nat → Option Nat} {ν : Nat → Nat → Int64} {Q : Option Value → jH → Prop} {d : Nat} (hd1 : 1 ≤ d) {r p : Nat} {μ : jMem} (hr : shR N κ ρ) (hrr : r + 52 ≤ 1196) (hp : μ 165 3 = nI p) (hp5 : p ≤ 5) (K : J G RX7 cX7_downOnes 4 false d Q 0 0 (N, κ, ρ, μ, ν) 37 [some (.ref 165), some (.int (nI r)), some (.int (it (fun k (s : Int32) => s ||| (if rSt μ r k = true then (0 : Int32) else 1 <<< (nI k &&& 31))) p 0 0)), some (.int (nI p))] []) : J G RX7 cX7_downOnes 4 false d Q 0 0 (N, κ, ρ, μ, ν) 4 [some (.ref 165), some (.int (nI r)), some (.int 0), some (.int (nI 0))] [] := by
  refine it_loop (f := fun k (s : Int32) => s ||| (if rSt μ r k = true then (0 : Int32) else 1 <<< (nI k &&& 31))) (p := p) (fun i s => J G RX7 cX7_downOnes 4 false d Q 0 0 (N, κ, ρ, μ, ν) 4 [some (.ref 165), some (.int (nI r)), some (.int s), some (.int (nI i))] []) (fun s => J G RX7 cX7_downOnes 4 false d Q 0 0 (N, κ, ρ, μ, ν) 37 [some (.ref 165), some (.int (nI r)), some (.int s), some (.int (nI p))] []) (fun _ _ => True) ?_ ?_ (fun _ _ _ _ => trivial) p 0 0 (by omega) trivial K
  · intro s hI K
    refine j_iload_n dX7_downOnes_4 rfl ?_
    refine j_aload_n dX7_downOnes_5 rfl ?_
    refine j_geti dX7_downOnes_6 fl_X7_69 rfl (o_165 hr) ?_
    refine k_icmp_ge (tgt := 37) dX7_downOnes_9 (by decide) (fun c9 c9' => ?_) (fun c9 c9' => ?_)
    · skip
      exact K
    · skip
      exact absurd (by rw [hp]; exact Int32.le_refl _) c9
  · intro i s hi hI K
    (try dsimp only at K)
    refine j_iload_n dX7_downOnes_4 rfl ?_
    refine j_aload_n dX7_downOnes_5 rfl ?_
    refine j_geti dX7_downOnes_6 fl_X7_69 rfl (o_165 hr) ?_
    refine k_icmp_ge (tgt := 37) dX7_downOnes_9 (by decide) (fun c9 c9' => ?_) (fun c9 c9' => ?_)
    · skip
      exact absurd c9 (by rw [hp]; exact nI_ge (by omega) (by omega))
    · skip
      refine j_iload_n dX7_downOnes_12 rfl ?_
      refine j_aload_n dX7_downOnes_13 rfl ?_
      refine j_iload_n dX7_downOnes_14 rfl ?_
      refine j_iload_n dX7_downOnes_15 rfl ?_
      refine j_cV2r dX7_downOnes_16 (r_stands (r := r) (k := i) hr (by omega) (by omega)) ml_X7_138 my_X7_stands mi_X7_stands (o_165 hr) rfl (by omega) (Nat.le_of_ble_eq_true rfl) (Nat.le_of_ble_eq_true rfl) ?_
      refine j_if_eqB (tgt := 26) dX7_downOnes_19 (by decide) (fun c19 => ?_) (fun c19 => ?_)
      · skip
        refine j_iconst (v := 1) dX7_downOnes_26 (by decide) ?_
        refine j_iload_n dX7_downOnes_27 rfl ?_
        refine j_ishl dX7_downOnes_28 ?_
        refine j_ior dX7_downOnes_29 ?_
        refine j_istore_2 dX7_downOnes_30 rfl ?_
        refine j_iinc_3 (v := nI (i + 1)) dX7_downOnes_31 (nI_add _ _) rfl ?_
        refine j_goto (tgt := 4) dX7_downOnes_34 (by decide) ?_
        (try simp only [c9, c9', c19, reduceIte, Bool.false_eq_true, Bool.true_eq_false, and_self, and_true, true_and, and_false, false_and, not_true_eq_false, not_false_eq_true, ne_eq, decide_true, decide_false, if_true, if_false, Bool.not_eq_true, Bool.not_eq_false] at K)
        exact K
      · skip
        refine j_iconst (v := 0) dX7_downOnes_22 (by decide) ?_
        refine j_goto (tgt := 29) dX7_downOnes_23 (by decide) ?_
        refine j_ior dX7_downOnes_29 ?_
        refine j_istore_2 dX7_downOnes_30 rfl ?_
        refine j_iinc_3 (v := nI (i + 1)) dX7_downOnes_31 (nI_add _ _) rfl ?_
        refine j_goto (tgt := 4) dX7_downOnes_34 (by decide) ?_
        (try simp only [c9, c9', c19, reduceIte, Bool.false_eq_true, Bool.true_eq_false, and_self, and_true, true_and, and_false, false_and, not_true_eq_false, not_false_eq_true, ne_eq, decide_true, decide_false, if_true, if_false, Bool.not_eq_true, Bool.not_eq_false] at K)
        exact K

set_option maxRecDepth 20000 in
theorem r_do {G : jG} {N : Nat} {κ : Nat → jK} {ρ : Nat → Nat → Option Nat} {μ : Nat → Nat → Int32} {ν : Nat → Nat → Int64} {r p : Nat} (hr : shR N κ ρ) (hrr : r + 52 ≤ 1196) (hp : μ 165 3 = nI p) (hp5 : p ≤ 5) : MT G yX7_downOnes cX7_downOnes 4 (some .int) 1 0 0 [.ref 165, .int (nI r)] (N, κ, ρ, μ, ν) (some (.int (rDo μ r p))) (N, κ, ρ, μ, ν) := by
  refine jMT (ini := false) my_X7_downOnes (fun h => by cases h) (jRv_i _) (Nat.le_of_ble_eq_true rfl) ?_
  show J G RX7 cX7_downOnes 4 false 1 _ 0 0 (N, κ, ρ, μ, ν) 0 [some (.ref 165), some (.int (nI r)), none, none] []
  refine j_iconst (v := 0) dX7_downOnes_0 (by decide) ?_
  refine j_istore_2 dX7_downOnes_1 rfl ?_
  refine j_iconst (v := 0) dX7_downOnes_2 (by decide) ?_
  refine j_istore_3 dX7_downOnes_3 rfl ?_
  refine lr_do (by omega) hr hrr hp hp5 ?_
  refine j_iload_n dX7_downOnes_37 rfl ?_
  exact j_iret dX7_downOnes_38 ⟨rfl, rfl⟩

