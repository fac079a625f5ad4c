/-! THE REFERENCE (165): w 166, kind 167, laid 168, leans 169, notes 170 to 172, text 173, readWall 174, readProp 175, fallen 176, next 177, blasted 178, sums 179, best 180 -/
def rIn (v l h : Int64) : Bool := decide (l ≤ v ∧ v ≤ h)
theorem i64_nle {a b : Int64} (h : a < b) : ¬ b ≤ a := Int64.not_le.mpr h
theorem i64_le {a b : Int64} (h : ¬ a < b) : b ≤ a := Int64.not_lt.mp h
set_option maxRecDepth 20000 in
theorem r_in {G : jG} {N : Nat} {κ : Nat → jK} {ρ : Nat → Nat → Option Nat} {μ : Nat → Nat → Int32} {ν : Nat → Nat → Int64} {v l h : Int64} : MT G yX7_in cX7_in 6 (some .boolean) 0 0 0 [.long v, .long l, .long h] (N, κ, ρ, μ, ν) (some (.int (jb (rIn v l h)))) (N, κ, ρ, μ, ν) := by
  refine jMT (ini := false) my_X7_in (fun h => by cases h) (jRv_jb _) (Nat.le_of_ble_eq_true rfl) ?_
  show J G RX7 cX7_in 6 false 0 _ 0 0 (N, κ, ρ, μ, ν) 0 [some (.long v), none, some (.long l), none, some (.long h), none] []
  refine j_lload_n dX7_in_0 rfl ?_
  refine j_lload_n dX7_in_1 rfl ?_
  refine j_lcmp dX7_in_2 ?_
  refine k_if_lt (tgt := 17) dX7_in_3 (by decide) (fun c3 c3' => ?_) (fun c3 c3' => ?_)
  · skip
    refine j_iconst (v := 0) dX7_in_17 (by decide) ?_
    exact j_iret dX7_in_18 ⟨by have e3 := i64_nle ((lg_cmp_lt _ _).mp c3); simp [rIn, jb, e3], rfl⟩
  · skip
    refine j_lload_n dX7_in_6 rfl ?_
    refine j_lload dX7_in_7 rfl ?_
    refine j_lcmp dX7_in_9 ?_
    refine k_if_gt (tgt := 17) dX7_in_10 (by decide) (fun c10 c10' => ?_) (fun c10 c10' => ?_)
    · skip
      refine j_iconst (v := 0) dX7_in_17 (by decide) ?_
      exact j_iret dX7_in_18 ⟨by have e10 := i64_nle ((lg_cmp_gt _ _).mp c10); simp [rIn, jb, e10], rfl⟩
    · skip
      refine j_iconst (v := 1) dX7_in_13 (by decide) ?_
      refine j_goto (tgt := 18) dX7_in_14 (by decide) ?_
      exact j_iret dX7_in_18 ⟨by have e3 := i64_le (fun z => c3 ((lg_cmp_lt _ _).mpr z)); have e10 := i64_le (fun z => c10 ((lg_cmp_gt _ _).mpr z)); simp [rIn, jb, e3, e10], rfl⟩

def rHas (set k : Int32) : Bool := decide (set >>> (k &&& 31) &&& 1 = 1)
set_option maxRecDepth 20000 in
theorem r_has {G : jG} {N : Nat} {κ : Nat → jK} {ρ : Nat → Nat → Option Nat} {μ : Nat → Nat → Int32} {ν : Nat → Nat → Int64} {s k : Int32} : MT G yX7_has cX7_has 2 (some .boolean) 0 0 0 [.int s, .int k] (N, κ, ρ, μ, ν) (some (.int (jb (rHas s k)))) (N, κ, ρ, μ, ν) := by
  refine jMT (ini := false) my_X7_has (fun h => by cases h) (jRv_jb _) (Nat.le_of_ble_eq_true rfl) ?_
  show J G RX7 cX7_has 2 false 0 _ 0 0 (N, κ, ρ, μ, ν) 0 [some (.int s), some (.int k)] []
  refine j_iload_n dX7_has_0 rfl ?_
  refine j_iload_n dX7_has_1 rfl ?_
  refine j_ishr dX7_has_2 ?_
  refine j_iconst (v := 1) dX7_has_3 (by decide) ?_
  refine j_iand dX7_has_4 ?_
  refine j_iconst (v := 1) dX7_has_5 (by decide) ?_
  refine j_icmp_ne (tgt := 13) dX7_has_6 (by decide) (fun c6 => ?_) (fun c6 => ?_)
  · skip
    refine j_iconst (v := 0) dX7_has_13 (by decide) ?_
    exact j_iret dX7_has_14 ⟨by simp [rHas, jb, c6], rfl⟩
  · skip
    refine j_iconst (v := 1) dX7_has_9 (by decide) ?_
    refine j_goto (tgt := 14) dX7_has_10 (by decide) ?_
    exact j_iret dX7_has_14 ⟨by simp [rHas, jb, eq_true c6], rfl⟩

def rOnes (s : Int32) : Int32 := it (fun k n => n + (s >>> (nI k &&& 31) &&& 1)) 5 0 0
set_option maxRecDepth 20000 in
theorem lr_ones {G : jG} {N : Nat} {κ : Nat → jK} {ρ : Nat → Nat → Option Nat} {ν : Nat → Nat → Int64} {Q : Option Value → jH → Prop} {d : Nat} {st : Int32} {μ : jMem} (K : J G RX7 cX7_ones 3 false d Q 0 0 (N, κ, ρ, μ, ν) 23 [some (.int st), some (.int (it (fun k n => n + (st >>> (nI k &&& 31) &&& 1)) 5 0 0)), some (.int (nI 5))] []) : J G RX7 cX7_ones 3 false d Q 0 0 (N, κ, ρ, μ, ν) 4 [some (.int st), some (.int 0), some (.int (nI 0))] [] := by
  refine it_loop (f := fun k n => n + (st >>> (nI k &&& 31) &&& 1)) (p := 5) (fun i s => J G RX7 cX7_ones 3 false d Q 0 0 (N, κ, ρ, μ, ν) 4 [some (.int st), some (.int s), some (.int (nI i))] []) (fun s => J G RX7 cX7_ones 3 false d Q 0 0 (N, κ, ρ, μ, ν) 23 [some (.int st), some (.int s), some (.int (nI 5))] []) (fun _ _ => True) ?_ ?_ (fun _ _ _ _ => trivial) 5 0 0 (by omega) trivial K
  · intro s hI K
    refine j_iload_n dX7_ones_4 rfl ?_
    refine j_iconst (v := 5) dX7_ones_5 (by decide) ?_
    refine k_icmp_ge (tgt := 23) dX7_ones_6 (by decide) (fun c6 c6' => ?_) (fun c6 c6' => ?_)
    · skip
      exact K
    · skip
      exact absurd (by decide) c6
  · intro i s hi hI K
    (try dsimp only at K)
    refine j_iload_n dX7_ones_4 rfl ?_
    refine j_iconst (v := 5) dX7_ones_5 (by decide) ?_
    refine k_icmp_ge (tgt := 23) dX7_ones_6 (by decide) (fun c6 c6' => ?_) (fun c6 c6' => ?_)
    · skip
      exact absurd c6 (by rw [jl5]; exact nI_ge hi (by decide))
    · skip
      refine j_iload_n dX7_ones_9 rfl ?_
      refine j_iload_n dX7_ones_10 rfl ?_
      refine j_iload_n dX7_ones_11 rfl ?_
      refine j_ishr dX7_ones_12 ?_
      refine j_iconst (v := 1) dX7_ones_13 (by decide) ?_
      refine j_iand dX7_ones_14 ?_
      refine j_iadd dX7_ones_15 ?_
      refine j_istore_1 dX7_ones_16 rfl ?_
      refine j_iinc_2 (v := nI (i + 1)) dX7_ones_17 (nI_add _ _) rfl ?_
      refine j_goto (tgt := 4) dX7_ones_20 (by decide) ?_
      (try simp only [c6, c6', reduceIte, Bool.false_eq_true, Bool.true_eq_false, and_self, and_true, true_and, and_false, false_and, not_true_eq_false, not_false_eq_true, ne_eq, decide_true, decide_false, if_true, if_false, Bool.not_eq_true, Bool.not_eq_false] at K)
      exact K

set_option maxRecDepth 20000 in
theorem r_ones {G : jG} {N : Nat} {κ : Nat → jK} {ρ : Nat → Nat → Option Nat} {μ : Nat → Nat → Int32} {ν : Nat → Nat → Int64} {s : Int32} : MT G yX7_ones cX7_ones 3 (some .int) 0 0 0 [.int s] (N, κ, ρ, μ, ν) (some (.int (rOnes s))) (N, κ, ρ, μ, ν) := by
  refine jMT (ini := false) my_X7_ones (fun h => by cases h) (jRv_i _) (Nat.le_of_ble_eq_true rfl) ?_
  show J G RX7 cX7_ones 3 false 0 _ 0 0 (N, κ, ρ, μ, ν) 0 [some (.int s), none, none] []
  refine j_iconst (v := 0) dX7_ones_0 (by decide) ?_
  refine j_istore_1 dX7_ones_1 rfl ?_
  refine j_iconst (v := 0) dX7_ones_2 (by decide) ?_
  refine j_istore_2 dX7_ones_3 rfl ?_
  refine lr_ones ?_
  refine j_iload_n dX7_ones_23 rfl ?_
  exact j_iret dX7_ones_24 ⟨rfl, rfl⟩

def rCopy (m : jMem) (f t : Nat) : jMem := it (fun k m => jup m 166 (t + k) (m 166 (f + k))) 52 0 m
set_option maxRecDepth 20000 in
theorem lr_copy {G : jG} {N : Nat} {κ : Nat → jK} {ρ : Nat → Nat → Option Nat} {ν : Nat → Nat → Int64} {Q : Option Value → jH → Prop} {d : Nat} {f t : Nat} {μ : jMem} (hr : shR N κ ρ) (hf : f + 52 ≤ 1196) (ht : t + 52 ≤ 1196) (K : J G RX7 cX7_copy 4 false d Q 0 0 (N, κ, ρ, (it (fun k m => jup m 166 (t + k) (m 166 (f + k))) 52 0 μ), ν) 30 [some (.ref 165), some (.int (nI f)), some (.int (nI t)), some (.int (nI 52))] []) : J G RX7 cX7_copy 4 false d Q 0 0 (N, κ, ρ, μ, ν) 2 [some (.ref 165), some (.int (nI f)), some (.int (nI t)), some (.int (nI 0))] [] := by
  refine it_loop (f := fun k m => jup m 166 (t + k) (m 166 (f + k))) (p := 52) (fun i s => J G RX7 cX7_copy 4 false d Q 0 0 (N, κ, ρ, s, ν) 2 [some (.ref 165), some (.int (nI f)), some (.int (nI t)), some (.int (nI i))] []) (fun s => J G RX7 cX7_copy 4 false d Q 0 0 (N, κ, ρ, s, ν) 30 [some (.ref 165), some (.int (nI f)), some (.int (nI t)), some (.int (nI 52))] []) (fun _ _ => True) ?_ ?_ (fun _ _ _ _ => trivial) 52 0 μ (by omega) trivial K
  · intro s hI K
    refine j_iload_n dX7_copy_2 rfl ?_
    refine j_bipush (v := 52) dX7_copy_3 (by decide) ?_
    refine k_icmp_ge (tgt := 30) dX7_copy_5 (by decide) (fun c5 c5' => ?_) (fun c5 c5' => ?_)
    · skip
      exact K
    · skip
      exact absurd (by decide) c5
  · intro i s hi hI K
    (try dsimp only at K)
    refine j_iload_n dX7_copy_2 rfl ?_
    refine j_bipush (v := 52) dX7_copy_3 (by decide) ?_
    refine k_icmp_ge (tgt := 30) dX7_copy_5 (by decide) (fun c5 c5' => ?_) (fun c5 c5' => ?_)
    · skip
      exact absurd c5 (by rw [jl52]; exact nI_ge hi (by decide))
    · skip
      refine j_aload_n dX7_copy_8 rfl ?_
      refine j_getr dX7_copy_9 fl_X7_7 rfl (o_165 hr) (r_165_0 hr) ?_
      refine j_iload_n dX7_copy_12 rfl ?_
      refine j_iload_n dX7_copy_13 rfl ?_
      refine j_iadd dX7_copy_14 ?_
      refine j_aload_n dX7_copy_15 rfl ?_
      refine j_getr dX7_copy_16 fl_X7_7 rfl (o_165 hr) (r_165_0 hr) ?_
      refine j_iload_n dX7_copy_19 rfl ?_
      refine j_iload_n dX7_copy_20 rfl ?_
      refine j_iadd dX7_copy_21 ?_
      refine j_iald (k := (f + i)) dX7_copy_22 (a_166 hr) (by simp only [nI_add, pk_mul]) (by omega) ?_
      refine j_iast (k := (t + i)) dX7_copy_23 (a_166 hr) (by simp only [nI_add, pk_mul]) (by omega) ?_
      refine j_iinc_3 (v := nI (i + 1)) dX7_copy_24 (nI_add _ _) rfl ?_
      refine j_goto (tgt := 2) dX7_copy_27 (by decide) ?_
      (try simp only [c5, c5', reduceIte, Bool.false_eq_true, Bool.true_eq_false, and_self, and_true, true_and, and_false, false_and, not_true_eq_false, not_false_eq_true, ne_eq, decide_true, decide_false, if_true, if_false, Bool.not_eq_true, Bool.not_eq_false] at K)
      exact K

set_option maxRecDepth 20000 in
theorem r_copy {G : jG} {N : Nat} {κ : Nat → jK} {ρ : Nat → Nat → Option Nat} {μ : Nat → Nat → Int32} {ν : Nat → Nat → Int64} (hr : shR N κ ρ) {f t : Nat} (hf : f + 52 ≤ 1196) (ht : t + 52 ≤ 1196) : MT G yX7_copy cX7_copy 4 none 0 0 0 [.ref 165, .int (nI f), .int (nI t)] (N, κ, ρ, μ, ν) none (N, κ, ρ, rCopy μ f t, ν) := by
  refine jMT (ini := false) my_X7_copy (fun h => by cases h) jRv_v (Nat.le_of_ble_eq_true rfl) ?_
  show J G RX7 cX7_copy 4 false 0 _ 0 0 (N, κ, ρ, μ, ν) 0 [some (.ref 165), some (.int (nI f)), some (.int (nI t)), none] []
  refine j_iconst (v := 0) dX7_copy_0 (by decide) ?_
  refine j_istore_3 dX7_copy_1 rfl ?_
  refine lr_copy hr hf ht ?_
  exact j_vret dX7_copy_30 ⟨rfl, rfl⟩

def rIsW (m : jMem) (k : Int32) : Bool := rIn k.toInt64 0 (m 165 3 - 1).toInt64
set_option maxRecDepth 20000 in
theorem r_isWall {G : jG} {N : Nat} {κ : Nat → jK} {ρ : Nat → Nat → Option Nat} {μ : Nat → Nat → Int32} {ν : Nat → Nat → Int64} (hr : shR N κ ρ) {k : Int32} : MT G yX7_isWall cX7_isWall 2 (some .boolean) 1 0 0 [.ref 165, .int k] (N, κ, ρ, μ, ν) (some (.int (jb (rIsW μ k)))) (N, κ, ρ, μ, ν) := by
  refine jMT (ini := false) my_X7_isWall (fun h => by cases h) (jRv_jb _) (Nat.le_of_ble_eq_true rfl) ?_
  show J G RX7 cX7_isWall 2 false 1 _ 0 0 (N, κ, ρ, μ, ν) 0 [some (.ref 165), some (.int k)] []
  refine j_iload_n dX7_isWall_0 rfl ?_
  refine j_i2l dX7_isWall_1 ?_
  refine j_lconst (v := 0) dX7_isWall_2 (by decide) ?_
  refine j_aload_n dX7_isWall_3 rfl ?_
  refine j_geti dX7_isWall_4 fl_X7_69 rfl (o_165 hr) ?_
  refine j_iconst (v := 1) dX7_isWall_7 (by decide) ?_
  refine j_isub dX7_isWall_8 ?_
  refine j_i2l dX7_isWall_9 ?_
  refine j_cS3r dX7_isWall_10 r_in ml_X7_72 my_X7_in ms_X7_in (by omega) (Nat.le_of_ble_eq_true rfl) (Nat.le_of_ble_eq_true rfl) ?_
  exact j_iret dX7_isWall_13 ⟨rfl, rfl⟩

theorem in_wall {k m : Int32} {p : Nat} (e : m = nI p) (hp : p ≤ 5) (h : rIn k.toInt64 0 (m - 1).toInt64 = true) : ∃ i, i < p ∧ k = nI i := by
  subst e
  simp only [rIn, decide_eq_true_eq] at h
  obtain ⟨h1, h2⟩ := h
  have z : (0 : Int64).toInt = 0 := by decide
  rw [Int64.le_iff_toInt_le, Int32.toInt_toInt64, z] at h1
  rw [Int64.le_iff_toInt_le, Int32.toInt_toInt64, Int32.toInt_toInt64] at h2
  have e1 : (nI p - 1).toInt = (p : Int) - 1 := by rw [jl1]; exact pk_sub_toInt (by omega) (by omega)
  rw [e1] at h2
  have h0 : ¬ k < 0 := by
    rw [Int32.lt_iff_toInt_lt]
    have : (0 : Int32).toInt = 0 := by decide
    omega
  obtain ⟨i, hi, rfl⟩ := nI_of h0
  rw [nI_toInt hi] at h2
  exact ⟨i, by omega, rfl⟩
def rStart (m : jMem) : jMem := it (fun k m => jup m 175 k 0) 25 0 (jup (jup m 165 15 0) 165 18 0)
set_option maxRecDepth 20000 in
theorem lr_st {G : jG} {N : Nat} {κ : Nat → jK} {ρ : Nat → Nat → Option Nat} {ν : Nat → Nat → Int64} {Q : Option Value → jH → Prop} {d : Nat} {μ : jMem} (hr : shR N κ ρ) (K : J G RX7 cX7_starts 2 false d Q 0 0 (N, κ, ρ, (it (fun k m => jup m 175 k 0) 25 0 μ), ν) 31 [some (.ref 165), some (.int (nI 25))] []) : J G RX7 cX7_starts 2 false d Q 0 0 (N, κ, ρ, μ, ν) 12 [some (.ref 165), some (.int (nI 0))] [] := by
  refine it_loop (f := fun k m => jup m 175 k 0) (p := 25) (fun i s => J G RX7 cX7_starts 2 false d Q 0 0 (N, κ, ρ, s, ν) 12 [some (.ref 165), some (.int (nI i))] []) (fun s => J G RX7 cX7_starts 2 false d Q 0 0 (N, κ, ρ, s, ν) 31 [some (.ref 165), some (.int (nI 25))] []) (fun _ _ => True) ?_ ?_ (fun _ _ _ _ => trivial) 25 0 μ (by omega) trivial K
  · intro s hI K
    refine j_iload_n dX7_starts_12 rfl ?_
    refine j_bipush (v := 25) dX7_starts_13 (by decide) ?_
    refine k_icmp_ge (tgt := 31) dX7_starts_15 (by decide) (fun c15 c15' => ?_) (fun c15 c15' => ?_)
    · skip
      exact K
    · skip
      exact absurd (by decide) c15
  · intro i s hi hI K
    (try dsimp only at K)
    refine j_iload_n dX7_starts_12 rfl ?_
    refine j_bipush (v := 25) dX7_starts_13 (by decide) ?_
    refine k_icmp_ge (tgt := 31) dX7_starts_15 (by decide) (fun c15 c15' => ?_) (fun c15 c15' => ?_)
    · skip
      exact absurd c15 (by rw [jl25]; exact nI_ge hi (by decide))
    · skip
      refine j_aload_n dX7_starts_18 rfl ?_
      refine j_getr dX7_starts_19 fl_X7_37 rfl (o_165 hr) (r_165_17 hr) ?_
      refine j_iload_n dX7_starts_22 rfl ?_
      refine j_iconst (v := 0) dX7_starts_23 (by decide) ?_
      refine j_iast (k := i) dX7_starts_24 (a_175 hr) rfl (by omega) ?_
      refine j_iinc_1 (v := nI (i + 1)) dX7_starts_25 (nI_add _ _) rfl ?_
      refine j_goto (tgt := 12) dX7_starts_28 (by decide) ?_
      (try simp only [c15, c15', reduceIte, Bool.false_eq_true, Bool.true_eq_false, and_self, and_true, true_and, and_false, false_and, not_true_eq_false, not_false_eq_true, ne_eq, decide_true, decide_false, if_true, if_false, Bool.not_eq_true, Bool.not_eq_false] at K)
      exact K

set_option maxRecDepth 20000 in
theorem r_starts {G : jG} {N : Nat} {κ : Nat → jK} {ρ : Nat → Nat → Option Nat} {μ : Nat → Nat → Int32} {ν : Nat → Nat → Int64} (hr : shR N κ ρ) : MT G yX7_starts cX7_starts 2 none 0 0 0 [.ref 165] (N, κ, ρ, μ, ν) none (N, κ, ρ, rStart μ, ν) := by
  refine jMT (ini := false) my_X7_starts (fun h => by cases h) jRv_v (Nat.le_of_ble_eq_true rfl) ?_
  show J G RX7 cX7_starts 2 false 0 _ 0 0 (N, κ, ρ, μ, ν) 0 [some (.ref 165), none] []
  refine j_aload_n dX7_starts_0 rfl ?_
  refine j_iconst (v := 0) dX7_starts_1 (by decide) ?_
  refine j_puti dX7_starts_2 fl_X7_76 rfl (o_165 hr) ?_
  refine j_aload_n dX7_starts_5 rfl ?_
  refine j_iconst (v := 0) dX7_starts_6 (by decide) ?_
  refine j_puti dX7_starts_7 fl_X7_62 rfl (o_165 hr) ?_
  refine j_iconst (v := 0) dX7_starts_10 (by decide) ?_
  refine j_istore_1 dX7_starts_11 rfl ?_
  refine lr_st hr ?_
  exact j_vret dX7_starts_31 ⟨rfl, rfl⟩

def rAddW (m : jMem) (n : Nat) (k t l : Int32) : jMem :=
  let m := jup (jup (jup m 174 (3 * n) k) 174 (3 * n + 1) t) 174 (3 * n + 2) l
  jup m 165 15 (m 165 15 + 1)
set_option maxRecDepth 20000 in
theorem r_addsWall {G : jG} {N : Nat} {κ : Nat → jK} {ρ : Nat → Nat → Option Nat} {μ : Nat → Nat → Int32} {ν : Nat → Nat → Int64} (hr : shR N κ ρ) {n : Nat} {k t l : Int32} (hn : μ 165 15 = nI n) (hn5 : n < 5) : MT G yX7_addsWall cX7_addsWall 4 none 0 0 0 [.ref 165, .int k, .int t, .int l] (N, κ, ρ, μ, ν) none (N, κ, ρ, rAddW μ n k t l, ν) := by
  refine jMT (ini := false) my_X7_addsWall (fun h => by cases h) jRv_v (Nat.le_of_ble_eq_true rfl) ?_
  show J G RX7 cX7_addsWall 4 false 0 _ 0 0 (N, κ, ρ, μ, ν) 0 [some (.ref 165), some (.int k), some (.int t), some (.int l)] []
  refine j_aload_n dX7_addsWall_0 rfl ?_
  refine j_getr dX7_addsWall_1 fl_X7_34 rfl (o_165 hr) (r_165_16 hr) ?_
  refine j_iconst (v := 3) dX7_addsWall_4 (by decide) ?_
  refine j_aload_n dX7_addsWall_5 rfl ?_
  refine j_geti dX7_addsWall_6 fl_X7_76 rfl (o_165 hr) ?_
  refine j_imul dX7_addsWall_9 ?_
  refine j_iload_n dX7_addsWall_10 rfl ?_
  refine j_iast (k := (3 * n)) dX7_addsWall_11 (a_174 hr) (by rw [hn]; simp only [jl3, pk_mul]) (by omega) ?_
  refine j_aload_n dX7_addsWall_12 rfl ?_
  refine j_getr dX7_addsWall_13 fl_X7_34 rfl (o_165 hr) (r_165_16 hr) ?_
  refine j_iconst (v := 3) dX7_addsWall_16 (by decide) ?_
  refine j_aload_n dX7_addsWall_17 rfl ?_
  refine j_geti dX7_addsWall_18 fl_X7_76 rfl (o_165 hr) ?_
  refine j_imul dX7_addsWall_21 ?_
  refine j_iconst (v := 1) dX7_addsWall_22 (by decide) ?_
  refine j_iadd dX7_addsWall_23 ?_
  refine j_iload_n dX7_addsWall_24 rfl ?_
  refine j_iast (k := (3 * n + 1)) dX7_addsWall_25 (a_174 hr) (by simp only [jup_oth (show (165 : Nat) ≠ 174 by decide)]; rw [hn]; simp only [jl1, jl2, jl3, nI_add, pk_mul]) (by omega) ?_
  refine j_aload_n dX7_addsWall_26 rfl ?_
  refine j_getr dX7_addsWall_27 fl_X7_34 rfl (o_165 hr) (r_165_16 hr) ?_
  refine j_iconst (v := 3) dX7_addsWall_30 (by decide) ?_
  refine j_aload_n dX7_addsWall_31 rfl ?_
  refine j_geti dX7_addsWall_32 fl_X7_76 rfl (o_165 hr) ?_
  refine j_imul dX7_addsWall_35 ?_
  refine j_iconst (v := 2) dX7_addsWall_36 (by decide) ?_
  refine j_iadd dX7_addsWall_37 ?_
  refine j_iload_n dX7_addsWall_38 rfl ?_
  refine j_iast (k := (3 * n + 2)) dX7_addsWall_39 (a_174 hr) (by simp only [jup_oth (show (165 : Nat) ≠ 174 by decide)]; rw [hn]; simp only [jl1, jl2, jl3, nI_add, pk_mul]) (by omega) ?_
  refine j_aload_n dX7_addsWall_40 rfl ?_
  refine j_dup dX7_addsWall_41 rfl ?_
  refine j_geti dX7_addsWall_42 fl_X7_76 rfl (o_165 hr) ?_
  refine j_iconst (v := 1) dX7_addsWall_45 (by decide) ?_
  refine j_iadd dX7_addsWall_46 ?_
  refine j_puti dX7_addsWall_47 fl_X7_76 rfl (o_165 hr) ?_
  exact j_vret dX7_addsWall_50 ⟨rfl, rfl⟩

def rBg2 : Nat → jMem → jMem := fun k m =>
  let m := jup m 167 k (m 174 (3 * k))
  let m := jup m 168 k (m 174 (3 * k + 1))
  let m := jup m 169 k (m 174 (3 * k + 2))
  jup m 166 (2 + k) (m 168 k)
def rBegin (m : jMem) (n : Nat) : jMem :=
  let m := it (fun k m => jup m 166 (27 + k) (m 175 k)) 25 0 (it rBg2 n 0 (it (fun k m => jup m 166 k 0) 52 0 (jup m 165 3 (m 165 15))))
  jup (jup (jup (jup m 166 0 (m 165 18)) 165 1 0) 165 2 0) 165 7 0
theorem rBg2_165 (k : Nat) (m : jMem) (j : Nat) : rBg2 k m 165 j = m 165 j := by
  simp only [rBg2, jup_oth (show (165 : Nat) ≠ 166 by decide), jup_oth (show (165 : Nat) ≠ 167 by decide), jup_oth (show (165 : Nat) ≠ 168 by decide), jup_oth (show (165 : Nat) ≠ 169 by decide)]
set_option maxRecDepth 20000 in
theorem lr_bg1 {G : jG} {N : Nat} {κ : Nat → jK} {ρ : Nat → Nat → Option Nat} {ν : Nat → Nat → Int64} {Q : Option Value → jH → Prop} {d : Nat} {μ : jMem} (hr : shR N κ ρ) (K : J G RX7 cX7_begins 2 false d Q 0 0 (N, κ, ρ, (it (fun k m => jup m 166 k 0) 52 0 μ), ν) 29 [some (.ref 165), some (.int (nI 52))] []) : J G RX7 cX7_begins 2 false d Q 0 0 (N, κ, ρ, μ, ν) 10 [some (.ref 165), some (.int (nI 0))] [] := by
  refine it_loop (f := fun k m => jup m 166 k 0) (p := 52) (fun i s => J G RX7 cX7_begins 2 false d Q 0 0 (N, κ, ρ, s, ν) 10 [some (.ref 165), some (.int (nI i))] []) (fun s => J G RX7 cX7_begins 2 false d Q 0 0 (N, κ, ρ, s, ν) 29 [some (.ref 165), some (.int (nI 52))] []) (fun _ _ => True) ?_ ?_ (fun _ _ _ _ => trivial) 52 0 μ (by omega) trivial K
  · intro s hI K
    refine j_iload_n dX7_begins_10 rfl ?_
    refine j_bipush (v := 52) dX7_begins_11 (by decide) ?_
    refine k_icmp_ge (tgt := 29) dX7_begins_13 (by decide) (fun c13 c13' => ?_) (fun c13 c13' => ?_)
    · skip
      exact K
    · skip
      exact absurd (by decide) c13
  · intro i s hi hI K
    (try dsimp only at K)
    refine j_iload_n dX7_begins_10 rfl ?_
    refine j_bipush (v := 52) dX7_begins_11 (by decide) ?_
    refine k_icmp_ge (tgt := 29) dX7_begins_13 (by decide) (fun c13 c13' => ?_) (fun c13 c13' => ?_)
    · skip
      exact absurd c13 (by rw [jl52]; exact nI_ge hi (by decide))
    · skip
      refine j_aload_n dX7_begins_16 rfl ?_
      refine j_getr dX7_begins_17 fl_X7_7 rfl (o_165 hr) (r_165_0 hr) ?_
      refine j_iload_n dX7_begins_20 rfl ?_
      refine j_iconst (v := 0) dX7_begins_21 (by decide) ?_
      refine j_iast (k := i) dX7_begins_22 (a_166 hr) rfl (by omega) ?_
      refine j_iinc_1 (v := nI (i + 1)) dX7_begins_23 (nI_add _ _) rfl ?_
      refine j_goto (tgt := 10) dX7_begins_26 (by decide) ?_
      (try simp only [c13, c13', reduceIte, Bool.false_eq_true, Bool.true_eq_false, and_self, and_true, true_and, and_false, false_and, not_true_eq_false, not_false_eq_true, ne_eq, decide_true, decide_false, if_true, if_false, Bool.not_eq_true, Bool.not_eq_false] at K)
      exact K

set_option maxRecDepth 20000 in
theorem lr_bg2 {G : jG} {N : Nat} {κ : Nat → jK} {ρ : Nat → Nat → Option Nat} {ν : Nat → Nat → Int64} {Q : Option Value → jH → Prop} {d : Nat} {n : Nat} {μ : jMem} (hr : shR N κ ρ) (hn : μ 165 3 = nI n) (hn5 : n ≤ 5) (K : J G RX7 cX7_begins 2 false d Q 0 0 (N, κ, ρ, (it (rBg2) n 0 μ), ν) 105 [some (.ref 165), some (.int (nI n))] []) : J G RX7 cX7_begins 2 false d Q 0 0 (N, κ, ρ, μ, ν) 31 [some (.ref 165), some (.int (nI 0))] [] := by
  refine it_loop (f := rBg2) (p := n) (fun i s => J G RX7 cX7_begins 2 false d Q 0 0 (N, κ, ρ, s, ν) 31 [some (.ref 165), some (.int (nI i))] []) (fun s => J G RX7 cX7_begins 2 false d Q 0 0 (N, κ, ρ, s, ν) 105 [some (.ref 165), some (.int (nI n))] []) (fun _ s => s 165 3 = nI n) ?_ ?_ (fun i s _ h => by rw [rBg2_165]; exact h) n 0 μ (by omega) hn K
  · intro s hI K
    replace hn := hI
    refine j_iload_n dX7_begins_31 rfl ?_
    refine j_aload_n dX7_begins_32 rfl ?_
    refine j_geti dX7_begins_33 fl_X7_69 rfl (o_165 hr) ?_
    refine k_icmp_ge (tgt := 105) dX7_begins_36 (by decide) (fun c36 c36' => ?_) (fun c36 c36' => ?_)
    · skip
      exact K
    · skip
      exact absurd (by rw [hn]; exact Int32.le_refl _) c36
  · intro i s hi hI K
    (try dsimp only at K)
    replace hn := hI
    refine j_iload_n dX7_begins_31 rfl ?_
    refine j_aload_n dX7_begins_32 rfl ?_
    refine j_geti dX7_begins_33 fl_X7_69 rfl (o_165 hr) ?_
    refine k_icmp_ge (tgt := 105) dX7_begins_36 (by decide) (fun c36 c36' => ?_) (fun c36 c36' => ?_)
    · skip
      exact absurd c36 (by rw [hn]; exact nI_ge hi (by omega))
    · skip
      refine j_aload_n dX7_begins_39 rfl ?_
      refine j_getr dX7_begins_40 fl_X7_13 rfl (o_165 hr) (r_165_4 hr) ?_
      refine j_iload_n dX7_begins_43 rfl ?_
      refine j_aload_n dX7_begins_44 rfl ?_
      refine j_getr dX7_begins_45 fl_X7_34 rfl (o_165 hr) (r_165_16 hr) ?_
      refine j_iconst (v := 3) dX7_begins_48 (by decide) ?_
      refine j_iload_n dX7_begins_49 rfl ?_
      refine j_imul dX7_begins_50 ?_
      refine j_iald (k := (3 * i)) dX7_begins_51 (a_174 hr) (by simp only [jl3, nI_add, pk_mul]) (by omega) ?_
      refine j_iast (k := i) dX7_begins_52 (a_167 hr) rfl (by omega) ?_
      refine j_aload_n dX7_begins_53 rfl ?_
      refine j_getr dX7_begins_54 fl_X7_16 rfl (o_165 hr) (r_165_5 hr) ?_
      refine j_iload_n dX7_begins_57 rfl ?_
      refine j_aload_n dX7_begins_58 rfl ?_
      refine j_getr dX7_begins_59 fl_X7_34 rfl (o_165 hr) (r_165_16 hr) ?_
      refine j_iconst (v := 3) dX7_begins_62 (by decide) ?_
      refine j_iload_n dX7_begins_63 rfl ?_
      refine j_imul dX7_begins_64 ?_
      refine j_iconst (v := 1) dX7_begins_65 (by decide) ?_
      refine j_iadd dX7_begins_66 ?_
      refine j_iald (k := ((3 * i) + 1)) dX7_begins_67 (a_174 hr) (by simp only [jl1, jl3, nI_add, pk_mul]) (by omega) ?_
      refine j_iast (k := i) dX7_begins_68 (a_168 hr) rfl (by omega) ?_
      refine j_aload_n dX7_begins_69 rfl ?_
      refine j_getr dX7_begins_70 fl_X7_19 rfl (o_165 hr) (r_165_6 hr) ?_
      refine j_iload_n dX7_begins_73 rfl ?_
      refine j_aload_n dX7_begins_74 rfl ?_
      refine j_getr dX7_begins_75 fl_X7_34 rfl (o_165 hr) (r_165_16 hr) ?_
      refine j_iconst (v := 3) dX7_begins_78 (by decide) ?_
      refine j_iload_n dX7_begins_79 rfl ?_
      refine j_imul dX7_begins_80 ?_
      refine j_iconst (v := 2) dX7_begins_81 (by decide) ?_
      refine j_iadd dX7_begins_82 ?_
      refine j_iald (k := ((3 * i) + 2)) dX7_begins_83 (a_174 hr) (by simp only [jl2, jl3, nI_add, pk_mul]) (by omega) ?_
      refine j_iast (k := i) dX7_begins_84 (a_169 hr) rfl (by omega) ?_
      refine j_aload_n dX7_begins_85 rfl ?_
      refine j_getr dX7_begins_86 fl_X7_7 rfl (o_165 hr) (r_165_0 hr) ?_
      refine j_iconst (v := 2) dX7_begins_89 (by decide) ?_
      refine j_iload_n dX7_begins_90 rfl ?_
      refine j_iadd dX7_begins_91 ?_
      refine j_aload_n dX7_begins_92 rfl ?_
      refine j_getr dX7_begins_93 fl_X7_16 rfl (o_165 hr) (r_165_5 hr) ?_
      refine j_iload_n dX7_begins_96 rfl ?_
      refine j_iald (k := i) dX7_begins_97 (a_168 hr) rfl (by omega) ?_
      refine j_iast (k := (2 + i)) dX7_begins_98 (a_166 hr) (by simp only [jl2, nI_add, pk_mul]) (by omega) ?_
      refine j_iinc_1 (v := nI (i + 1)) dX7_begins_99 (nI_add _ _) rfl ?_
      refine j_goto (tgt := 31) dX7_begins_102 (by decide) ?_
      (try simp only [c36, c36', reduceIte, Bool.false_eq_true, Bool.true_eq_false, and_self, and_true, true_and, and_false, false_and, not_true_eq_false, not_false_eq_true, ne_eq, decide_true, decide_false, if_true, if_false, Bool.not_eq_true, Bool.not_eq_false] at K)
      exact K

set_option maxRecDepth 20000 in
theorem lr_bg3 {G : jG} {N : Nat} {κ : Nat → jK} {ρ : Nat → Nat → Option Nat} {ν : Nat → Nat → Int64} {Q : Option Value → jH → Prop} {d : Nat} {μ : jMem} (hr : shR N κ ρ) (K : J G RX7 cX7_begins 2 false d Q 0 0 (N, κ, ρ, (it (fun k m => jup m 166 (27 + k) (m 175 k)) 25 0 μ), ν) 134 [some (.ref 165), some (.int (nI 25))] []) : J G RX7 cX7_begins 2 false d Q 0 0 (N, κ, ρ, μ, ν) 107 [some (.ref 165), some (.int (nI 0))] [] := by
  refine it_loop (f := fun k m => jup m 166 (27 + k) (m 175 k)) (p := 25) (fun i s => J G RX7 cX7_begins 2 false d Q 0 0 (N, κ, ρ, s, ν) 107 [some (.ref 165), some (.int (nI i))] []) (fun s => J G RX7 cX7_begins 2 false d Q 0 0 (N, κ, ρ, s, ν) 134 [some (.ref 165), some (.int (nI 25))] []) (fun _ _ => True) ?_ ?_ (fun _ _ _ _ => trivial) 25 0 μ (by omega) trivial K
  · intro s hI K
    refine j_iload_n dX7_begins_107 rfl ?_
    refine j_bipush (v := 25) dX7_begins_108 (by decide) ?_
    refine k_icmp_ge (tgt := 134) dX7_begins_110 (by decide) (fun c110 c110' => ?_) (fun c110 c110' => ?_)
    · skip
      exact K
    · skip
      exact absurd (by decide) c110
  · intro i s hi hI K
    (try dsimp only at K)
    refine j_iload_n dX7_begins_107 rfl ?_
    refine j_bipush (v := 25) dX7_begins_108 (by decide) ?_
    refine k_icmp_ge (tgt := 134) dX7_begins_110 (by decide) (fun c110 c110' => ?_) (fun c110 c110' => ?_)
    · skip
      exact absurd c110 (by rw [jl25]; exact nI_ge hi (by decide))
    · skip
      refine j_aload_n dX7_begins_113 rfl ?_
      refine j_getr dX7_begins_114 fl_X7_7 rfl (o_165 hr) (r_165_0 hr) ?_
      refine j_bipush (v := 27) dX7_begins_117 (by decide) ?_
      refine j_iload_n dX7_begins_119 rfl ?_
      refine j_iadd dX7_begins_120 ?_
      refine j_aload_n dX7_begins_121 rfl ?_
      refine j_getr dX7_begins_122 fl_X7_37 rfl (o_165 hr) (r_165_17 hr) ?_
      refine j_iload_n dX7_begins_125 rfl ?_
      refine j_iald (k := i) dX7_begins_126 (a_175 hr) rfl (by omega) ?_
      refine j_iast (k := (27 + i)) dX7_begins_127 (a_166 hr) (by simp only [jl27, nI_add, pk_mul]) (by omega) ?_
      refine j_iinc_1 (v := nI (i + 1)) dX7_begins_128 (nI_add _ _) rfl ?_
      refine j_goto (tgt := 107) dX7_begins_131 (by decide) ?_
      (try simp only [c110, c110', reduceIte, Bool.false_eq_true, Bool.true_eq_false, and_self, and_true, true_and, and_false, false_and, not_true_eq_false, not_false_eq_true, ne_eq, decide_true, decide_false, if_true, if_false, Bool.not_eq_true, Bool.not_eq_false] at K)
      exact K

set_option maxRecDepth 20000 in
theorem r_begins {G : jG} {N : Nat} {κ : Nat → jK} {ρ : Nat → Nat → Option Nat} {μ : Nat → Nat → Int32} {ν : Nat → Nat → Int64} (hr : shR N κ ρ) {n : Nat} (hn : μ 165 15 = nI n) (hn5 : n ≤ 5) : MT G yX7_begins cX7_begins 2 none 0 0 0 [.ref 165] (N, κ, ρ, μ, ν) none (N, κ, ρ, rBegin μ n, ν) := by
  refine jMT (ini := false) my_X7_begins (fun h => by cases h) jRv_v (Nat.le_of_ble_eq_true rfl) ?_
  show J G RX7 cX7_begins 2 false 0 _ 0 0 (N, κ, ρ, μ, ν) 0 [some (.ref 165), none] []
  refine j_aload_n dX7_begins_0 rfl ?_
  refine j_aload_n dX7_begins_1 rfl ?_
  refine j_geti dX7_begins_2 fl_X7_76 rfl (o_165 hr) ?_
  refine j_puti dX7_begins_5 fl_X7_69 rfl (o_165 hr) ?_
  refine j_iconst (v := 0) dX7_begins_8 (by decide) ?_
  refine j_istore_1 dX7_begins_9 rfl ?_
  refine lr_bg1 hr ?_
  refine j_iconst (v := 0) dX7_begins_29 (by decide) ?_
  refine j_istore_1 dX7_begins_30 rfl ?_
  refine lr_bg2 (n := n) hr (by rw [it_lo (fun i m => jup_oth (by decide)), jup_self]; exact hn) hn5 ?_
  refine j_iconst (v := 0) dX7_begins_105 (by decide) ?_
  refine j_istore_1 dX7_begins_106 rfl ?_
  refine lr_bg3 hr ?_
  refine j_aload_n dX7_begins_134 rfl ?_
  refine j_getr dX7_begins_135 fl_X7_7 rfl (o_165 hr) (r_165_0 hr) ?_
  refine j_iconst (v := 0) dX7_begins_138 (by decide) ?_
  refine j_aload_n dX7_begins_139 rfl ?_
  refine j_geti dX7_begins_140 fl_X7_62 rfl (o_165 hr) ?_
  refine j_iast (k := 0) dX7_begins_143 (a_166 hr) rfl (by omega) ?_
  refine j_aload_n dX7_begins_144 rfl ?_
  refine j_iconst (v := 0) dX7_begins_145 (by decide) ?_
  refine j_puti dX7_begins_146 fl_X7_79 rfl (o_165 hr) ?_
  refine j_aload_n dX7_begins_149 rfl ?_
  refine j_iconst (v := 0) dX7_begins_150 (by decide) ?_
  refine j_puti dX7_begins_151 fl_X7_82 rfl (o_165 hr) ?_
  refine j_aload_n dX7_begins_154 rfl ?_
  refine j_iconst (v := 0) dX7_begins_155 (by decide) ?_
  refine j_puti dX7_begins_156 fl_X7_85 rfl (o_165 hr) ?_
  exact j_vret dX7_begins_159 ⟨rfl, rfl⟩

def rWr (m : jMem) (n : Nat) (c : Int32) : jMem :=
  let m := jup m 173 n c
  jup m 165 12 (m 165 12 + 1)
def rWrite (m : jMem) (c : Int32) : Int32 × jMem := if rIn c.toInt64 32 126 = true then (if m 165 12 = 200 then (-3, m) else (rWr m (m 165 12).toNatClampNeg c 165 12, rWr m (m 165 12).toNatClampNeg c)) else (-1, m)
theorem ne200 {m : Int32} {n : Nat} (e : m = nI n) (h : ¬ m = 200) (hn : n ≤ 200) : n < 200 := by
  rcases Nat.lt_or_ge n 200 with q | q
  · exact q
  · exact absurd (by rw [e, show n = 200 by omega]; rfl) h
set_option maxRecDepth 20000 in
theorem r_write {G : jG} {N : Nat} {κ : Nat → jK} {ρ : Nat → Nat → Option Nat} {μ : Nat → Nat → Int32} {ν : Nat → Nat → Int64} (hr : shR N κ ρ) {tl : Nat} (hl : μ 165 12 = nI tl) (htl : tl ≤ 200) {c : Int32} : MT G yX7_write cX7_write 2 (some .int) 1 0 0 [.ref 165, .int c] (N, κ, ρ, μ, ν) (some (.int (rWrite μ c).1)) (N, κ, ρ, (rWrite μ c).2, ν) := by
  refine jMT (ini := false) my_X7_write (fun h => by cases h) (jRv_i _) (Nat.le_of_ble_eq_true rfl) ?_
  show J G RX7 cX7_write 2 false 1 _ 0 0 (N, κ, ρ, μ, ν) 0 [some (.ref 165), some (.int c)] []
  generalize hQe : (fun (v' : Option Value) (h'' : jH) => v' = (some (.int (rWrite μ c).1)) ∧ h'' = (N, κ, ρ, (rWrite μ c).2, ν)) = Q
  have hQ : Q (some (.int (rWrite μ c).1)) (N, κ, ρ, (rWrite μ c).2, ν) := by rw [← hQe]; exact ⟨rfl, rfl⟩
  clear hQe
  refine j_iload_n dX7_write_0 rfl ?_
  refine j_i2l dX7_write_1 ?_
  refine j_ldc2 dX7_write_2 ct_X7_88 ?_
  refine j_ldc2 dX7_write_5 ct_X7_90 ?_
  refine j_cS3r dX7_write_8 r_in ml_X7_72 my_X7_in ms_X7_in (by omega) (Nat.le_of_ble_eq_true rfl) (Nat.le_of_ble_eq_true rfl) ?_
  refine j_if_neB (tgt := 16) dX7_write_11 (by decide) (fun c11 => ?_) (fun c11 => ?_)
  · skip
    refine j_aload_n dX7_write_16 rfl ?_
    refine j_geti dX7_write_17 fl_X7_92 rfl (o_165 hr) ?_
    refine j_sipush (v := 200) dX7_write_20 (by decide) ?_
    refine j_icmp_ne (tgt := 29) dX7_write_23 (by decide) (fun c23 => ?_) (fun c23 => ?_)
    · skip
      have ht2 := ne200 hl c23 htl
      have et : (μ 165 12).toNatClampNeg = tl := by rw [hl]; exact nI_clamp (by omega)
      refine j_aload_n dX7_write_29 rfl ?_
      refine j_getr dX7_write_30 fl_X7_31 rfl (o_165 hr) (r_165_11 hr) ?_
      refine j_aload_n dX7_write_33 rfl ?_
      refine j_geti dX7_write_34 fl_X7_92 rfl (o_165 hr) ?_
      refine j_iload_n dX7_write_37 rfl ?_
      refine j_iast (k := tl) dX7_write_38 (a_173 hr) hl ht2 ?_
      refine j_aload_n dX7_write_39 rfl ?_
      refine j_dup dX7_write_40 rfl ?_
      refine j_geti dX7_write_41 fl_X7_92 rfl (o_165 hr) ?_
      refine j_iconst (v := 1) dX7_write_44 (by decide) ?_
      refine j_iadd dX7_write_45 ?_
      refine j_puti dX7_write_46 fl_X7_92 rfl (o_165 hr) ?_
      refine j_aload_n dX7_write_49 rfl ?_
      refine j_geti dX7_write_50 fl_X7_92 rfl (o_165 hr) ?_
      exact j_iret dX7_write_53 (by simpa only [rWrite, rWr, c11, c23, et, reduceIte, Bool.false_eq_true, Bool.true_eq_false, and_self, and_true, true_and, and_false, false_and, not_true_eq_false, not_false_eq_true, ne_eq, decide_true, decide_false, if_true, if_false, Bool.not_eq_true, Bool.not_eq_false] using hQ)
    · skip
      refine j_bipush (v := (-3)) dX7_write_26 (by decide) ?_
      exact j_iret dX7_write_28 (by simpa only [rWrite, rWr, c11, eq_true c23, reduceIte, Bool.false_eq_true, Bool.true_eq_false, and_self, and_true, true_and, and_false, false_and, not_true_eq_false, not_false_eq_true, ne_eq, decide_true, decide_false, if_true, if_false, Bool.not_eq_true, Bool.not_eq_false] using hQ)
  · skip
    refine j_iconst (v := (-1)) dX7_write_14 (by decide) ?_
    exact j_iret dX7_write_15 (by simpa only [rWrite, rWr, c11, reduceIte, Bool.false_eq_true, Bool.true_eq_false, and_self, and_true, true_and, and_false, false_and, not_true_eq_false, not_false_eq_true, ne_eq, decide_true, decide_false, if_true, if_false, Bool.not_eq_true, Bool.not_eq_false] using hQ)

def rWipe (m : jMem) : Int32 × jMem := (m 165 12, jup m 165 12 0)
set_option maxRecDepth 20000 in
theorem r_wipe {G : jG} {N : Nat} {κ : Nat → jK} {ρ : Nat → Nat → Option Nat} {μ : Nat → Nat → Int32} {ν : Nat → Nat → Int64} (hr : shR N κ ρ) : MT G yX7_wipe cX7_wipe 2 (some .int) 0 0 0 [.ref 165] (N, κ, ρ, μ, ν) (some (.int (rWipe μ).1)) (N, κ, ρ, (rWipe μ).2, ν) := by
  refine jMT (ini := false) my_X7_wipe (fun h => by cases h) (jRv_i _) (Nat.le_of_ble_eq_true rfl) ?_
  show J G RX7 cX7_wipe 2 false 0 _ 0 0 (N, κ, ρ, μ, ν) 0 [some (.ref 165), none] []
  generalize hQe : (fun (v' : Option Value) (h'' : jH) => v' = (some (.int (rWipe μ).1)) ∧ h'' = (N, κ, ρ, (rWipe μ).2, ν)) = Q
  have hQ : Q (some (.int (rWipe μ).1)) (N, κ, ρ, (rWipe μ).2, ν) := by rw [← hQe]; exact ⟨rfl, rfl⟩
  clear hQe
  refine j_aload_n dX7_wipe_0 rfl ?_
  refine j_geti dX7_wipe_1 fl_X7_92 rfl (o_165 hr) ?_
  refine j_istore_1 dX7_wipe_4 rfl ?_
  refine j_aload_n dX7_wipe_5 rfl ?_
  refine j_iconst (v := 0) dX7_wipe_6 (by decide) ?_
  refine j_puti dX7_wipe_7 fl_X7_92 rfl (o_165 hr) ?_
  refine j_iload_n dX7_wipe_10 rfl ?_
  exact j_iret dX7_wipe_11 (by simpa only [rWipe, reduceIte, Bool.false_eq_true, Bool.true_eq_false, and_self, and_true, true_and, and_false, false_and, not_true_eq_false, not_false_eq_true, ne_eq, decide_true, decide_false, if_true, if_false, Bool.not_eq_true, Bool.not_eq_false] using hQ)

def rLt (m : jMem) (k : Nat) : Int32 := if nI k < m 165 12 then m 173 k else -1
set_option maxRecDepth 20000 in
theorem r_letterAt {G : jG} {N : Nat} {κ : Nat → jK} {ρ : Nat → Nat → Option Nat} {μ : Nat → Nat → Int32} {ν : Nat → Nat → Int64} (hr : shR N κ ρ) {tl : Nat} (hl : μ 165 12 = nI tl) (htl : tl ≤ 200) {k : Nat} (hk : k < 2000000) : MT G yX7_letterAt cX7_letterAt 2 (some .int) 0 0 0 [.ref 165, .int (nI k)] (N, κ, ρ, μ, ν) (some (.int (rLt μ k))) (N, κ, ρ, μ, ν) := by
  refine jMT (ini := false) my_X7_letterAt (fun h => by cases h) (jRv_i _) (Nat.le_of_ble_eq_true rfl) ?_
  show J G RX7 cX7_letterAt 2 false 0 _ 0 0 (N, κ, ρ, μ, ν) 0 [some (.ref 165), some (.int (nI k))] []
  refine j_iload_n dX7_letterAt_0 rfl ?_
  refine j_aload_n dX7_letterAt_1 rfl ?_
  refine j_geti dX7_letterAt_2 fl_X7_92 rfl (o_165 hr) ?_
  refine k_icmp_ge (tgt := 17) dX7_letterAt_5 (by decide) (fun c5 c5' => ?_) (fun c5 c5' => ?_)
  · skip
    refine j_iconst (v := (-1)) dX7_letterAt_17 (by decide) ?_
    exact j_iret dX7_letterAt_18 ⟨by simp only [rLt, c5, c5', reduceIte], rfl⟩
  · skip
    refine j_aload_n dX7_letterAt_8 rfl ?_
    refine j_getr dX7_letterAt_9 fl_X7_31 rfl (o_165 hr) (r_165_11 hr) ?_
    refine j_iload_n dX7_letterAt_12 rfl ?_
    refine j_iald (k := k) dX7_letterAt_13 (a_173 hr) rfl (Nat.lt_of_lt_of_le (lt_of_nI hl c5' (by omega) (by omega)) htl) ?_
    refine j_goto (tgt := 18) dX7_letterAt_14 (by decide) ?_
    exact j_iret dX7_letterAt_18 ⟨by simp only [rLt, c5, c5', reduceIte], rfl⟩

