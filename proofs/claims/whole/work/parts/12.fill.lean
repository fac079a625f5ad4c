/-! LOOPS -/
def it {σ : Type} (f : Nat → σ → σ) : Nat → Nat → σ → σ
  | 0, _, s => s
  | n + 1, i, s => it f n (i + 1) (f i s)
theorem it_loop {σ : Type} {f : Nat → σ → σ} {p : Nat} (P : Nat → σ → Prop) (E : σ → Prop) (I : Nat → σ → Prop) (hx : ∀ s, I p s → E s → P p s) (hb : ∀ i s, i < p → I i s → P (i + 1) (f i s) → P i s) (hI : ∀ i s, i < p → I i s → I (i + 1) (f i s)) : ∀ n i s, i + n = p → I i s → E (it f n i s) → P i s
  | 0, i, s, h, hi, he => by
    have : i = p := by omega
    subst this
    exact hx s hi he
  | n + 1, i, s, h, hi, he => hb i s (by omega) hi (it_loop P E I hx hb hI n (i + 1) (f i s) (by omega) (hI i s (by omega) hi) he)
theorem it_inv {σ : Type} {f : Nat → σ → σ} {p : Nat} (I : Nat → σ → Prop) (hI : ∀ i s, i < p → I i s → I (i + 1) (f i s)) : ∀ n i s, i + n = p → I i s → I p (it f n i s)
  | 0, i, s, h, hi => by
    have : i = p := by omega
    subst this
    exact hi
  | n + 1, i, s, h, hi => it_inv I hI n (i + 1) (f i s) (by omega) (hI i s (by omega) hi)
theorem it_snoc {σ : Type} (f : Nat → σ → σ) : ∀ n i s, it f (n + 1) i s = f (i + n) (it f n i s)
  | 0, i, s => rfl
  | n + 1, i, s => by
    rw [it, it_snoc f n (i + 1) (f i s), it]
    congr 1
    omega
theorem it_congr {σ : Type} {f g : Nat → σ → σ} {p : Nat} (h : ∀ i s, i < p → f i s = g i s) : ∀ n i s, i + n = p → it f n i s = it g n i s
  | 0, i, s, _ => rfl
  | n + 1, i, s, hp => by
    rw [it, it, h i s (by omega)]
    exact it_congr h n (i + 1) (g i s) (by omega)
theorem fill_row (m : Nat → Nat → Int32) (b : Nat) (v : Int32) (n : Nat) : it (fun i (m : Nat → Nat → Int32) => jup m b i v) n 0 m = jrow m b (fun j => if j < n then v else m b j) := by
  induction n with
  | zero => funext x y; rw [jrow_at]; simp only [it]; by_cases h : x = b <;> simp [h]
  | succ n ih =>
    rw [it_snoc, ih]
    funext x y
    rw [jup_at, jrow_at, jrow_at]
    by_cases h : x = b
    · by_cases h2 : y = n
      · simp [h, h2]
      · by_cases h3 : y < n
        · simp [h, h2, h3, Nat.lt_succ_of_lt h3]
        · have : ¬ y < n + 1 := by omega
          simp [h, h2, h3, this]
    · simp [h]
set_option maxRecDepth 20000 in
theorem lp_fill {G : jG} {N : Nat} {κ : Nat → jK} {ρ : Nat → Nat → Option Nat} {ν : Nat → Nat → Int64} {Q : Option Value → jH → Prop} {d : Nat} {b n : Nat} {v : Int32} {μ : Nat → Nat → Int32} (hA : jA N κ b .int n) (K : J G RJ7 cJ7_fill_53178 4 false d Q 0 0 (N, κ, ρ, (it (fun i (m : Nat → Nat → Int32) => jup m b i v) n 0 μ), ν) 20 [some (.ref b), some (.int v), some (.int (nI n)), some (.int (nI n))] []) : J G RJ7 cJ7_fill_53178 4 false d Q 0 0 (N, κ, ρ, μ, ν) 5 [some (.ref b), some (.int v), some (.int (nI 0)), some (.int (nI n))] [] := by
  refine it_loop (f := fun i (m : Nat → Nat → Int32) => jup m b i v) (p := n) (fun i s => J G RJ7 cJ7_fill_53178 4 false d Q 0 0 (N, κ, ρ, s, ν) 5 [some (.ref b), some (.int v), some (.int (nI i)), some (.int (nI n))] []) (fun s => J G RJ7 cJ7_fill_53178 4 false d Q 0 0 (N, κ, ρ, s, ν) 20 [some (.ref b), some (.int v), some (.int (nI n)), some (.int (nI n))] []) (fun _ _ => True) ?_ ?_ (fun _ _ _ _ => trivial) n 0 μ (by omega) trivial K
  · intro s hI K
    refine j_iload_n dJ7_fill_53178_5 rfl ?_
    refine j_iload_n dJ7_fill_53178_6 rfl ?_
    refine k_icmp_ge (tgt := 20) dJ7_fill_53178_7 (by decide) (fun c7 c7' => ?_) (fun c7 c7' => ?_)
    · skip
      exact K
    · skip
      exact absurd (Int32.le_refl _) c7
  · intro i s hi hI K
    (try dsimp only at K)
    refine j_iload_n dJ7_fill_53178_5 rfl ?_
    refine j_iload_n dJ7_fill_53178_6 rfl ?_
    refine k_icmp_ge (tgt := 20) dJ7_fill_53178_7 (by decide) (fun c7 c7' => ?_) (fun c7 c7' => ?_)
    · skip
      exact absurd c7 (nI_ge hi hA.2.2)
    · skip
      refine j_aload_n dJ7_fill_53178_10 rfl ?_
      refine j_iload_n dJ7_fill_53178_11 rfl ?_
      refine j_iload_n dJ7_fill_53178_12 rfl ?_
      refine j_iast (k := i) dJ7_fill_53178_13 hA rfl hi ?_
      refine j_iinc_2 (v := nI (i + 1)) dJ7_fill_53178_14 (nI_add _ _) rfl ?_
      refine j_goto (tgt := 5) dJ7_fill_53178_17 (by decide) ?_
      (try simp only [c7, c7', reduceIte, Bool.false_eq_true, Bool.true_eq_false, and_self, and_true, true_and, and_false, false_and, not_true_eq_false, not_false_eq_true, ne_eq, decide_true, decide_false, if_true, if_false, Bool.not_eq_true, Bool.not_eq_false] at K)
      exact K

set_option maxRecDepth 20000 in
theorem t_fill {G : jG} {N : Nat} {κ : Nat → jK} {ρ : Nat → Nat → Option Nat} {μ : Nat → Nat → Int32} {ν : Nat → Nat → Int64} {b n : Nat} {v : Int32} (hA : jA N κ b .int n) : MT G yJ7_fill_53178 cJ7_fill_53178 4 none 0 0 0 [.ref b, .int v] (N, κ, ρ, μ, ν) none (N, κ, ρ, jrow μ b (fun j => if j < n then v else μ b j), ν) := by
  refine jMT (ini := false) my_J7_fill_53178 (fun h => by cases h) jRv_v (Nat.le_of_ble_eq_true rfl) ?_
  show J G RJ7 cJ7_fill_53178 4 false 0 _ 0 0 (N, κ, ρ, μ, ν) 0 [some (.ref b), some (.int v), none, none] []
  refine j_iconst (v := 0) dJ7_fill_53178_0 (by decide) ?_
  refine j_istore_2 dJ7_fill_53178_1 rfl ?_
  refine j_aload_n dJ7_fill_53178_2 rfl ?_
  refine j_alen dJ7_fill_53178_3 hA ?_
  refine j_istore_3 dJ7_fill_53178_4 rfl ?_
  refine lp_fill hA ?_
  rw [fill_row]
  exact j_vret dJ7_fill_53178_20 ⟨rfl, rfl⟩

theorem fill_rowL (m : Nat → Nat → Int64) (b : Nat) (v : Int64) (n : Nat) : it (fun i (m : Nat → Nat → Int64) => jup m b i v) n 0 m = jrow m b (fun j => if j < n then v else m b j) := by
  induction n with
  | zero => funext x y; rw [jrow_at]; simp only [it]; by_cases h : x = b <;> simp [h]
  | succ n ih =>
    rw [it_snoc, ih]
    funext x y
    rw [jup_at, jrow_at, jrow_at]
    by_cases h : x = b
    · by_cases h2 : y = n
      · simp [h, h2]
      · by_cases h3 : y < n
        · simp [h, h2, h3, Nat.lt_succ_of_lt h3]
        · have : ¬ y < n + 1 := by omega
          simp [h, h2, h3, this]
    · simp [h]
set_option maxRecDepth 20000 in
theorem lp_fillL {G : jG} {N : Nat} {κ : Nat → jK} {ρ : Nat → Nat → Option Nat} {ν : Nat → Nat → Int64} {Q : Option Value → jH → Prop} {d : Nat} {b n : Nat} {v : Int64} {μ : Nat → Nat → Int32} (hA : jA N κ b .long n) (K : J G RJ7 cJ7_fill_d0a16 5 false d Q 0 0 (N, κ, ρ, μ, (it (fun i (m : Nat → Nat → Int64) => jup m b i v) n 0 ν)) 22 [some (.ref b), some (.long v), none, some (.int (nI n)), some (.int (nI n))] []) : J G RJ7 cJ7_fill_d0a16 5 false d Q 0 0 (N, κ, ρ, μ, ν) 6 [some (.ref b), some (.long v), none, some (.int (nI 0)), some (.int (nI n))] [] := by
  refine it_loop (f := fun i (m : Nat → Nat → Int64) => jup m b i v) (p := n) (fun i s => J G RJ7 cJ7_fill_d0a16 5 false d Q 0 0 (N, κ, ρ, μ, s) 6 [some (.ref b), some (.long v), none, some (.int (nI i)), some (.int (nI n))] []) (fun s => J G RJ7 cJ7_fill_d0a16 5 false d Q 0 0 (N, κ, ρ, μ, s) 22 [some (.ref b), some (.long v), none, some (.int (nI n)), some (.int (nI n))] []) (fun _ _ => True) ?_ ?_ (fun _ _ _ _ => trivial) n 0 ν (by omega) trivial K
  · intro s hI K
    refine j_iload_n dJ7_fill_d0a16_6 rfl ?_
    refine j_iload dJ7_fill_d0a16_7 rfl ?_
    refine k_icmp_ge (tgt := 22) dJ7_fill_d0a16_9 (by decide) (fun c9 c9' => ?_) (fun c9 c9' => ?_)
    · skip
      exact K
    · skip
      exact absurd (Int32.le_refl _) c9
  · intro i s hi hI K
    (try dsimp only at K)
    refine j_iload_n dJ7_fill_d0a16_6 rfl ?_
    refine j_iload dJ7_fill_d0a16_7 rfl ?_
    refine k_icmp_ge (tgt := 22) dJ7_fill_d0a16_9 (by decide) (fun c9 c9' => ?_) (fun c9 c9' => ?_)
    · skip
      exact absurd c9 (nI_ge hi hA.2.2)
    · skip
      refine j_aload_n dJ7_fill_d0a16_12 rfl ?_
      refine j_iload_n dJ7_fill_d0a16_13 rfl ?_
      refine j_lload_n dJ7_fill_d0a16_14 rfl ?_
      refine j_last (k := i) dJ7_fill_d0a16_15 hA rfl hi ?_
      refine j_iinc_3 (v := nI (i + 1)) dJ7_fill_d0a16_16 (nI_add _ _) rfl ?_
      refine j_goto (tgt := 6) dJ7_fill_d0a16_19 (by decide) ?_
      (try simp only [c9, c9', reduceIte, Bool.false_eq_true, Bool.true_eq_false, and_self, and_true, true_and, and_false, false_and, not_true_eq_false, not_false_eq_true, ne_eq, decide_true, decide_false, if_true, if_false, Bool.not_eq_true, Bool.not_eq_false] at K)
      exact K

set_option maxRecDepth 20000 in
theorem t_fillL {G : jG} {N : Nat} {κ : Nat → jK} {ρ : Nat → Nat → Option Nat} {μ : Nat → Nat → Int32} {ν : Nat → Nat → Int64} {b n : Nat} {v : Int64} (hA : jA N κ b .long n) : MT G yJ7_fill_d0a16 cJ7_fill_d0a16 5 none 0 0 0 [.ref b, .long v] (N, κ, ρ, μ, ν) none (N, κ, ρ, μ, jrow ν b (fun j => if j < n then v else ν b j)) := by
  refine jMT (ini := false) my_J7_fill_d0a16 (fun h => by cases h) jRv_v (Nat.le_of_ble_eq_true rfl) ?_
  show J G RJ7 cJ7_fill_d0a16 5 false 0 _ 0 0 (N, κ, ρ, μ, ν) 0 [some (.ref b), some (.long v), none, none, none] []
  refine j_iconst (v := 0) dJ7_fill_d0a16_0 (by decide) ?_
  refine j_istore_3 dJ7_fill_d0a16_1 rfl ?_
  refine j_aload_n dJ7_fill_d0a16_2 rfl ?_
  refine j_alen dJ7_fill_d0a16_3 hA ?_
  refine j_istore_4 dJ7_fill_d0a16_4 rfl ?_
  refine lp_fillL hA ?_
  rw [fill_rowL]
  exact j_vret dJ7_fill_d0a16_22 ⟨rfl, rfl⟩

