/-! FAIL: sums over sets of trumpets -/
def smf (h : Nat → Nat) : Nat → Nat → Nat
  | 0, _ => 0
  | k + 1, i => h i + smf h k (i + 1)
theorem smf_it (h : Nat → Nat) : ∀ (k i s : Nat), it (fun i a => a + h i) k i s = s + smf h k i
  | 0, i, s => rfl
  | k + 1, i, s => by rw [it, smf_it h k (i + 1), smf]; omega
theorem smf_add (h : Nat → Nat) : ∀ (a b i : Nat), smf h (a + b) i = smf h a i + smf h b (i + a)
  | 0, b, i => by rw [Nat.zero_add, smf, Nat.zero_add]; rfl
  | a + 1, b, i => by
    rw [show a + 1 + b = (a + b) + 1 by omega, smf, smf, smf_add h a b (i + 1), show i + 1 + a = i + (a + 1) by omega]
    omega
theorem smf_congr {h g : Nat → Nat} (d e : Nat) : ∀ (k i : Nat), (∀ j, i ≤ j → j < i + k → h (d + j) = g (e + j)) → smf h k (d + i) = smf g k (e + i)
  | 0, _, _ => rfl
  | k + 1, i, q => by
    rw [smf, smf, q i (Nat.le_refl _) (by omega), Nat.add_assoc, Nat.add_assoc, smf_congr d e k (i + 1) (fun j h1 h2 => q j (by omega) (by omega))]
def bs : Nat → (Nat → Nat) → Nat
  | 0, G => G 0
  | n + 1, G => bs n G + bs n (fun s => G (s + 1))
def pop (n i : Nat) : Nat := it (fun j s => s + if i.testBit j = true then 1 else 0) n 0 0
theorem pop_succ (n i : Nat) : pop (n + 1) i = pop n i + if i.testBit n = true then 1 else 0 := by
  unfold pop
  rw [it_snoc, Nat.zero_add]
theorem pop_le (i : Nat) : ∀ n, pop n i ≤ n
  | 0 => Nat.le_refl _
  | n + 1 => by
    have := pop_le i n
    rw [pop_succ]
    split <;> omega
theorem pop_top (n i : Nat) : ∀ k, k ≤ n → pop k (2 ^ n + i) = pop k i
  | 0, _ => rfl
  | k + 1, h => by rw [pop_succ, pop_succ, pop_top n i k (by omega), Nat.testBit_two_pow_add_gt (by omega)]
theorem ss_bs : ∀ (n : Nat) (G : Nat → Nat), smf (fun i => G (pop n i)) (2 ^ n) 0 = bs n G
  | 0, G => rfl
  | n + 1, G => by
    rw [bs, ← ss_bs n G, ← ss_bs n (fun s => G (s + 1)), show 2 ^ (n + 1) = 2 ^ n + 2 ^ n by rw [Nat.pow_succ]; omega, smf_add]
    congr 1
    · refine smf_congr 0 0 (2 ^ n) 0 (fun j _ hj => ?_)
      rw [Nat.zero_add] at hj ⊢
      rw [pop_succ, Nat.testBit_lt_two_pow hj]
      rfl
    · have := smf_congr (h := fun i => G (pop (n + 1) i)) (g := fun i => G (pop n i + 1)) (2 ^ n) 0 (2 ^ n) 0 (fun j _ hj => by
        rw [Nat.zero_add] at hj ⊢
        rw [pop_succ, pop_top n j n (Nat.le_refl _), Nat.testBit_two_pow_add_eq, Nat.testBit_lt_two_pow hj]
        rfl)
      rw [Nat.zero_add]
      exact this
theorem bs_le {M : Nat} : ∀ (n : Nat) (G : Nat → Nat), (∀ s, s ≤ n → G s ≤ M) → bs n G ≤ 2 ^ n * M
  | 0, G, h => by rw [bs]; have := h 0 (Nat.le_refl _); omega
  | n + 1, G, h => by
    have h1 := bs_le n G (fun s hs => h s (by omega))
    have h2 := bs_le n (fun s => G (s + 1)) (fun s hs => h (s + 1) (by omega))
    rw [bs, show 2 ^ (n + 1) * M = 2 ^ n * M + 2 ^ n * M by rw [Nat.pow_succ, Nat.mul_assoc, Nat.mul_comm 2 M, ← Nat.mul_assoc]; omega]
    omega
def bin : Nat → Nat → Nat
  | _, 0 => 1
  | 0, _ + 1 => 0
  | n + 1, k + 1 => bin n k + bin n (k + 1)
theorem bs_0 (G : Nat → Nat) : bs 0 G = G 0 := rfl
theorem bs_1 (G : Nat → Nat) : bs 1 G = G 0 + G 1 := rfl
theorem bs_2 (G : Nat → Nat) : bs 2 G = G 0 + 2 * G 1 + G 2 := by
  rw [bs, bs_1, bs_1]
  show (G 0 + G 1) + (G 1 + G 2) = G 0 + 2 * G 1 + G 2
  omega
theorem bs_3 (G : Nat → Nat) : bs 3 G = G 0 + 3 * G 1 + 3 * G 2 + G 3 := by
  rw [bs, bs_2, bs_2]
  show (G 0 + 2 * G 1 + G 2) + (G 1 + 2 * G 2 + G 3) = G 0 + 3 * G 1 + 3 * G 2 + G 3
  omega
theorem bs_4 (G : Nat → Nat) : bs 4 G = G 0 + 4 * G 1 + 6 * G 2 + 4 * G 3 + G 4 := by
  rw [bs, bs_3, bs_3]
  show (G 0 + 3 * G 1 + 3 * G 2 + G 3) + (G 1 + 3 * G 2 + 3 * G 3 + G 4) = G 0 + 4 * G 1 + 6 * G 2 + 4 * G 3 + G 4
  omega
theorem bs_5 (G : Nat → Nat) : bs 5 G = G 0 + 5 * G 1 + 10 * G 2 + 10 * G 3 + 5 * G 4 + G 5 := by
  rw [bs, bs_4, bs_4]
  show (G 0 + 4 * G 1 + 6 * G 2 + 4 * G 3 + G 4) + (G 1 + 4 * G 2 + 6 * G 3 + 4 * G 4 + G 5) = G 0 + 5 * G 1 + 10 * G 2 + 10 * G 3 + 5 * G 4 + G 5
  omega
theorem bs_6 (G : Nat → Nat) : bs 6 G = G 0 + 6 * G 1 + 15 * G 2 + 20 * G 3 + 15 * G 4 + 6 * G 5 + G 6 := by
  rw [bs, bs_5, bs_5]
  show (G 0 + 5 * G 1 + 10 * G 2 + 10 * G 3 + 5 * G 4 + G 5) + (G 1 + 5 * G 2 + 10 * G 3 + 10 * G 4 + 5 * G 5 + G 6) = G 0 + 6 * G 1 + 15 * G 2 + 20 * G 3 + 15 * G 4 + 6 * G 5 + G 6
  omega
theorem bs_7 (G : Nat → Nat) : bs 7 G = G 0 + 7 * G 1 + 21 * G 2 + 35 * G 3 + 35 * G 4 + 21 * G 5 + 7 * G 6 + G 7 := by
  rw [bs, bs_6, bs_6]
  show (G 0 + 6 * G 1 + 15 * G 2 + 20 * G 3 + 15 * G 4 + 6 * G 5 + G 6) + (G 1 + 6 * G 2 + 15 * G 3 + 20 * G 4 + 15 * G 5 + 6 * G 6 + G 7) = G 0 + 7 * G 1 + 21 * G 2 + 35 * G 3 + 35 * G 4 + 21 * G 5 + 7 * G 6 + G 7
  omega
theorem bs_8 (G : Nat → Nat) : bs 8 G = G 0 + 8 * G 1 + 28 * G 2 + 56 * G 3 + 70 * G 4 + 56 * G 5 + 28 * G 6 + 8 * G 7 + G 8 := by
  rw [bs, bs_7, bs_7]
  show (G 0 + 7 * G 1 + 21 * G 2 + 35 * G 3 + 35 * G 4 + 21 * G 5 + 7 * G 6 + G 7) + (G 1 + 7 * G 2 + 21 * G 3 + 35 * G 4 + 35 * G 5 + 21 * G 6 + 7 * G 7 + G 8) = G 0 + 8 * G 1 + 28 * G 2 + 56 * G 3 + 70 * G 4 + 56 * G 5 + 28 * G 6 + 8 * G 7 + G 8
  omega
theorem bs_9 (G : Nat → Nat) : bs 9 G = G 0 + 9 * G 1 + 36 * G 2 + 84 * G 3 + 126 * G 4 + 126 * G 5 + 84 * G 6 + 36 * G 7 + 9 * G 8 + G 9 := by
  rw [bs, bs_8, bs_8]
  show (G 0 + 8 * G 1 + 28 * G 2 + 56 * G 3 + 70 * G 4 + 56 * G 5 + 28 * G 6 + 8 * G 7 + G 8) + (G 1 + 8 * G 2 + 28 * G 3 + 56 * G 4 + 70 * G 5 + 56 * G 6 + 28 * G 7 + 8 * G 8 + G 9) = G 0 + 9 * G 1 + 36 * G 2 + 84 * G 3 + 126 * G 4 + 126 * G 5 + 84 * G 6 + 36 * G 7 + 9 * G 8 + G 9
  omega
theorem ks_1 (G : Nat → Nat) (h : G 0 = 0) : smf (fun i => bin 1 (i + 1) * G (i + 1)) 1 0 = bs 1 G := by
  rw [bs_1, h]
  show 1 * G 1 + 0 = _
  omega
theorem ks_2 (G : Nat → Nat) (h : G 0 = 0) : smf (fun i => bin 2 (i + 1) * G (i + 1)) 2 0 = bs 2 G := by
  rw [bs_2, h]
  show 2 * G 1 + (1 * G 2 + 0) = _
  omega
theorem ks_3 (G : Nat → Nat) (h : G 0 = 0) : smf (fun i => bin 3 (i + 1) * G (i + 1)) 3 0 = bs 3 G := by
  rw [bs_3, h]
  show 3 * G 1 + (3 * G 2 + (1 * G 3 + 0)) = _
  omega
theorem ks_4 (G : Nat → Nat) (h : G 0 = 0) : smf (fun i => bin 4 (i + 1) * G (i + 1)) 4 0 = bs 4 G := by
  rw [bs_4, h]
  show 4 * G 1 + (6 * G 2 + (4 * G 3 + (1 * G 4 + 0))) = _
  omega
theorem ks_5 (G : Nat → Nat) (h : G 0 = 0) : smf (fun i => bin 5 (i + 1) * G (i + 1)) 5 0 = bs 5 G := by
  rw [bs_5, h]
  show 5 * G 1 + (10 * G 2 + (10 * G 3 + (5 * G 4 + (1 * G 5 + 0)))) = _
  omega
theorem ks_6 (G : Nat → Nat) (h : G 0 = 0) : smf (fun i => bin 6 (i + 1) * G (i + 1)) 6 0 = bs 6 G := by
  rw [bs_6, h]
  show 6 * G 1 + (15 * G 2 + (20 * G 3 + (15 * G 4 + (6 * G 5 + (1 * G 6 + 0))))) = _
  omega
theorem ks_7 (G : Nat → Nat) (h : G 0 = 0) : smf (fun i => bin 7 (i + 1) * G (i + 1)) 7 0 = bs 7 G := by
  rw [bs_7, h]
  show 7 * G 1 + (21 * G 2 + (35 * G 3 + (35 * G 4 + (21 * G 5 + (7 * G 6 + (1 * G 7 + 0)))))) = _
  omega
theorem ks_8 (G : Nat → Nat) (h : G 0 = 0) : smf (fun i => bin 8 (i + 1) * G (i + 1)) 8 0 = bs 8 G := by
  rw [bs_8, h]
  show 8 * G 1 + (28 * G 2 + (56 * G 3 + (70 * G 4 + (56 * G 5 + (28 * G 6 + (8 * G 7 + (1 * G 8 + 0))))))) = _
  omega
theorem ks_9 (G : Nat → Nat) (h : G 0 = 0) : smf (fun i => bin 9 (i + 1) * G (i + 1)) 9 0 = bs 9 G := by
  rw [bs_9, h]
  show 9 * G 1 + (36 * G 2 + (84 * G 3 + (126 * G 4 + (126 * G 5 + (84 * G 6 + (36 * G 7 + (9 * G 8 + (1 * G 9 + 0)))))))) = _
  omega
theorem ks_bs (G : Nat → Nat) (h : G 0 = 0) {n : Nat} (h1 : 1 ≤ n) (h9 : n ≤ 9) : smf (fun i => bin n (i + 1) * G (i + 1)) n 0 = bs n G := by
  have : n = 1 ∨ n = 2 ∨ n = 3 ∨ n = 4 ∨ n = 5 ∨ n = 6 ∨ n = 7 ∨ n = 8 ∨ n = 9 := by omega
  rcases this with rfl | rfl | rfl | rfl | rfl | rfl | rfl | rfl | rfl
  · exact ks_1 G h
  · exact ks_2 G h
  · exact ks_3 G h
  · exact ks_4 G h
  · exact ks_5 G h
  · exact ks_6 G h
  · exact ks_7 G h
  · exact ks_8 G h
  · exact ks_9 G h
theorem fc_bin : ∀ n : Fin 10, ∀ i : Fin 9, i.val < n.val → cFaC n.val i.val (lN (bin n.val i.val)) = lN (bin n.val (i.val + 1)) := by decide +kernel
theorem has_bit : ∀ i : Nat, i < 512 → ∀ j : Nat, j < 9 → rHas (nI i) (nI j) = i.testBit j := by decide +kernel
theorem pw_le : ∀ x : Fin 11, ∀ n s : Fin 10, (10 - x.val) ^ s.val * x.val ^ (n.val - s.val) ≤ 1000000000 ∨ n.val < s.val := by decide +kernel
theorem x_l : ∀ x : Fin 11, (10 - nI x.val).toInt64 = lN (10 - x.val) ∧ (nI x.val).toInt64 = lN x.val := by decide +kernel
theorem pw_l {b : Int32} {B : Nat} (hb : b.toInt64 = lN B) (t : Nat) : cPow b t = lN (B ^ t) := by
  unfold cPow
  induction t with
  | zero => rfl
  | succ t ih => rw [it_snoc, ih, hb, lN_mul, Nat.pow_succ]
/-! the greatest shared part -/
theorem lN_div {A B : Nat} (hA : A < 2 ^ 63) (hB : B < 2 ^ 63) : lN A / lN B = lN (A / B) := by
  have hd : A / B < 2 ^ 63 := Nat.lt_of_le_of_lt (Nat.div_le_self A B) hA
  refine Int64.toInt_inj.mp ?_
  rw [Int64.toInt_div_of_ne_right _ _ (fun z => ?_), pk_lT hA, pk_lT hB, pk_lT hd]
  · rw [Int.tdiv_eq_ediv_of_nonneg (by omega)]; rfl
  · have e : (lN B).toInt = -1 := by rw [z]; decide
    rw [pk_lT hB] at e
    omega
theorem lN_mod {A B : Nat} (hA : A < 2 ^ 63) (hB : B < 2 ^ 63) : lN A - lN A / lN B * lN B = lN (A % B) := by
  have h1 := Nat.div_add_mod A B
  rw [Nat.mul_comm] at h1
  rw [lN_div hA hB, lN_mul, lN_sub (by omega)]
  congr 1
  omega
theorem gcd_ok : ∀ (k f A B : Nat), B < 2 ^ k → 2 * k + 1 ≤ f → A < 2 ^ 62 → B < 2 ^ 62 → (0 < A ∨ 0 < B) → ∃ g, rGcd f (lN A) (lN B) = some (lN g) ∧ cGcd f (lN A) (lN B) = lN g ∧ 0 < g ∧ g < 2 ^ 62 := by
  have b0 : ∀ {B : Nat}, B < 2 ^ 62 → (lN B = 0 ↔ B = 0) := fun {B} h => by
    rw [show (0 : Int64) = lN 0 by decide, pk_lEQ (by omega) (by omega)]
  intro k
  induction k with
  | zero =>
    intro f A B hB hf hA _ hp
    have : B = 0 := by omega
    subst this
    obtain ⟨f, rfl⟩ : ∃ f', f = f' + 1 := ⟨f - 1, by omega⟩
    refine ⟨A, ?_, ?_, by omega, hA⟩
    · rw [rGcd, if_pos (by decide)]
    · rw [cGcd, if_pos (by decide)]
  | succ k ih =>
    intro f A B hB hf hA hB2 hp
    obtain ⟨f, rfl⟩ : ∃ f', f = f' + 2 := ⟨f - 2, by omega⟩
    by_cases z : B = 0
    · subst z
      refine ⟨A, ?_, ?_, by omega, hA⟩
      · rw [rGcd, if_pos (by decide)]
      · rw [cGcd, if_pos (by decide)]
    · have hr : A % B < B := Nat.mod_lt _ (by omega)
      rw [rGcd, cGcd, if_neg (fun q => z ((b0 hB2).mp q)), if_neg (fun q => z ((b0 hB2).mp q)), lN_mod (by omega) (by omega)]
      generalize A % B = r at hr
      by_cases y : r = 0
      · subst y
        refine ⟨B, ?_, ?_, by omega, hB2⟩
        · rw [rGcd, if_pos (by decide)]
        · rw [cGcd, if_pos (by decide)]
      · rw [rGcd, cGcd, if_neg (fun q => y ((b0 (by omega)).mp q)), if_neg (fun q => y ((b0 (by omega)).mp q)), lN_mod (by omega) (by omega)]
        have h1 : B % r < r := Nat.mod_lt _ (by omega)
        have h2 : B % r + r ≤ B := by
          have e1 := Nat.div_add_mod B r
          have e2 : 1 ≤ B / r := Nat.div_pos (by omega) (by omega)
          have e3 : r * 1 ≤ r * (B / r) := Nat.mul_le_mul_left r e2
          omega
        have h3 : 2 ^ (k + 1) = 2 * 2 ^ k := by rw [Nat.pow_succ, Nat.mul_comm]
        exact ih f r (B % r) (by omega) (by omega) (by omega) (by omega) (Or.inl (by omega))
section Fa
variable {p x u q n tl : Nat} {c m : jMem}
/-- what a set of s trumpets that sound is worth -/
def fG (c : jMem) (w n X : Nat) (s : Nat) : Nat := if 0 < s ∧ tWF c 14 w (nI s) = true then (10 - X) ^ s * X ^ (n - s) else 0
theorem fa_cls {w N X : Nat} (h1 : 1 ≤ N) (h9 : N ≤ 9) (hX : X ≤ 10) : cFaU c w N (nI X) = lN (bs N (fG c w N X)) := by
  have hx := x_l ⟨X, by omega⟩
  dsimp only at hx
  rw [← ks_bs (fG c w N X) (by unfold fG; rw [if_neg (by omega)]) h1 h9]
  have := it_rel (f := cFaF c w N (nI X)) (g := fun i a => a + bin N (i + 1) * fG c w N X (i + 1)) (p := N) (fun i s a => s = (lN a, lN (bin N i))) (fun i s a hi hr => by
    subst hr
    have hf := fc_bin ⟨N, by omega⟩ ⟨i, by omega⟩ hi
    dsimp only at hf
    unfold cFaF fG
    dsimp only
    rw [hf, pw_l hx.1, pw_l hx.2]
    by_cases z : tWF c 14 w (nI (i + 1)) = true
    · rw [if_pos z, if_pos ⟨by omega, z⟩, lN_mul, lN_mul, lN_add, Nat.mul_assoc]
    · rw [if_neg z, if_neg (fun y => z y.2), Nat.mul_zero]; rfl) N 0 (0, 1) 0 (by omega) (by cases N <;> rfl)
  unfold cFaU
  rw [this]
  show lN (it (fun i a => a + bin N (i + 1) * fG c w N X (i + 1)) N 0 0) = _
  rw [smf_it (fun i => bin N (i + 1) * fG c w N X (i + 1)), Nat.zero_add]
theorem fa_one {N X i : Nat} (h9 : N ≤ 9) (hX : X ≤ 10) (hi : i < 512) : it (rFaC (nI X) i) N 0 (1, 0) = (lN ((10 - X) ^ pop N i * X ^ (N - pop N i)), nI (pop N i)) := by
  have hx := x_l ⟨X, by omega⟩
  dsimp only at hx
  have key : ∀ n, n ≤ 9 → it (rFaC (nI X) i) n 0 (1, 0) = (lN ((10 - X) ^ pop n i * X ^ (n - pop n i)), nI (pop n i)) := fun n => by
    induction n with
    | zero => intro _; rfl
    | succ n ih =>
      intro hn
      have hle := pop_le i n
      rw [it_snoc, ih (by omega), Nat.zero_add, pop_succ]
      unfold rFaC
      dsimp only
      rw [has_bit i hi n (by omega), hx.1, hx.2]
      cases i.testBit n with
      | true =>
        rw [b_t, b_t, b_t, lN_mul, nI_1, Nat.pow_succ, show n + 1 - (pop n i + 1) = n - pop n i by omega]
        congr 2
        rw [Nat.mul_assoc, Nat.mul_assoc, Nat.mul_comm (10 - X)]
      | false =>
        rw [b_f, b_f, b_f, lN_mul, Int32.add_zero, Nat.add_zero, show n + 1 - pop n i = (n - pop n i) + 1 by omega, Nat.pow_succ, Nat.mul_assoc]
  exact key N h9
theorem fa_ref {w N X : Nat} (h9 : N ≤ 9) (hX : X ≤ 10) (hT : TR True p 14 0 c m) (hw : w < p) : rFaU m w N (nI X) = lN (bs N (fG c w N X)) := by
  have h2 := two_9 h9
  rw [← ss_bs]
  have := it_rel (f := rFaF m w N (nI X)) (g := fun i a => a + fG c w N X (pop N i)) (p := 2 ^ N) (fun i s a => s = lN a) (fun i s a hi hr => by
    subst hr
    have hle := pop_le i N
    unfold rFaF fG
    rw [fa_one h9 hX (by omega)]
    dsimp only
    rw [← hT.wf hw]
    have e0 : (0 < nI (pop N i)) ↔ 0 < pop N i := by rw [show (0 : Int32) = nI 0 by decide, nI_ltI (by omega) (by omega)]
    by_cases z : 0 < pop N i ∧ tWF c 14 w (nI (pop N i)) = true
    · rw [if_pos z, if_pos ⟨e0.mpr z.1, z.2⟩, lN_add]
    · rw [if_neg z, if_neg (fun y => z ⟨e0.mp y.1, y.2⟩), Nat.add_zero]
      exact Int64.add_zero _) (2 ^ N) 0 0 0 (by omega) rfl
  unfold rFaU
  rw [this, smf_it (fun i => fG c w N X (pop N i)), Nat.zero_add]
theorem s_fail (h : Rel p x u q n tl c m) (w k z part : Int32) : ∃ vm m', rFail m w k z part = some (vm, m') ∧ OKc c m (cFail c w k z part).1 (cFail c w k z part).2 vm m' := by
  have hP := h.1
  have hT := h.2.2.1.1
  have hp := hP.p5
  have hg : (rIsW m w = true ∧ rIn k.toInt64 1 9 = true ∧ rIn z.toInt64 0 10 = true ∧ rIn part.toInt64 0 1 = true) ↔ ¬ (xNW c w = true ∨ xOut k 1 9 = true ∨ xOut z 0 10 = true ∨ xOut part 0 1 = true) := by
    rw [hP.isw, g_in (l := 1) (h := 9) (by decide) (by decide), g_in (l := 0) (h := 10) (by decide) (by decide), g_in (l := 0) (h := 1) (by decide) (by decide)]
    cases xNW c w <;> cases xOut k 1 9 <;> cases xOut z 0 10 <;> cases xOut part 0 1 <;> decide
  unfold cFail rFail
  by_cases g : xNW c w = true ∨ xOut k 1 9 = true ∨ xOut z 0 10 = true ∨ xOut part 0 1 = true
  · rw [if_pos g, if_neg (fun y => hg.mp y g)]; exact ⟨_, _, rfl, OKc.same h rfl⟩
  · rw [if_neg g, if_pos (hg.mpr g)]
    obtain ⟨j, k1, -, k3⟩ := hP.inw (Bool.eq_false_iff.mpr (fun y => g (Or.inl y)))
    obtain ⟨N, n1, n2, n3, n4⟩ := g_out (L := 1) (H := 9) (by decide) (by decide) (by decide) (by decide) (Bool.eq_false_iff.mpr (fun y => g (Or.inr (Or.inl y))))
    obtain ⟨X, x1, x2, x3, x4⟩ := g_out (L := 0) (H := 10) (by decide) (by decide) (by decide) (by decide) (Bool.eq_false_iff.mpr (fun y => g (Or.inr (Or.inr (Or.inl y)))))
    rw [k3, n4, hT.st k1]
    by_cases y : rSt m 0 j = true
    · rw [if_pos y, if_pos y]
      subst x3
      unfold cFaG
      rw [fa_cls n1 n2 x2, fa_ref n2 x2 hT k1]
      have eA : rFaA N = cPow 10 N := by
        unfold rFaA cPow
        rw [show (10 : Int32).toInt64 = 10 by decide]
      have e10 : cPow 10 N = lN (10 ^ N) := pw_l (by decide) N
      have p10 : 10 ^ N ≤ 1000000000 ∧ 0 < 10 ^ N := by
        have key : ∀ N : Fin 10, 10 ^ N.val ≤ 1000000000 ∧ 0 < 10 ^ N.val := by decide
        exact key ⟨N, by omega⟩
      have hb : bs N (fG c j N X) ≤ 2 ^ N * 1000000000 := bs_le N _ (fun s hs => by
        unfold fG
        split
        · have := pw_le ⟨X, by omega⟩ ⟨N, by omega⟩ ⟨s, by omega⟩
          dsimp only at this
          omega
        · omega)
      have h2 := two_9 n2
      have hb2 : bs N (fG c j N X) ≤ 512 * 1000000000 := Nat.le_trans hb (Nat.mul_le_mul_right _ h2)
      rw [eA, e10]
      obtain ⟨G, g1, g2, g3, g4⟩ := gcd_ok 30 100 (bs N (fG c j N X)) (10 ^ N) (by omega) (by omega) (by omega) (by omega) (Or.inr p10.2)
      rw [g1, g2]
      have hG : ¬ lN G = 0 := fun v => by
        rw [show (0 : Int64) = lN 0 by decide, pk_lEQ (by omega) (by omega)] at v
        omega
      have hG1 : ¬ lN G < 1 := fun v => by
        rw [show (1 : Int64) = lN 1 by decide, pk_lLT (by omega) (by omega)] at v
        omega
      rw [if_neg hG1]
      show ∃ vm m', (if lN G = 0 then none else some ((if part = 0 then lN (bs N (fG c j N X)) / lN G else lN (10 ^ N) / lN G).toInt32, m)) = some (vm, m') ∧ _
      rw [if_neg hG]
      refine ⟨_, _, rfl, OKc.same h ?_⟩
      by_cases v : part = 0
      · rw [if_pos v, if_pos v]
      · rw [if_neg v, if_neg v]
    · rw [if_neg y, if_neg y]; exact ⟨_, _, rfl, OKc.same h rfl⟩
end Fa
