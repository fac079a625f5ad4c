def hTn (arr q : Nat) (i : Nat) (h : jH) : jH := hR arr i h.1 (h5c h.1 q (hO 5 h))
theorem hTn_N (arr q i : Nat) (h : jH) : (hTn arr q i h).1 = h.1 + 6 := rfl
theorem hTn_k (arr q i : Nat) (h : jH) {x : Nat} (hx : x < h.1) : (hTn arr q i h).2.1 x = h.2.1 x := by
  show jkd (jkd (jkd (jkd (jkd (jkd h.2.1 h.1 _) (h.1 + 1) _) (h.1 + 1 + 1) _) (h.1 + 1 + 1 + 1) _) (h.1 + 1 + 1 + 1 + 1) _) (h.1 + 1 + 1 + 1 + 1 + 1) _ x = _
  unfold jkd
  rw [if_neg (by omega), if_neg (by omega), if_neg (by omega), if_neg (by omega), if_neg (by omega), if_neg (by omega)]
theorem hTn_r (arr q i : Nat) (h : jH) {x y : Nat} (hx : x < h.1) (ha : x ≠ arr) : (hTn arr q i h).2.2.1 x y = h.2.2.1 x y := by
  have e : ∀ (f : Nat → Nat → Option Nat) (n : Nat) (g : Nat → Option Nat), x ≠ n → jrow f n g x y = f x y := fun f n g hn => by unfold jrow; rw [if_neg hn]
  simp only [hTn, h5c, hRA, hR, hA, hO, hV]
  rw [jup_oth ha]
  repeat (first | rw [jup_oth (by omega)] | rw [e _ _ _ (by omega)])
/-- what a walk that lays towns into an array leaves alone -/
theorem hTn_it {arr q : Nat} (ha : ∀ h : jH, True) : ∀ (n i : Nat) (h : jH), (it (hTn arr q) n i h).1 = h.1 + 6 * n ∧ (∀ x, x < h.1 → (it (hTn arr q) n i h).2.1 x = h.2.1 x) ∧ ∀ x y, x < h.1 → x ≠ arr → (it (hTn arr q) n i h).2.2.1 x y = h.2.2.1 x y
  | 0, i, h => ⟨by rw [it]; omega, fun _ _ => rfl, fun _ _ _ _ => rfl⟩
  | n + 1, i, h => by
    obtain ⟨h1, h2, h3⟩ := hTn_it (arr := arr) (q := q) ha n (i + 1) (hTn arr q i h)
    rw [it]
    refine ⟨by rw [h1, hTn_N]; omega, fun x hx => ?_, fun x y hx hy => ?_⟩
    · rw [h2 x (by rw [hTn_N]; omega), hTn_k _ _ _ _ hx]
    · rw [h3 x y (by rw [hTn_N]; omega) hy, hTn_r _ _ _ _ hx hy]
set_option maxRecDepth 20000 in
theorem lk_X2 {G : jG} {Q : Option Value → jH → Prop} {d : Nat} (hd1 : 2 ≤ d) {a q arr : Nat} (har : a ≠ arr) {ac sc : Nat} (h0 : jH) (ho : jO h0.1 h0.2.1 a 2) (hA : jA h0.1 h0.2.1 arr (.object RX5) 8) (hr : h0.2.2.1 a 0 = some arr) (K : J G RX2 cX2_init 3 true d Q ac sc (it (hTn arr q) 8 0 h0) 51 [some (.ref a), some (.ref q), some (.int (nI 8))] []) : J G RX2 cX2_init 3 true d Q (ac + 6 * 8) (sc + 53 * 8) h0 25 [some (.ref a), some (.ref q), some (.int (nI 0))] [] := by
  refine it_loop (f := hTn arr q) (p := 8) (fun i s => J G RX2 cX2_init 3 true d Q (ac + 6 * (8 - i)) (sc + 53 * (8 - i)) s 25 [some (.ref a), some (.ref q), some (.int (nI i))] []) (fun s => J G RX2 cX2_init 3 true d Q ac sc s 51 [some (.ref a), some (.ref q), some (.int (nI 8))] []) (fun _ s => jO s.1 s.2.1 a 2 ∧ jA s.1 s.2.1 arr (.object RX5) 8 ∧ s.2.2.1 a 0 = some arr) ?_ ?_ ?_ 8 0 h0 (by omega) ⟨ho, hA, hr⟩ K
  · intro s ⟨ho, hA, hr⟩ K
    refine j_iload_n dX2_init_25 rfl ?_
    refine j_bipush (v := 8) dX2_init_26 (by decide) ?_
    refine k_icmp_ge (tgt := 51) dX2_init_28 (by decide) (fun c1 c2 => ?_) (fun c1 c2 => ?_)
    · exact K
    · exact absurd (by decide) c1
  · intro i s hi ⟨ho, hA, hr⟩ K
    obtain ⟨N, κ, ρ, μ, ν⟩ := s
    refine j_iload_n dX2_init_25 rfl ?_
    refine j_bipush (v := 8) dX2_init_26 (by decide) ?_
    refine k_icmp_ge (tgt := 51) dX2_init_28 (by decide) (fun c1 c2 => ?_) (fun c1 c2 => ?_)
    · exact absurd c1 (by rw [jl8]; exact nI_ge (by omega) (by omega))
    · refine j_room (ac' := ac + 6 * (8 - (i + 1)) + 6) (sc' := sc + 53 * (8 - (i + 1)) + 53) (by omega) (by omega) ?_
      refine j_aload_n dX2_init_31 rfl ?_
      refine j_getr dX2_init_32 fl_X2_11 rfl ho hr ?_
      refine j_iload_n dX2_init_35 rfl ?_
      refine j_room (ac' := ac + 6 * (8 - (i + 1)) + 5 + 1) (sc' := sc + 53 * (8 - (i + 1)) + 45 + 8) (by omega) (by omega) ?_
      refine j_new (ci := 5) (n := 8) dX2_init_36 cl_X2_9 jcf_5 ?_
      refine j_dup dX2_init_39 rfl ?_
      refine j_aload_n dX2_init_40 rfl ?_
      refine j_cI1v dX2_init_41 (k_X5 jO_n) ml_X2_24 my_X5_init mk_X5_init rfl (by omega) (Nat.le_of_ble_eq_true rfl) (Nat.le_of_ble_eq_true rfl) ?_
      refine j_aast (k := i) (ci := 5) dX2_init_44 (jA_s (jA_s (jA_s (jA_s (jA_s (jA_s hA)))))) rfl hi (jO_s (jO_s (jO_s (jO_s (jO_s jO_n))))) rfl ?_
      refine j_iinc_2 (v := nI (i + 1)) dX2_init_45 (nI_add _ _) rfl ?_
      refine j_goto (tgt := 25) dX2_init_48 (by decide) ?_
      exact K
  · intro i s hi ⟨ho, hA, hr⟩
    refine ⟨⟨by rw [hTn_N]; have := ho.1; omega, (hTn_k _ _ _ _ ho.1).trans ho.2⟩, ⟨by rw [hTn_N]; have := hA.1; omega, (hTn_k _ _ _ _ hA.1).trans hA.2.1, hA.2.2⟩, (hTn_r _ _ _ _ ho.1 har).trans hr⟩

set_option maxRecDepth 20000 in
theorem lk_X1 {G : jG} {Q : Option Value → jH → Prop} {d : Nat} (hd1 : 2 ≤ d) {a q arr : Nat} (har : a ≠ arr) {ac sc : Nat} (h0 : jH) (ho : jO h0.1 h0.2.1 a 1) (hA : jA h0.1 h0.2.1 arr (.object RX5) 11) (hr : h0.2.2.1 a 1 = some arr) (K : J G RX1 cX1_init 3 true d Q ac sc (it (hTn arr q) 11 0 h0) 92 [some (.ref a), some (.ref q), some (.int (nI 11))] []) : J G RX1 cX1_init 3 true d Q (ac + 6 * 11) (sc + 53 * 11) h0 66 [some (.ref a), some (.ref q), some (.int (nI 0))] [] := by
  refine it_loop (f := hTn arr q) (p := 11) (fun i s => J G RX1 cX1_init 3 true d Q (ac + 6 * (11 - i)) (sc + 53 * (11 - i)) s 66 [some (.ref a), some (.ref q), some (.int (nI i))] []) (fun s => J G RX1 cX1_init 3 true d Q ac sc s 92 [some (.ref a), some (.ref q), some (.int (nI 11))] []) (fun _ s => jO s.1 s.2.1 a 1 ∧ jA s.1 s.2.1 arr (.object RX5) 11 ∧ s.2.2.1 a 1 = some arr) ?_ ?_ ?_ 11 0 h0 (by omega) ⟨ho, hA, hr⟩ K
  · intro s ⟨ho, hA, hr⟩ K
    refine j_iload_n dX1_init_66 rfl ?_
    refine j_bipush (v := 10) dX1_init_67 (by decide) ?_
    refine k_icmp_gt (tgt := 92) dX1_init_69 (by decide) (fun c1 c2 => ?_) (fun c1 c2 => ?_)
    · exact K
    · exact absurd (by decide) c1
  · intro i s hi ⟨ho, hA, hr⟩ K
    obtain ⟨N, κ, ρ, μ, ν⟩ := s
    refine j_iload_n dX1_init_66 rfl ?_
    refine j_bipush (v := 10) dX1_init_67 (by decide) ?_
    refine k_icmp_gt (tgt := 92) dX1_init_69 (by decide) (fun c1 c2 => ?_) (fun c1 c2 => ?_)
    · exact absurd c1 (by rw [jl10]; exact nI_nlt (by omega) (by omega))
    · refine j_room (ac' := ac + 6 * (11 - (i + 1)) + 6) (sc' := sc + 53 * (11 - (i + 1)) + 53) (by omega) (by omega) ?_
      refine j_aload_n dX1_init_72 rfl ?_
      refine j_getr dX1_init_73 fl_X1_11 rfl ho hr ?_
      refine j_iload_n dX1_init_76 rfl ?_
      refine j_room (ac' := ac + 6 * (11 - (i + 1)) + 5 + 1) (sc' := sc + 53 * (11 - (i + 1)) + 45 + 8) (by omega) (by omega) ?_
      refine j_new (ci := 5) (n := 8) dX1_init_77 cl_X1_9 jcf_5 ?_
      refine j_dup dX1_init_80 rfl ?_
      refine j_aload_n dX1_init_81 rfl ?_
      refine j_cI1v dX1_init_82 (k_X5 jO_n) ml_X1_42 my_X5_init mk_X5_init rfl (by omega) (Nat.le_of_ble_eq_true rfl) (Nat.le_of_ble_eq_true rfl) ?_
      refine j_aast (k := i) (ci := 5) dX1_init_85 (jA_s (jA_s (jA_s (jA_s (jA_s (jA_s hA)))))) rfl hi (jO_s (jO_s (jO_s (jO_s (jO_s jO_n))))) rfl ?_
      refine j_iinc_2 (v := nI (i + 1)) dX1_init_86 (nI_add _ _) rfl ?_
      refine j_goto (tgt := 66) dX1_init_89 (by decide) ?_
      exact K
  · intro i s hi ⟨ho, hA, hr⟩
    refine ⟨⟨by rw [hTn_N]; have := ho.1; omega, (hTn_k _ _ _ _ ho.1).trans ho.2⟩, ⟨by rw [hTn_N]; have := hA.1; omega, (hTn_k _ _ _ _ hA.1).trans hA.2.1, hA.2.2⟩, (hTn_r _ _ _ _ ho.1 har).trans hr⟩

def h2cb (a q : Nat) (h : jH) : jH := (hV a 2 0 (hV a 1 0 (hRA a 0 (.object RX5) 8 h)))
def h2c (a q : Nat) (h : jH) : jH := it (hTn h.1 q) 8 0 (h2cb a q h)
theorem h2cb_r (a q N : Nat) (κ : Nat → jK) (ρ : Nat → Nat → Option Nat) (μ : jMem) (ν : Nat → Nat → Int64) (ha : a < N) : (h2cb a q (N, κ, ρ, μ, ν)).2.2.1 a 0 = some N := by
  have e : ∀ (f : Nat → Nat → Option Nat) (n : Nat) (g : Nat → Option Nat), a ≠ n → jrow f n g a 0 = f a 0 := fun f n g hn => by unfold jrow; rw [if_neg hn]
  simp only [h2cb, hRA, hR, hA, hV]
  repeat (first | rw [jup_self] | rw [jup_oth2 (by decide)] | rw [e _ _ _ (by omega)])
set_option maxRecDepth 20000 in
theorem k_X2 {G : jG} {N : Nat} {κ : Nat → jK} {ρ : Nat → Nat → Option Nat} {μ : Nat → Nat → Int32} {ν : Nat → Nat → Int64} {a q : Nat} (ho : jO N κ a 2) : MT G yX2_init cX2_init 3 none 2 49 432 [.ref a, .ref q] (N, κ, ρ, μ, ν) none (h2c a q (N, κ, ρ, μ, ν)) := by
  refine jMT (ini := true) my_X2_init (fun _ => rfl) jRv_v (Nat.le_of_ble_eq_true rfl) ?_
  show J G RX2 cX2_init 3 true 2 _ 49 432 (N, κ, ρ, μ, ν) 0 [some (.ref a), some (.ref q), none] []
  refine j_aload_n dX2_init_0 rfl ?_
  refine j_obj dX2_init_1 ml_X2_3 (by omega) (by decide) ?_
  refine j_aload_n dX2_init_4 rfl ?_
  refine j_bipush (v := 8) dX2_init_5 (by decide) ?_
  refine j_anew (len := 8) dX2_init_7 cl_X2_9 rfl (by decide) ?_
  refine j_putF dX2_init_10 fl_X2_11 rfl (jO_s ho) rfl rfl rfl rfl ?_
  refine j_aload_n dX2_init_13 rfl ?_
  refine j_iconst (v := 0) dX2_init_14 (by decide) ?_
  refine j_puti dX2_init_15 fl_X2_17 rfl (jO_s ho) ?_
  refine j_aload_n dX2_init_18 rfl ?_
  refine j_iconst (v := 0) dX2_init_19 (by decide) ?_
  refine j_puti dX2_init_20 fl_X2_21 rfl (jO_s ho) ?_
  refine j_iconst (v := 0) dX2_init_23 (by decide) ?_
  refine j_istore_2 dX2_init_24 rfl ?_
  refine lk_X2 (h0 := h2cb a q (N, κ, ρ, μ, ν)) (ac := 0) (sc := 0) (by omega) (Nat.ne_of_lt ho.1) (jO_s ho) (jA_n (by decide)) (h2cb_r a q N κ ρ μ ν ho.1) ?_
  exact j_vret dX2_init_51 ⟨rfl, rfl⟩

def h1cb (a q : Nat) (h : jH) : jH := (hR a 0 q (hV a 7 1000 (hV a 6 0 (hRA a 5 .int 1024 (hRA a 4 .long 1024 (hRA a 3 .int 10 (hRA a 2 .int 10 (hRA a 1 (.object RX5) 11 h))))))))
def h1c (a q : Nat) (h : jH) : jH := it (hTn h.1 q) 11 0 (h1cb a q h)
theorem h1cb_r (a q N : Nat) (κ : Nat → jK) (ρ : Nat → Nat → Option Nat) (μ : jMem) (ν : Nat → Nat → Int64) (ha : a < N) : (h1cb a q (N, κ, ρ, μ, ν)).2.2.1 a 1 = some N := by
  have e : ∀ (f : Nat → Nat → Option Nat) (n : Nat) (g : Nat → Option Nat), a ≠ n → jrow f n g a 1 = f a 1 := fun f n g hn => by unfold jrow; rw [if_neg hn]
  simp only [h1cb, hRA, hR, hA, hV]
  repeat (first | rw [jup_self] | rw [jup_oth2 (by decide)] | rw [e _ _ _ (by omega)])
set_option maxRecDepth 20000 in
theorem k_X1 {G : jG} {N : Nat} {κ : Nat → jK} {ρ : Nat → Nat → Option Nat} {μ : Nat → Nat → Int32} {ν : Nat → Nat → Int64} {a q : Nat} (ho : jO N κ a 1) : MT G yX1_init cX1_init 3 none 2 71 2662 [.ref a, .ref q] (N, κ, ρ, μ, ν) none (h1c a q (N, κ, ρ, μ, ν)) := by
  refine jMT (ini := true) my_X1_init (fun _ => rfl) jRv_v (Nat.le_of_ble_eq_true rfl) ?_
  show J G RX1 cX1_init 3 true 2 _ 71 2662 (N, κ, ρ, μ, ν) 0 [some (.ref a), some (.ref q), none] []
  refine j_aload_n dX1_init_0 rfl ?_
  refine j_obj dX1_init_1 ml_X1_3 (by omega) (by decide) ?_
  refine j_aload_n dX1_init_4 rfl ?_
  refine j_bipush (v := 11) dX1_init_5 (by decide) ?_
  refine j_anew (len := 11) dX1_init_7 cl_X1_9 rfl (by decide) ?_
  refine j_putF dX1_init_10 fl_X1_11 rfl (jO_s ho) rfl rfl rfl rfl ?_
  refine j_aload_n dX1_init_13 rfl ?_
  refine j_bipush (v := 10) dX1_init_14 (by decide) ?_
  refine j_newa (len := 10) (idx := 0) dX1_init_16 ac_int rfl (by decide) (by decide) ?_
  refine j_putF dX1_init_18 fl_X1_17 rfl (jO_s (jO_s ho)) rfl rfl rfl rfl ?_
  refine j_aload_n dX1_init_21 rfl ?_
  refine j_bipush (v := 10) dX1_init_22 (by decide) ?_
  refine j_newa (len := 10) (idx := 0) dX1_init_24 ac_int rfl (by decide) (by decide) ?_
  refine j_putF dX1_init_26 fl_X1_21 rfl (jO_s (jO_s (jO_s ho))) rfl rfl rfl rfl ?_
  refine j_aload_n dX1_init_29 rfl ?_
  refine j_sipush (v := 1024) dX1_init_30 (by decide) ?_
  refine j_newa (len := 1024) (idx := 0) dX1_init_33 ac_long rfl (by decide) (by decide) ?_
  refine j_putF dX1_init_35 fl_X1_24 rfl (jO_s (jO_s (jO_s (jO_s ho)))) rfl rfl rfl rfl ?_
  refine j_aload_n dX1_init_38 rfl ?_
  refine j_sipush (v := 1024) dX1_init_39 (by decide) ?_
  refine j_newa (len := 1024) (idx := 0) dX1_init_42 ac_int rfl (by decide) (by decide) ?_
  refine j_putF dX1_init_44 fl_X1_28 rfl (jO_s (jO_s (jO_s (jO_s (jO_s ho))))) rfl rfl rfl rfl ?_
  refine j_aload_n dX1_init_47 rfl ?_
  refine j_iconst (v := 0) dX1_init_48 (by decide) ?_
  refine j_puti dX1_init_49 fl_X1_31 rfl (jO_s (jO_s (jO_s (jO_s (jO_s ho))))) ?_
  refine j_aload_n dX1_init_52 rfl ?_
  refine j_sipush (v := 1000) dX1_init_53 (by decide) ?_
  refine j_puti dX1_init_56 fl_X1_35 rfl (jO_s (jO_s (jO_s (jO_s (jO_s ho))))) ?_
  refine j_aload_n dX1_init_59 rfl ?_
  refine j_aload_n dX1_init_60 rfl ?_
  refine j_putF dX1_init_61 fl_X1_38 rfl (jO_s (jO_s (jO_s (jO_s (jO_s ho))))) rfl rfl rfl rfl ?_
  refine j_iconst (v := 0) dX1_init_64 (by decide) ?_
  refine j_istore_2 dX1_init_65 rfl ?_
  refine lk_X1 (h0 := h1cb a q (N, κ, ρ, μ, ν)) (ac := 0) (sc := 0) (by omega) (Nat.ne_of_lt ho.1) (jO_s (jO_s (jO_s (jO_s (jO_s ho))))) (jA_s (jA_s (jA_s (jA_s (jA_n (by decide)))))) (h1cb_r a q N κ ρ μ ν ho.1) ?_
  exact j_vret dX1_init_92 ⟨rfl, rfl⟩

