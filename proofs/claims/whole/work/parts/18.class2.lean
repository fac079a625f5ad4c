def cOthM (μ : jMem) (p w : Nat) : jMem := tFall 20 p 6 (tCp μ 20 14) w 1
def cOth (μ : jMem) (p w : Nat) : Int32 := tCD (cOthM μ p w) 20 p - tCD (cOthM μ p w) 14 p - (if tSt (cOthM μ p w) 20 w = true then 0 else 1)
theorem cOthM_lo (μ : jMem) (p w : Nat) {k j : Nat} (hk : k < 14) : cOthM μ p w k j = μ k j := by
  unfold cOthM
  rw [tFall_lo twn_20 p hk, tCp_lo twn_20 hk]
set_option maxRecDepth 20000 in
theorem t_oth {G : jG} {N : Nat} {κ : Nat → jK} {ρ : Nat → Nat → Option Nat} {μ : Nat → Nat → Int32} {ν : Nat → Nat → Int64} (hs : shC N κ ρ) {p : Nat} (hp : μ 9 0 = nI p) (hp5 : p ≤ 5) {w : Nat} (hw : w < 5) : MT G yX6_othersDownBy cX6_othersDownBy 3 (some .int) 9 0 0 [.ref 0, .int (nI w)] (N, κ, ρ, μ, ν) (some (.int (cOth μ p w))) (N, κ, ρ, cOthM μ p w, ν) := by
  refine jMT (ini := false) my_X6_othersDownBy (fun h => by cases h) (jRv_i _) (Nat.le_of_ble_eq_true rfl) ?_
  show J G RX6 cX6_othersDownBy 3 false 9 _ 0 0 (N, κ, ρ, μ, ν) 0 [some (.ref 0), some (.int (nI w)), none] []
  have hpo : tFall 20 p 6 (tCp μ 20 14) w 1 9 0 = nI p := by rw [tFall_lo twn_20 p (by decide), tCp_lo twn_20 (by decide)]; exact hp
  refine j_aload_n dX6_othersDownBy_0 rfl ?_
  refine j_getr dX6_othersDownBy_1 fl_X6_35 rfl (o_0 hs) (r_0_4 hs) ?_
  refine j_aload_n dX6_othersDownBy_4 rfl ?_
  refine j_getr dX6_othersDownBy_5 fl_X6_31 rfl (o_0 hs) (r_0_3 hs) ?_
  refine j_cV1v dX6_othersDownBy_8 (t_copyFrom hs twn_20 twn_14) ml_X6_170 my_X5_copyFrom mi_X5_copyFrom (tO hs twn_20) rfl (by omega) (Nat.le_of_ble_eq_true rfl) (Nat.le_of_ble_eq_true rfl) ?_
  refine j_aload_n dX6_othersDownBy_11 rfl ?_
  refine j_getr dX6_othersDownBy_12 fl_X6_35 rfl (o_0 hs) (r_0_4 hs) ?_
  refine j_iload_n dX6_othersDownBy_15 rfl ?_
  refine j_iconst (v := 1) dX6_othersDownBy_16 (by decide) ?_
  refine j_cV2v dX6_othersDownBy_17 (t_comeDown (w := w) hs twn_20 (by rw [tCp_lo twn_20 (by decide)]; exact hp) hp5 hw) ml_X6_233 my_X5_comeDown mi_X5_comeDown (tO hs twn_20) rfl (by omega) (Nat.le_of_ble_eq_true rfl) (Nat.le_of_ble_eq_true rfl) ?_
  refine j_aload_n dX6_othersDownBy_20 rfl ?_
  refine j_getr dX6_othersDownBy_21 fl_X6_35 rfl (o_0 hs) (r_0_4 hs) ?_
  refine j_iload_n dX6_othersDownBy_24 rfl ?_
  refine j_cV1r dX6_othersDownBy_25 (t_stands (w := w) hs twn_20 (by omega)) ml_X6_114 my_X5_stands mi_X5_stands (tO hs twn_20) rfl (by omega) (Nat.le_of_ble_eq_true rfl) (Nat.le_of_ble_eq_true rfl) ?_
  refine j_if_eqB (tgt := 35) dX6_othersDownBy_28 (by decide) (fun c28 => ?_) (fun c28 => ?_)
  · skip
    refine j_iconst (v := 1) dX6_othersDownBy_35 (by decide) ?_
    refine j_istore_2 dX6_othersDownBy_36 rfl ?_
    refine j_aload_n dX6_othersDownBy_37 rfl ?_
    refine j_getr dX6_othersDownBy_38 fl_X6_35 rfl (o_0 hs) (r_0_4 hs) ?_
    refine j_cV0r dX6_othersDownBy_41 (t_countDown hs twn_20 hpo hp5) ml_X6_224 my_X5_countDown mi_X5_countDown (tO hs twn_20) rfl (by omega) (Nat.le_of_ble_eq_true rfl) (Nat.le_of_ble_eq_true rfl) ?_
    refine j_aload_n dX6_othersDownBy_44 rfl ?_
    refine j_getr dX6_othersDownBy_45 fl_X6_31 rfl (o_0 hs) (r_0_3 hs) ?_
    refine j_cV0r dX6_othersDownBy_48 (t_countDown hs twn_14 hpo hp5) ml_X6_224 my_X5_countDown mi_X5_countDown (tO hs twn_14) rfl (by omega) (Nat.le_of_ble_eq_true rfl) (Nat.le_of_ble_eq_true rfl) ?_
    refine j_isub dX6_othersDownBy_51 ?_
    refine j_iload_n dX6_othersDownBy_52 rfl ?_
    refine j_isub dX6_othersDownBy_53 ?_
    exact j_iret dX6_othersDownBy_54 ⟨by simp only [cOth, cOthM, c28, reduceIte, Bool.false_eq_true, Bool.true_eq_false, and_self, and_true, true_and, and_false, false_and, not_true_eq_false, not_false_eq_true, ne_eq, decide_true, decide_false, if_true, if_false, Bool.not_eq_true, Bool.not_eq_false], rfl⟩
  · skip
    refine j_iconst (v := 0) dX6_othersDownBy_31 (by decide) ?_
    refine j_goto (tgt := 36) dX6_othersDownBy_32 (by decide) ?_
    refine j_istore_2 dX6_othersDownBy_36 rfl ?_
    refine j_aload_n dX6_othersDownBy_37 rfl ?_
    refine j_getr dX6_othersDownBy_38 fl_X6_35 rfl (o_0 hs) (r_0_4 hs) ?_
    refine j_cV0r dX6_othersDownBy_41 (t_countDown hs twn_20 hpo hp5) ml_X6_224 my_X5_countDown mi_X5_countDown (tO hs twn_20) rfl (by omega) (Nat.le_of_ble_eq_true rfl) (Nat.le_of_ble_eq_true rfl) ?_
    refine j_aload_n dX6_othersDownBy_44 rfl ?_
    refine j_getr dX6_othersDownBy_45 fl_X6_31 rfl (o_0 hs) (r_0_3 hs) ?_
    refine j_cV0r dX6_othersDownBy_48 (t_countDown hs twn_14 hpo hp5) ml_X6_224 my_X5_countDown mi_X5_countDown (tO hs twn_14) rfl (by omega) (Nat.le_of_ble_eq_true rfl) (Nat.le_of_ble_eq_true rfl) ?_
    refine j_isub dX6_othersDownBy_51 ?_
    refine j_iload_n dX6_othersDownBy_52 rfl ?_
    refine j_isub dX6_othersDownBy_53 ?_
    exact j_iret dX6_othersDownBy_54 ⟨by simp only [cOth, cOthM, c28, reduceIte, Bool.false_eq_true, Bool.true_eq_false, and_self, and_true, true_and, and_false, false_and, not_true_eq_false, not_false_eq_true, ne_eq, decide_true, decide_false, if_true, if_false, Bool.not_eq_true, Bool.not_eq_false], rfl⟩

def cKeyF (p : Nat) : Nat → (Int32 × Int32) × jMem → (Int32 × Int32) × jMem := fun w s =>
  if tSt s.2 14 w = true then (if s.1.1 = -4 ∨ s.1.2 < cOth s.2 p w then ((nI w, cOth s.2 p w), cOthM s.2 p w) else (s.1, cOthM s.2 p w)) else s
def cKey (μ : jMem) (p : Nat) (what : Int32) : Int32 × jMem := if xOut what 0 1 = true then (-1, μ) else
  (if what = 0 then (it (cKeyF p) p 0 ((-4, -4), μ)).1.1 else (it (cKeyF p) p 0 ((-4, -4), μ)).1.2, (it (cKeyF p) p 0 ((-4, -4), μ)).2)
theorem cKeyF_lo (p w : Nat) (s : (Int32 × Int32) × jMem) {k j : Nat} (hk : k < 14) : (cKeyF p w s).2 k j = s.2 k j := by
  unfold cKeyF
  split
  · split <;> exact cOthM_lo _ _ _ hk
  · rfl
set_option maxRecDepth 20000 in
theorem lp_key {G : jG} {N : Nat} {κ : Nat → jK} {ρ : Nat → Nat → Option Nat} {ν : Nat → Nat → Int64} {Q : Option Value → jH → Prop} {d : Nat} (hd1 : 10 ≤ d) {p : Nat} {μ : jMem} (hs : shC N κ ρ) (hp : μ 9 0 = nI p) (hp5 : p ≤ 5) {what : Int32} (K : J G RX6 cX6_key 6 false d Q 0 0 (N, κ, ρ, ((it (cKeyF p) p 0 ((-4, -4), μ))).2, ν) 79 [some (.ref 0), some (.int what), some (.int (it (cKeyF p) p 0 ((-4, -4), μ)).1.1), some (.int (it (cKeyF p) p 0 ((-4, -4), μ)).1.2), some (.int (nI p)), none] []) : J G RX6 cX6_key 6 false d Q 0 0 (N, κ, ρ, (((-4, -4), μ)).2, ν) 20 [some (.ref 0), some (.int what), some (.int ((-4, -4), μ).1.1), some (.int ((-4, -4), μ).1.2), some (.int (nI 0)), none] [] := by
  refine it_loop (f := cKeyF p) (p := p) (fun i s => J G RX6 cX6_key 6 false d Q 0 0 (N, κ, ρ, (s).2, ν) 20 [some (.ref 0), some (.int what), some (.int s.1.1), some (.int s.1.2), some (.int (nI i)), none] []) (fun s => J G RX6 cX6_key 6 false d Q 0 0 (N, κ, ρ, (s).2, ν) 79 [some (.ref 0), some (.int what), some (.int s.1.1), some (.int s.1.2), some (.int (nI p)), none] []) (fun _ s => s.2 9 0 = nI p) ?_ ?_ (fun i s _ h => by rw [cKeyF_lo p i s (by decide)]; exact h) p 0 ((-4, -4), μ) (by omega) hp K
  · intro s hI K
    replace hp := hI
    refine j_iload dX6_key_20 rfl ?_
    refine j_aload_n dX6_key_22 rfl ?_
    refine j_getr dX6_key_23 fl_X6_23 rfl (o_0 hs) (r_0_2 hs) ?_
    refine j_geti dX6_key_26 fl_X6_92 rfl (o_9 hs) ?_
    refine k_icmp_ge (tgt := 79) dX6_key_29 (by decide) (fun c29 c29' => ?_) (fun c29 c29' => ?_)
    · skip
      exact K
    · skip
      exact absurd (by rw [hp]; exact Int32.le_refl _) c29
  · intro i s hi hI K
    (try dsimp only at K)
    replace hp := hI
    unfold cKeyF at K
    (try dsimp only at K)
    refine j_iload dX6_key_20 rfl ?_
    refine j_aload_n dX6_key_22 rfl ?_
    refine j_getr dX6_key_23 fl_X6_23 rfl (o_0 hs) (r_0_2 hs) ?_
    refine j_geti dX6_key_26 fl_X6_92 rfl (o_9 hs) ?_
    refine k_icmp_ge (tgt := 79) dX6_key_29 (by decide) (fun c29 c29' => ?_) (fun c29 c29' => ?_)
    · skip
      exact absurd c29 (by rw [hp]; exact nI_ge (by omega) (by omega))
    · skip
      refine j_aload_n dX6_key_32 rfl ?_
      refine j_getr dX6_key_33 fl_X6_31 rfl (o_0 hs) (r_0_3 hs) ?_
      refine j_iload dX6_key_36 rfl ?_
      refine j_cV1r dX6_key_38 (t_stands (w := i) hs twn_14 (by omega)) ml_X6_114 my_X5_stands mi_X5_stands (tO hs twn_14) rfl (by omega) (Nat.le_of_ble_eq_true rfl) (Nat.le_of_ble_eq_true rfl) ?_
      refine j_if_neB (tgt := 47) dX6_key_41 (by decide) (fun c41 => ?_) (fun c41 => ?_)
      · skip
        refine j_aload_n dX6_key_47 rfl ?_
        refine j_iload dX6_key_48 rfl ?_
        refine j_cV1r dX6_key_50 (t_oth (w := i) hs hp hp5 (by omega)) ml_X6_179 my_X6_othersDownBy mi_X6_othersDownBy (o_0 hs) rfl (by omega) (Nat.le_of_ble_eq_true rfl) (Nat.le_of_ble_eq_true rfl) ?_
        refine j_istore_5 dX6_key_53 rfl ?_
        refine j_iload_n dX6_key_55 rfl ?_
        refine j_bipush (v := (-4)) dX6_key_56 (by decide) ?_
        refine j_icmp_eq (tgt := 67) dX6_key_58 (by decide) (fun c58 => ?_) (fun c58 => ?_)
        · skip
          refine j_iload dX6_key_67 rfl ?_
          refine j_istore_2 dX6_key_69 rfl ?_
          refine j_iload dX6_key_70 rfl ?_
          refine j_istore_3 dX6_key_72 rfl ?_
          refine j_iinc_4 (v := nI (i + 1)) dX6_key_73 (nI_add _ _) rfl ?_
          refine j_goto (tgt := 20) dX6_key_76 (by decide) ?_
          (try simp only [c29, c29', c41, eq_true c58, reduceIte, Bool.false_eq_true, Bool.true_eq_false, and_self, and_true, true_and, and_false, false_and, not_true_eq_false, not_false_eq_true, ne_eq, decide_true, decide_false, if_true, if_false, Bool.not_eq_true, Bool.not_eq_false, true_or, or_true, or_self, or_false, false_or] at K)
          exact j_forget_5 K
        · skip
          refine j_iload dX6_key_61 rfl ?_
          refine j_iload_n dX6_key_63 rfl ?_
          refine k_icmp_le (tgt := 73) dX6_key_64 (by decide) (fun c64 c64' => ?_) (fun c64 c64' => ?_)
          · skip
            refine j_iinc_4 (v := nI (i + 1)) dX6_key_73 (nI_add _ _) rfl ?_
            refine j_goto (tgt := 20) dX6_key_76 (by decide) ?_
            (try simp only [c29, c29', c41, c58, c64, c64', reduceIte, Bool.false_eq_true, Bool.true_eq_false, and_self, and_true, true_and, and_false, false_and, not_true_eq_false, not_false_eq_true, ne_eq, decide_true, decide_false, if_true, if_false, Bool.not_eq_true, Bool.not_eq_false, true_or, or_true, or_self, or_false, false_or] at K)
            exact j_forget_5 K
          · skip
            refine j_iload dX6_key_67 rfl ?_
            refine j_istore_2 dX6_key_69 rfl ?_
            refine j_iload dX6_key_70 rfl ?_
            refine j_istore_3 dX6_key_72 rfl ?_
            refine j_iinc_4 (v := nI (i + 1)) dX6_key_73 (nI_add _ _) rfl ?_
            refine j_goto (tgt := 20) dX6_key_76 (by decide) ?_
            (try simp only [c29, c29', c41, c58, c64, c64', reduceIte, Bool.false_eq_true, Bool.true_eq_false, and_self, and_true, true_and, and_false, false_and, not_true_eq_false, not_false_eq_true, ne_eq, decide_true, decide_false, if_true, if_false, Bool.not_eq_true, Bool.not_eq_false, true_or, or_true, or_self, or_false, false_or] at K)
            exact j_forget_5 K
      · skip
        refine j_goto (tgt := 73) dX6_key_44 (by decide) ?_
        refine j_iinc_4 (v := nI (i + 1)) dX6_key_73 (nI_add _ _) rfl ?_
        refine j_goto (tgt := 20) dX6_key_76 (by decide) ?_
        (try simp only [c29, c29', c41, reduceIte, Bool.false_eq_true, Bool.true_eq_false, and_self, and_true, true_and, and_false, false_and, not_true_eq_false, not_false_eq_true, ne_eq, decide_true, decide_false, if_true, if_false, Bool.not_eq_true, Bool.not_eq_false, true_or, or_true, or_self, or_false, false_or] at K)
        exact j_forget_5 K

set_option maxRecDepth 20000 in
theorem t_key {G : jG} {N : Nat} {κ : Nat → jK} {ρ : Nat → Nat → Option Nat} {μ : Nat → Nat → Int32} {ν : Nat → Nat → Int64} (hs : shC N κ ρ) {p : Nat} (hp : μ 9 0 = nI p) (hp5 : p ≤ 5) {what : Int32} : MT G yX6_key cX6_key 6 (some .int) 10 0 0 [.ref 0, .int what] (N, κ, ρ, μ, ν) (some (.int (cKey μ p what).1)) (N, κ, ρ, (cKey μ p what).2, ν) := by
  refine jMT (ini := false) my_X6_key (fun h => by cases h) (jRv_i _) (Nat.le_of_ble_eq_true rfl) ?_
  show J G RX6 cX6_key 6 false 10 _ 0 0 (N, κ, ρ, μ, ν) 0 [some (.ref 0), some (.int what), none, none, none, none] []
  generalize hQe : (fun (v' : Option Value) (h'' : jH) => v' = (some (.int (cKey μ p what).1)) ∧ h'' = (N, κ, ρ, (cKey μ p what).2, ν)) = Q
  have hQ : Q (some (.int (cKey μ p what).1)) (N, κ, ρ, (cKey μ p what).2, ν) := by rw [← hQe]; exact ⟨rfl, rfl⟩
  clear hQe
  refine j_iload_n dX6_key_0 rfl ?_
  refine j_iconst (v := 0) dX6_key_1 (by decide) ?_
  refine j_iconst (v := 1) dX6_key_2 (by decide) ?_
  refine j_cS3r dX6_key_3 t_out ml_X6_142 my_X6_isOutside ms_X6_isOutside (by omega) (Nat.le_of_ble_eq_true rfl) (Nat.le_of_ble_eq_true rfl) ?_
  refine j_if_eqB (tgt := 11) dX6_key_6 (by decide) (fun c6 => ?_) (fun c6 => ?_)
  · skip
    refine j_bipush (v := (-4)) dX6_key_11 (by decide) ?_
    refine j_istore_2 dX6_key_13 rfl ?_
    refine j_bipush (v := (-4)) dX6_key_14 (by decide) ?_
    refine j_istore_3 dX6_key_16 rfl ?_
    refine j_iconst (v := 0) dX6_key_17 (by decide) ?_
    refine j_istore_4 dX6_key_18 rfl ?_
    refine lp_key (μ := μ) (by omega) hs hp hp5 ?_
    refine j_iload_n dX6_key_79 rfl ?_
    refine j_if_ne (tgt := 87) dX6_key_80 (by decide) (fun c80 => ?_) (fun c80 => ?_)
    · skip
      refine j_iload_n dX6_key_87 rfl ?_
      exact j_iret dX6_key_88 (by simpa only [cKey, c6, c80, reduceIte, Bool.false_eq_true, Bool.true_eq_false, and_self, and_true, true_and, and_false, false_and, not_true_eq_false, not_false_eq_true, ne_eq, decide_true, decide_false, if_true, if_false, Bool.not_eq_true, Bool.not_eq_false] using hQ)
    · skip
      refine j_iload_n dX6_key_83 rfl ?_
      refine j_goto (tgt := 88) dX6_key_84 (by decide) ?_
      exact j_iret dX6_key_88 (by simpa only [cKey, c6, eq_true c80, reduceIte, Bool.false_eq_true, Bool.true_eq_false, and_self, and_true, true_and, and_false, false_and, not_true_eq_false, not_false_eq_true, ne_eq, decide_true, decide_false, if_true, if_false, Bool.not_eq_true, Bool.not_eq_false] using hQ)
  · skip
    refine j_iconst (v := (-1)) dX6_key_9 (by decide) ?_
    exact j_iret dX6_key_10 (by simpa only [cKey, c6, reduceIte, Bool.false_eq_true, Bool.true_eq_false, and_self, and_true, true_and, and_false, false_and, not_true_eq_false, not_false_eq_true, ne_eq, decide_true, decide_false, if_true, if_false, Bool.not_eq_true, Bool.not_eq_false] using hQ)

