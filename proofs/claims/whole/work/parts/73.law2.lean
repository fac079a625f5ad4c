/-! THE LAW'S LOOP -/
theorem and31 (a : Int32) : ∃ v, v < 32 ∧ a &&& 31 = nI v := by
  refine ⟨a.toBitVec.toNat &&& 31, ?_, ?_⟩
  · have : a.toBitVec.toNat &&& 31 ≤ 31 := Nat.and_le_right
    omega
  · have h31 : a.toBitVec.toNat &&& 31 ≤ 31 := Nat.and_le_right
    refine Int32.toBitVec_inj.mp ?_
    apply BitVec.eq_of_toNat_eq
    rw [Int32.toBitVec_and, BitVec.toNat_and]
    show a.toBitVec.toNat &&& 31 = (a.toBitVec.toNat &&& 31) % 2 ^ 32
    rw [Nat.mod_eq_of_lt (by omega)]
set_option maxRecDepth 20000 in
theorem law_body {G : jG} {Q : Option Value → jH → Prop} {κ : Nat → jK} {ρ : Nat → Nat → Option Nat} (hs : shC 181 κ ρ) (hr : shR 181 κ ρ) {μ : jMem} {ν : jNu} {i : Nat} (hi : i + 5 ≤ jsL G) (hL : jsL G ≤ 320) (hR : ∃ p x u q n tl, Rel p x u q n tl μ μ) (K : ∀ μ' ν', (∃ p x u q n tl, Rel p x u q n tl μ' μ') → J G RL cL_law 4 false 26 Q 0 0 (181, κ, ρ, μ', ν') 820 [some (.float 0), some (.ref 0), some (.ref 165), some (.int (nI i))] []) : J G RL cL_law 4 false 26 Q 0 0 (181, κ, ρ, μ, ν) 26 [some (.float 0), some (.ref 0), some (.ref 165), some (.int (nI i))] [] := by
  refine j_aload_nF dL_law_26 rfl ?_
  refine j_iload_n dL_law_27 rfl ?_
  refine j_sld (k := i) dL_law_28 rfl (by omega) (by omega) ?_
  refine j_bipush (v := 31) dL_law_29 (by decide) ?_
  refine j_iand dL_law_31 ?_
  obtain ⟨v, hv, ev⟩ := and31 (jsx G i)
  refine j_topi (w := nI v) ev ?_
  have hc : v = 0 ∨ v = 1 ∨ v = 2 ∨ v = 3 ∨ v = 4 ∨ v = 5 ∨ v = 6 ∨ v = 7 ∨ v = 8 ∨ v = 9 ∨ v = 10 ∨ v = 11 ∨ v = 12 ∨ v = 13 ∨ v = 14 ∨ v = 15 ∨ v = 16 ∨ v = 17 ∨ v = 18 ∨ v = 19 ∨ v = 20 ∨ v = 21 ∨ v = 22 ∨ v = 23 ∨ v = 24 ∨ v = 25 ∨ v = 26 ∨ v = 27 ∨ v = 28 ∨ v = 29 ∨ v = 30 ∨ v = 31 := by omega
  rcases hc with rfl | rfl | rfl | rfl | rfl | rfl | rfl | rfl | rfl | rfl | rfl | rfl | rfl | rfl | rfl | rfl | rfl | rfl | rfl | rfl | rfl | rfl | rfl | rfl | rfl | rfl | rfl | rfl | rfl | rfl | rfl | rfl
  · refine j_tableIn (off := 120) (tgt := 152) dL_law_32 (by decide) (by decide) (by decide) (by decide) ?_
    exact law_write hs hr hi hL hR K
  · refine j_tableIn (off := 143) (tgt := 175) dL_law_32 (by decide) (by decide) (by decide) (by decide) ?_
    exact law_wipe hs hr hi hL hR K
  · refine j_tableIn (off := 156) (tgt := 188) dL_law_32 (by decide) (by decide) (by decide) (by decide) ?_
    exact law_fault hs hr hi hL hR K
  · refine j_tableIn (off := 169) (tgt := 201) dL_law_32 (by decide) (by decide) (by decide) (by decide) ?_
    exact law_lay hs hr hi hL hR K
  · refine j_tableIn (off := 182) (tgt := 214) dL_law_32 (by decide) (by decide) (by decide) (by decide) ?_
    exact law_wall hs hr hi hL hR K
  · refine j_tableIn (off := 215) (tgt := 247) dL_law_32 (by decide) (by decide) (by decide) (by decide) ?_
    exact law_holds hs hr hi hL hR K
  · refine j_tableIn (off := 248) (tgt := 280) dL_law_32 (by decide) (by decide) (by decide) (by decide) ?_
    exact law_round hs hr hi hL hR K
  · refine j_tableIn (off := 271) (tgt := 303) dL_law_32 (by decide) (by decide) (by decide) (by decide) ?_
    exact law_blast hs hr hi hL hR K
  · refine j_tableIn (off := 304) (tgt := 336) dL_law_32 (by decide) (by decide) (by decide) (by decide) ?_
    exact law_pass hs hr hi hL hR K
  · refine j_tableIn (off := 327) (tgt := 359) dL_law_32 (by decide) (by decide) (by decide) (by decide) ?_
    exact law_prop hs hr hi hL hR K
  · refine j_tableIn (off := 370) (tgt := 402) dL_law_32 (by decide) (by decide) (by decide) (by decide) ?_
    exact law_use hs hr hi hL hR K
  · refine j_tableIn (off := 393) (tgt := 425) dL_law_32 (by decide) (by decide) (by decide) (by decide) ?_
    exact law_undo hs hr hi hL hR K
  · refine j_tableIn (off := 406) (tgt := 438) dL_law_32 (by decide) (by decide) (by decide) (by decide) ?_
    exact law_calls hs hr hi hL hR K
  · refine j_tableIn (off := 429) (tgt := 461) dL_law_32 (by decide) (by decide) (by decide) (by decide) ?_
    exact law_rounds hs hr hi hL hR K
  · refine j_tableIn (off := 462) (tgt := 494) dL_law_32 (by decide) (by decide) (by decide) (by decide) ?_
    exact law_key hs hr hi hL hR K
  · refine j_tableIn (off := 485) (tgt := 517) dL_law_32 (by decide) (by decide) (by decide) (by decide) ?_
    exact law_order hs hr hi hL hR K
  · refine j_tableIn (off := 508) (tgt := 540) dL_law_32 (by decide) (by decide) (by decide) (by decide) ?_
    exact law_save hs hr hi hL hR K
  · refine j_tableIn (off := 541) (tgt := 573) dL_law_32 (by decide) (by decide) (by decide) (by decide) ?_
    exact law_built hs hr hi hL hR K
  · refine j_tableIn (off := 564) (tgt := 596) dL_law_32 (by decide) (by decide) (by decide) (by decide) ?_
    exact law_note hs hr hi hL hR K
  · refine j_tableIn (off := 607) (tgt := 639) dL_law_32 (by decide) (by decide) (by decide) (by decide) ?_
    exact law_forget hs hr hi hL hR K
  · refine j_tableIn (off := 620) (tgt := 652) dL_law_32 (by decide) (by decide) (by decide) (by decide) ?_
    exact law_thick hs hr hi hL hR K
  · refine j_tableIn (off := 643) (tgt := 675) dL_law_32 (by decide) (by decide) (by decide) (by decide) ?_
    exact law_fail hs hr hi hL hR K
  · refine j_tableIn (off := 696) (tgt := 728) dL_law_32 (by decide) (by decide) (by decide) (by decide) ?_
    exact law_year hs hr hi hL hR K
  · refine j_tableIn (off := 739) (tgt := 771) dL_law_32 (by decide) (by decide) (by decide) (by decide) ?_
    exact law_keep hs hr hi hL hR K
  · refine j_tableIn (off := 752) (tgt := 784) dL_law_32 (by decide) (by decide) (by decide) (by decide) ?_
    exact law_back hs hr hi hL hR K
  · refine j_tableIn (off := 765) (tgt := 797) dL_law_32 (by decide) (by decide) (by decide) (by decide) ?_
    exact law_count hs hr hi hL hR K
  · refine j_tableOut (tgt := 820) dL_law_32 (by decide) (by decide) ?_
    exact K μ ν hR
  · refine j_tableOut (tgt := 820) dL_law_32 (by decide) (by decide) ?_
    exact K μ ν hR
  · refine j_tableOut (tgt := 820) dL_law_32 (by decide) (by decide) ?_
    exact K μ ν hR
  · refine j_tableOut (tgt := 820) dL_law_32 (by decide) (by decide) ?_
    exact K μ ν hR
  · refine j_tableOut (tgt := 820) dL_law_32 (by decide) (by decide) ?_
    exact K μ ν hR
  · refine j_tableOut (tgt := 820) dL_law_32 (by decide) (by decide) ?_
    exact K μ ν hR
theorem law_loop {G : jG} {Q : Option Value → jH → Prop} {κ : Nat → jK} {ρ : Nat → Nat → Option Nat} (hs : shC 181 κ ρ) (hr : shR 181 κ ρ) (hL : jsL G ≤ 320) (hQ : ∀ h, Q (some (.int 1)) h) : ∀ (n i : Nat) (μ : jMem) (ν : jNu), jsL G ≤ i + n → i ≤ 400 → (∃ p x u q n tl, Rel p x u q n tl μ μ) → J G RL cL_law 4 false 26 Q 0 0 (181, κ, ρ, μ, ν) 18 [some (.float 0), some (.ref 0), some (.ref 165), some (.int (nI i))] [] := by
  intro n
  induction n with
  | zero =>
    intro i μ ν hn hi hR
    have e5 : (nI (jsL G) - 5).toInt = (jsL G : Int) - 5 := by
      rw [i_sub (by rw [nI_toInt (by omega), show (5 : Int32).toInt = 5 by decide]; omega) (by rw [nI_toInt (by omega), show (5 : Int32).toInt = 5 by decide]; omega), nI_toInt (by omega), show (5 : Int32).toInt = 5 by decide]
    refine j_iload_n dL_law_18 rfl ?_
    refine j_aload_nF dL_law_19 rfl ?_
    refine j_slen dL_law_20 ?_
    refine j_iconst (v := 5) dL_law_21 (by decide) ?_
    refine j_isub dL_law_22 ?_
    refine k_icmp_gt (tgt := 826) dL_law_23 (by decide) (fun _ _ => ?_) (fun c _ => ?_)
    · refine j_iconst (v := 1) dL_law_826 (by decide) ?_
      exact j_iret dL_law_827 (hQ _)
    · exact absurd (by rw [i_lt, e5, nI_toInt (by omega)]; omega) c
  | succ n ih =>
    intro i μ ν hn hi hR
    have e5 : (nI (jsL G) - 5).toInt = (jsL G : Int) - 5 := by
      rw [i_sub (by rw [nI_toInt (by omega), show (5 : Int32).toInt = 5 by decide]; omega) (by rw [nI_toInt (by omega), show (5 : Int32).toInt = 5 by decide]; omega), nI_toInt (by omega), show (5 : Int32).toInt = 5 by decide]
    refine j_iload_n dL_law_18 rfl ?_
    refine j_aload_nF dL_law_19 rfl ?_
    refine j_slen dL_law_20 ?_
    refine j_iconst (v := 5) dL_law_21 (by decide) ?_
    refine j_isub dL_law_22 ?_
    refine k_icmp_gt (tgt := 826) dL_law_23 (by decide) (fun _ _ => ?_) (fun c _ => ?_)
    · refine j_iconst (v := 1) dL_law_826 (by decide) ?_
      exact j_iret dL_law_827 (hQ _)
    · rw [i_lt, e5, nI_toInt (by omega)] at c
      refine law_body hs hr (by omega) hL hR (fun μ' ν' hR' => ?_)
      refine j_iinc_3 (v := nI (i + 5)) dL_law_820 (nI_add i 5) rfl ?_
      refine j_goto (tgt := 18) dL_law_823 (by decide) ?_
      exact ih (i + 5) μ' ν' (by omega) (by omega) hR'
theorem hI_shC : shC 181 (h7b (165, hS12.2.1, hS12.2.2.1, m0F, hS12.2.2.2.2)).2.1 (h7b (165, hS12.2.1, hS12.2.2.1, m0F, hS12.2.2.2.2)).2.2.1 := by
  obtain ⟨-, h2, h3⟩ := hS_sh
  obtain ⟨l1, l2, -⟩ := h7b_lo hS12.2.1 hS12.2.2.1 m0F hS12.2.2.2.2
  exact ⟨by omega, fun k hk => (l1 k hk).trans (h2 k hk), fun k j hk hj => (l2 k j hk).trans (h3 k j hk hj)⟩
set_option maxRecDepth 20000 in
theorem law_J {G : jG} {vf : Value} (hE : ∀ U, jE G U → strE G vf U) (hf : vf = .float 3 ∨ vf = .null) {Q : Option Value → jH → Prop} (hL : jsL G ≤ 320) (hQ : ∀ h, Q (some (.int 1)) h) : J G RL cL_law 4 false 26 Q (0 + 15 + 1 + 164 + 1) (0 + 1533 + 25 + 3639 + 10) (0, fun _ => .inl 0, fun _ _ => none, fun _ _ => 0, fun _ _ => 0) 0 [some (.float 0), none, none, none] [] := by
  refine j_new (ci := 6) (n := 10) dL_law_0 tw_17 jcf_6 ?_
  refine j_dup dL_law_3 rfl ?_
  refine j_heap (h2 := hS0) rfl ?_
  refine j_cI0v dL_law_4 (k_X6 hE hf) tw_19 my_X6_init mk_X6_init rfl (by omega) (Nat.le_of_ble_eq_true rfl) (Nat.le_of_ble_eq_true rfl) ?_
  refine j_astore_1 dL_law_7 rfl ?_
  refine j_new (ci := 7) (n := 25) dL_law_8 tw_603 jcf_7 ?_
  refine j_dup dL_law_11 rfl ?_
  refine j_heap (h2 := hO 7 (165, hS12.2.1, hS12.2.2.1, m0F, hS12.2.2.2.2)) rfl ?_
  refine j_cI0v dL_law_12 (k_X7 (N := 0)) tw_605 my_X7_init mk_X7_init rfl (by omega) (Nat.le_of_ble_eq_true rfl) (Nat.le_of_ble_eq_true rfl) ?_
  refine j_heap (h2 := (181, (h7b (165, hS12.2.1, hS12.2.2.1, m0F, hS12.2.2.2.2)).2.1, (h7b (165, hS12.2.1, hS12.2.2.1, m0F, hS12.2.2.2.2)).2.2.1, mI, (h7b (165, hS12.2.1, hS12.2.2.1, m0F, hS12.2.2.2.2)).2.2.2.2)) rfl ?_
  refine j_astore_2 dL_law_15 rfl ?_
  refine j_iconst (v := 0) dL_law_16 (by decide) ?_
  refine j_istore_3 dL_law_17 rfl ?_
  exact law_loop hI_shC (h7b_sh _ _ _ _) hL hQ (jsL G) 0 mI _ (by omega) (by omega) ⟨5, 0, 0, 0, 0, 0, Rel_0⟩
