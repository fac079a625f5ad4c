def rKt (m : jMem) (p i : Nat) : Int32 := rOnes (rDo m 52 p &&& (rDo m 0 p ^^^ (-1)) &&& (((1 : Int32) <<< (nI i &&& 31)) ^^^ (-1)))
def rKeyF (p : Nat) (i : Nat) (s : Int32 × Int32 × jMem) : Option (Int32 × Int32 × jMem) :=
  if rSt s.2.2 0 i = true then (rFl 52 p 6 true 0 (rCopy s.2.2 0 52) i).map (fun m => (if s.2.1 < rKt m p i then nI i else s.1, if s.2.1 < rKt m p i then rKt m p i else s.2.1, m)) else some s
def rKey (m : jMem) (w : Int32) (p : Nat) : Option (Int32 × jMem) :=
  if rIn w.toInt64 0 1 = true then (itO (rKeyF p) p 0 (-4, -4, m)).map (fun s => (if w = 0 then s.1 else s.2.1, s.2.2)) else some (-1, m)
theorem rKeyF_lo {p i x y : Nat} {s s' : Int32 × Int32 × jMem} (h : x ≠ 166) (h6 : x ≠ 176) (h7 : x ≠ 177) (e : rKeyF p i s = some s') : s'.2.2 x y = s.2.2 x y := by
  unfold rKeyF at e
  split at e
  · obtain ⟨a, ha, rfl⟩ := Option.map_eq_some_iff.mp e
    exact (rFl_lo h _ _ _ _ _ _ (Or.inl ⟨h6, h7⟩) ha).trans (rCopy_lo _ _ _ h)
  · cases e; rfl
set_option maxRecDepth 20000 in
theorem lr_key {G : jG} {N : Nat} {κ : Nat → jK} {ρ : Nat → Nat → Option Nat} {ν : Nat → Nat → Int64} {Q : Option Value → jH → Prop} {d : Nat} (hd1 : 3 ≤ d) {p : Nat} {w : Int32} (hr : shR N κ ρ) (hp5 : p ≤ 5) {s0 s1 : Int32 × Int32 × jMem} (hp : s0.2.2 165 3 = nI p) {x5 : Option Value} (zhb : itO (rKeyF p) p 0 s0 = some s1) (K : ∀ x5, J G RX7 cX7_key 6 false d Q 0 0 (N, κ, ρ, s1.2.2, ν) 111 [some (.ref 165), some (.int w), some (.int s1.1), some (.int s1.2.1), some (.int (nI p)), x5] []) : J G RX7 cX7_key 6 false d Q 0 0 (N, κ, ρ, s0.2.2, ν) 21 [some (.ref 165), some (.int w), some (.int s0.1), some (.int s0.2.1), some (.int (nI 0)), x5] [] := by
  refine itO_loop (f := rKeyF p) (p := p) (fun i s => ∀ x5, J G RX7 cX7_key 6 false d Q 0 0 (N, κ, ρ, s.2.2, ν) 21 [some (.ref 165), some (.int w), some (.int s.1), some (.int s.2.1), some (.int (nI i)), x5] []) (fun s => ∀ x5, J G RX7 cX7_key 6 false d Q 0 0 (N, κ, ρ, s.2.2, ν) 111 [some (.ref 165), some (.int w), some (.int s.1), some (.int s.2.1), some (.int (nI p)), x5] []) (fun _ s => s.2.2 165 3 = nI p) ?_ ?_ (fun i s s' _ h e => (rKeyF_lo (by decide) (by decide) (by decide) e).trans h) p 0 s0 s1 (by omega) hp zhb K x5
  · intro s hp K x5
    refine j_iload dX7_key_21 rfl ?_
    refine j_aload_n dX7_key_23 rfl ?_
    refine j_geti dX7_key_24 fl_X7_69 rfl (o_165 hr) ?_
    refine k_icmp_ge (tgt := 111) dX7_key_27 (by decide) (fun c27 c27' => ?_) (fun c27 c27' => ?_)
    · skip
      exact K x5
    · skip
      exact absurd (by rw [hp]; exact Int32.le_refl _) c27
  · intro i s s' hi hp e K x5
    unfold rKeyF at e
    refine j_iload dX7_key_21 rfl ?_
    refine j_aload_n dX7_key_23 rfl ?_
    refine j_geti dX7_key_24 fl_X7_69 rfl (o_165 hr) ?_
    refine k_icmp_ge (tgt := 111) dX7_key_27 (by decide) (fun c27 c27' => ?_) (fun c27 c27' => ?_)
    · skip
      exact absurd c27 (by rw [hp]; exact nI_ge (by omega) (by omega))
    · skip
      refine j_aload_n dX7_key_30 rfl ?_
      refine j_iconst (v := 0) dX7_key_31 (by decide) ?_
      refine j_iload dX7_key_32 rfl ?_
      refine j_cV2r dX7_key_34 (r_stands (r := 0) (k := i) hr (by omega) (by omega)) ml_X7_138 my_X7_stands mi_X7_stands (o_165 hr) rfl (by omega) (Nat.le_of_ble_eq_true rfl) (Nat.le_of_ble_eq_true rfl) ?_
      refine j_if_eqB (tgt := 105) dX7_key_37 (by decide) (fun c37 => ?_) (fun c37 => ?_)
      · skip
        rw [if_neg (by rw [c37]; decide)] at e
        cases e
        refine j_iinc_4 (v := nI (i + 1)) dX7_key_105 (nI_add _ _) rfl ?_
        refine j_goto (tgt := 21) dX7_key_108 (by decide) ?_
        exact K x5
      · skip
        rw [if_pos c37] at e
        obtain ⟨za, zq, ze⟩ := Option.map_eq_some_iff.mp e
        cases ze
        have hpa : za 165 3 = nI p := (rFl_lo (by decide) _ _ _ _ _ _ (Or.inl ⟨by decide, by decide⟩) zq).trans ((rCopy_lo _ _ _ (by decide)).trans hp)
        refine j_aload_n dX7_key_40 rfl ?_
        refine j_cV0v dX7_key_41 (r_tries hr) ml_X7_183 my_X7_tries mi_X7_tries (o_165 hr) rfl (by omega) (Nat.le_of_ble_eq_true rfl) (Nat.le_of_ble_eq_true rfl) ?_
        refine j_aload_n dX7_key_44 rfl ?_
        refine j_bipush (v := 52) dX7_key_45 (by decide) ?_
        refine j_iload dX7_key_47 rfl ?_
        refine j_iconst (v := 1) dX7_key_49 (by decide) ?_
        refine j_cV3v dX7_key_50 (r_falls (r := 52) (k := i) (b := true) hr (by omega) ((rCopy_lo _ _ _ (by decide)).trans hp) hp5 (by omega) zq) ml_X7_149 my_X7_falls mi_X7_falls (o_165 hr) rfl (by omega) (Nat.le_of_ble_eq_true rfl) (Nat.le_of_ble_eq_true rfl) ?_
        refine j_aload_n dX7_key_53 rfl ?_
        refine j_bipush (v := 52) dX7_key_54 (by decide) ?_
        refine j_cV1r dX7_key_56 (r_do (r := 52) hr (by omega) hpa hp5) ml_X7_186 my_X7_downOnes mi_X7_downOnes (o_165 hr) rfl (by omega) (Nat.le_of_ble_eq_true rfl) (Nat.le_of_ble_eq_true rfl) ?_
        refine j_aload_n dX7_key_59 rfl ?_
        refine j_iconst (v := 0) dX7_key_60 (by decide) ?_
        refine j_cV1r dX7_key_61 (r_do (r := 0) hr (by omega) hpa hp5) ml_X7_186 my_X7_downOnes mi_X7_downOnes (o_165 hr) rfl (by omega) (Nat.le_of_ble_eq_true rfl) (Nat.le_of_ble_eq_true rfl) ?_
        refine j_iconst (v := (-1)) dX7_key_64 (by decide) ?_
        refine j_ixor dX7_key_65 ?_
        refine j_iand dX7_key_66 ?_
        refine j_iconst (v := 1) dX7_key_67 (by decide) ?_
        refine j_iload dX7_key_68 rfl ?_
        refine j_ishl dX7_key_70 ?_
        refine j_iconst (v := (-1)) dX7_key_71 (by decide) ?_
        refine j_ixor dX7_key_72 ?_
        refine j_iand dX7_key_73 ?_
        refine j_cS1r dX7_key_74 r_ones ml_X7_189 my_X7_ones ms_X7_ones (by omega) (Nat.le_of_ble_eq_true rfl) (Nat.le_of_ble_eq_true rfl) ?_
        refine j_istore_5 dX7_key_77 rfl ?_
        refine j_iload dX7_key_79 rfl ?_
        refine j_iload_n dX7_key_81 rfl ?_
        refine k_icmp_le (tgt := 90) dX7_key_82 (by decide) (fun c82 c82' => ?_) (fun c82 c82' => ?_)
        · skip
          refine j_iload_n dX7_key_90 rfl ?_
          refine j_istore_2 dX7_key_91 rfl ?_
          refine j_iload dX7_key_92 rfl ?_
          refine j_iload_n dX7_key_94 rfl ?_
          refine k_icmp_le (tgt := 103) dX7_key_95 (by decide) (fun c95 c95' => ?_) (fun c95 c95' => ?_)
          · skip
            refine j_iload_n dX7_key_103 rfl ?_
            refine j_istore_3 dX7_key_104 rfl ?_
            refine j_iinc_4 (v := nI (i + 1)) dX7_key_105 (nI_add _ _) rfl ?_
            refine j_goto (tgt := 21) dX7_key_108 (by decide) ?_
            first | exact absurd c95 c82 | exact absurd c82 c95 | simpa only [c82, c82', c95, c95', rKt, reduceIte] using K _
          · skip
            refine j_iload dX7_key_98 rfl ?_
            refine j_goto (tgt := 104) dX7_key_100 (by decide) ?_
            refine j_istore_3 dX7_key_104 rfl ?_
            refine j_iinc_4 (v := nI (i + 1)) dX7_key_105 (nI_add _ _) rfl ?_
            refine j_goto (tgt := 21) dX7_key_108 (by decide) ?_
            first | exact absurd c95 c82 | exact absurd c82 c95 | simpa only [c82, c82', c95, c95', rKt, reduceIte] using K _
        · skip
          refine j_iload dX7_key_85 rfl ?_
          refine j_goto (tgt := 91) dX7_key_87 (by decide) ?_
          refine j_istore_2 dX7_key_91 rfl ?_
          refine j_iload dX7_key_92 rfl ?_
          refine j_iload_n dX7_key_94 rfl ?_
          refine k_icmp_le (tgt := 103) dX7_key_95 (by decide) (fun c95 c95' => ?_) (fun c95 c95' => ?_)
          · skip
            refine j_iload_n dX7_key_103 rfl ?_
            refine j_istore_3 dX7_key_104 rfl ?_
            refine j_iinc_4 (v := nI (i + 1)) dX7_key_105 (nI_add _ _) rfl ?_
            refine j_goto (tgt := 21) dX7_key_108 (by decide) ?_
            first | exact absurd c95 c82 | exact absurd c82 c95 | simpa only [c82, c82', c95, c95', rKt, reduceIte] using K _
          · skip
            refine j_iload dX7_key_98 rfl ?_
            refine j_goto (tgt := 104) dX7_key_100 (by decide) ?_
            refine j_istore_3 dX7_key_104 rfl ?_
            refine j_iinc_4 (v := nI (i + 1)) dX7_key_105 (nI_add _ _) rfl ?_
            refine j_goto (tgt := 21) dX7_key_108 (by decide) ?_
            first | exact absurd c95 c82 | exact absurd c82 c95 | simpa only [c82, c82', c95, c95', rKt, reduceIte] using K _

set_option maxRecDepth 20000 in
theorem r_key {G : jG} {N : Nat} {κ : Nat → jK} {ρ : Nat → Nat → Option Nat} {μ : Nat → Nat → Int32} {ν : Nat → Nat → Int64} (hr : shR N κ ρ) {p : Nat} (hp : μ 165 3 = nI p) (hp5 : p ≤ 5) {w : Int32} {zv : Int32} {zm : jMem} (zhb : rKey μ w p = some (zv, zm)) : MT G yX7_key cX7_key 6 (some .int) 4 0 0 [.ref 165, .int w] (N, κ, ρ, μ, ν) (some (.int zv)) (N, κ, ρ, zm, ν) := by
  refine jMT (ini := false) my_X7_key (fun h => by cases h) (jRv_i _) (Nat.le_of_ble_eq_true rfl) ?_
  show J G RX7 cX7_key 6 false 4 _ 0 0 (N, κ, ρ, μ, ν) 0 [some (.ref 165), some (.int w), none, none, none, none] []
  generalize hQe : (fun (v' : Option Value) (h'' : jH) => v' = (some (.int zv)) ∧ h'' = (N, κ, ρ, zm, ν)) = Q
  have hQ : Q (some (.int zv)) (N, κ, ρ, zm, ν) := by rw [← hQe]; exact ⟨rfl, rfl⟩
  clear hQe
  refine j_iload_n dX7_key_0 rfl ?_
  refine j_i2l dX7_key_1 ?_
  refine j_lconst (v := 0) dX7_key_2 (by decide) ?_
  refine j_lconst (v := 1) dX7_key_3 (by decide) ?_
  refine j_cS3r dX7_key_4 r_in ml_X7_72 my_X7_in ms_X7_in (by omega) (Nat.le_of_ble_eq_true rfl) (Nat.le_of_ble_eq_true rfl) ?_
  refine j_if_neB (tgt := 12) dX7_key_7 (by decide) (fun c7 => ?_) (fun c7 => ?_)
  · skip
    rw [rKey, if_pos c7] at zhb
    obtain ⟨zs, zq, ze⟩ := Option.map_eq_some_iff.mp zhb
    cases ze
    refine j_bipush (v := (-4)) dX7_key_12 (by decide) ?_
    refine j_istore_2 dX7_key_14 rfl ?_
    refine j_bipush (v := (-4)) dX7_key_15 (by decide) ?_
    refine j_istore_3 dX7_key_17 rfl ?_
    refine j_iconst (v := 0) dX7_key_18 (by decide) ?_
    refine j_istore_4 dX7_key_19 rfl ?_
    refine lr_key (s0 := (-4, -4, μ)) (by omega) hr hp5 hp zq (fun x5 => ?_)
    refine j_iload_n dX7_key_111 rfl ?_
    refine j_if_ne (tgt := 119) dX7_key_112 (by decide) (fun c112 => ?_) (fun c112 => ?_)
    · skip
      refine j_iload_n dX7_key_119 rfl ?_
      exact j_iret dX7_key_120 (by simpa only [c112, reduceIte] using hQ)
    · skip
      refine j_iload_n dX7_key_115 rfl ?_
      refine j_goto (tgt := 120) dX7_key_116 (by decide) ?_
      exact j_iret dX7_key_120 (by simpa only [eq_true c112, reduceIte] using hQ)
  · skip
    rw [rKey, if_neg (by rw [c7]; decide)] at zhb
    cases zhb
    refine j_iconst (v := (-1)) dX7_key_10 (by decide) ?_
    exact j_iret dX7_key_11 hQ

