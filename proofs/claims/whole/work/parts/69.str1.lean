/-! THE TEXT CONSTANT: what is known of it, and the JDK's own methods on it -/
def txB : List Int32 := [119, 48, 44, 49, 50, 44, 49, 59, 119, 49, 44, 50, 48, 44, 48, 59, 119, 50, 44, 56, 44, 51, 59, 119, 51, 44, 49, 53, 44, 50, 59, 119, 48, 44, 51, 48, 44, 52, 59, 104, 48, 44, 49, 44, 57, 59, 104, 49, 44, 52, 44, 49, 50, 59, 104, 52, 44, 50, 44, 53, 59, 104, 51, 44, 52, 44, 49, 48, 59, 104, 50, 44, 48, 44, 54, 59, 115, 52, 59]
def txC (k : Nat) : Int32 := txB.getD k 0
def txS : String := "w0,12,1;w1,20,0;w2,8,3;w3,15,2;w0,30,4;h0,1,9;h1,4,12;h4,2,5;h3,4,10;h2,0,6;s4;"
def jAb (G : jG) : Nat → Prop := fun q => jB G ≤ q
/-- the constant's cell is .float 1, its bytes' .float 2, the formatter that is handed on is vf -/
def strE (G : jG) (vf : Value) (U : State) : Prop := vk_R RX6 67 txS (jaS G 1) U ∧ va_O "java/lang/String" (jaS G 1) (jAb G) U G.1 ∧ va_OF "java/lang/String" "coder" "B" (.int 0) (jaS G 1) (jAb G) U G.1 ∧ va_OF "java/lang/String" "value" "[B" (.ref (jaS G 2)) (jaS G 1) (jAb G) U G.1 ∧
  va_T .byte (jaS G 2) 79 (fun j => .int (txC j)) (jAb G) U G.1 ∧ va_Z "java/lang/String" "COMPACT_STRINGS" "Z" (.int 1) (jAb G) U G.1 ∧ va_Z "jdk/internal/util/Preconditions" "SIOOBE_FORMATTER" "Ljava/util/function/BiFunction;" (jtr G vf) (jAb G) U G.1
theorem strE.warm {G : jG} {vf : Value} {s U : State} (hW : s.WarmedH U.vm) (h : strE G vf s) : strE G vf U :=
  ⟨vk_R.warm hW h.1, va_O.moved hW.alike h.2.1, va_OF.moved hW.alike h.2.2.1, va_OF.moved hW.alike h.2.2.2.1, va_T.moved hW.alike h.2.2.2.2.1, va_Z.moved hW.alike h.2.2.2.2.2.1, va_Z.moved hW.alike h.2.2.2.2.2.2⟩
theorem jtr_f1 (G : jG) : jtr G (.float 1) = .ref (jaS G 1) := by show Value.ref _ = _; rw [if_neg (by decide)]
theorem jtr_f2 (G : jG) : jtr G (.float 2) = .ref (jaS G 2) := by show Value.ref _ = _; rw [if_neg (by decide)]
theorem jWD.low {G : jG} {U : State} {h : jH} {H : Heap} (w : jWD G U h H) : ∀ a : Nat, a < G.1.size → ¬ jAb G a → H[a]? = G.1[a]? := fun a ha _ => w.2.1 a ha
section STR
variable {G : jG} {own : String} {cc : ByteArray} {nL : Nat} {ini : Bool} {d : Nat} {Q : Option Value → jH → Prop} {ac sc : Nat} {pc : Nat} {lo : List (Option Value)} {st : List Value} {h h' : jH} {v : Option Value} {vf : Value}
variable {y : MethodName} {cc' : ByteArray} {nL' d' mc ms idx n : Nat} {ret' : Option FieldType}
theorem j_ldcS (hE : ∀ U, jE G U → strE G vf U) (hd : decode cc pc = .ok (.ldc 67, 2)) (ho : own = RX6) (k : J G own cc nL ini d Q ac sc h (pc + 2) lo (.float 1 :: st)) : J G own cc nL ini d Q ac sc h pc lo st := by
  intro p l e R s m args below meth c Z hM hK H locs cells slots ls hW hL hc hs hl
  have hz := (hE s hM.2.2.2.2.2.1.2.2.2.2.2.2).1
  have := k p l e R s m args below meth c Z hM hK H locs cells slots ls hW hL hc hs hl
  rw [List.map_cons, jtr_f1] at this
  exact va_ldcS hM.1 hM.2.1 (own := RX6) (by rw [← ho]; exact hM.2.2.2.1) hz hd this
theorem j_fldS {nm dd : String} {w : Value} (hd : decode cc pc = .ok (.getfield idx, 3)) (hl : Cond.fieldLink own idx "java/lang/String" nm dd ∈ jTs) (hv : ∀ U, jE G U → va_OF "java/lang/String" nm dd (jtr G w) (jaS G 1) (jAb G) U G.1) (k : J G own cc nL ini d Q ac sc h (pc + 3) lo (w :: st)) : J G own cc nL ini d Q ac sc h pc lo (.float 1 :: st) := by
  intro p l e R s m args below meth c Z hM hK H locs cells slots ls hW hL hc hs hl'
  obtain ⟨cf, kf, fi, f, cell, h1, h2, h3, h4, h5, h6⟩ := (hv s hM.2.2.2.2.2.1.2.2.2.2.2.2).kept hW.low
  have := k p l e R s m args below meth c Z hM hK H locs cells slots ls hW hL hc hs hl'
  rw [List.map_cons] at this
  rw [List.map_cons, jtr_f1]
  exact W.getf hM.1 hM.2.1 hM.2.2.2.1 (hM.2.2.2.2.1 _ hl) h1 h2 h3 h4 (v := jtr G w) h5 rfl rfl hd this
theorem j_staS {C nm dd : String} {w : Value} (hd : decode cc pc = .ok (.getstatic idx, 3)) (hl : Cond.fieldLink own idx C nm dd ∈ jTs) (hv : ∀ U, jE G U → va_Z C nm dd (jtr G w) (jAb G) U G.1) (k : J G own cc nL ini d Q ac sc h (pc + 3) lo (w :: st)) : J G own cc nL ini d Q ac sc h pc lo st := by
  intro p l e R s m args below meth c Z hM hK H locs cells slots ls hW hL hc hs hl'
  obtain ⟨cf, kf, fi, f, a, cell, h1, h2, h3, h4, h5, h6, h7, h8⟩ := (hv s hM.2.2.2.2.2.1.2.2.2.2.2.2).kept hW.low
  have := k p l e R s m args below meth c Z hM hK H locs cells slots ls hW hL hc hs hl'
  rw [List.map_cons] at this
  exact W.gets hM.1 hM.2.1 hM.2.2.2.1 (hM.2.2.2.2.1 _ hl) h1 h2 h3 h4 h5 (fun e => by rw [e] at h6; cases h6) h7 rfl hd this
theorem j_lenS (hE : ∀ U, jE G U → strE G vf U) (hd : decode cc pc = .ok (.arraylength, 1)) (k : J G own cc nL ini d Q ac sc h (pc + 1) lo (.int (nI 79) :: st)) : J G own cc nL ini d Q ac sc h pc lo (.float 2 :: st) := by
  intro p l e R s m args below meth c Z hM hK H locs cells slots ls hW hL hc hs hl
  obtain ⟨cell, h1, h2, h3, h4, h5, h6, h7⟩ := (hE s hM.2.2.2.2.2.1.2.2.2.2.2.2).2.2.2.2.1.kept hW.low
  have := k p l e R s m args below meth c Z hM hK H locs cells slots ls hW hL hc hs hl
  rw [List.map_cons] at this
  rw [List.map_cons, jtr_f2]
  exact W.alen (n := Int32.ofNat 79) hM.1 hM.2.1 h1 h2 h5 rfl rfl hd this
theorem j_balS {k : Nat} (hE : ∀ U, jE G U → strE G vf U) (hd : decode cc pc = .ok (.baload, 1)) (hk : k < 79) (kk : J G own cc nL ini d Q ac sc h (pc + 1) lo (.int (txC k) :: st)) : J G own cc nL ini d Q ac sc h pc lo (.int (nI k) :: .float 2 :: st) := by
  intro p l e R s m args below meth c Z hM hK H locs cells slots ls hW hL hc hs hl
  obtain ⟨cell, h1, h2, h3, h4, h5, h6, h7⟩ := (hE s hM.2.2.2.2.2.1.2.2.2.2.2.2).2.2.2.2.1.kept hW.low
  have := kk p l e R s m args below meth c Z hM hK H locs cells slots ls hW hL hc hs hl
  rw [List.map_cons] at this
  rw [List.map_cons, List.map_cons, jtr_f2]
  have ek : (nI k).toNatClampNeg = k := nI_clamp (by omega)
  refine W.bald (v := .int (txC k)) hM.1 hM.2.1 h1 h2 h3 ?_ (by rw [ek, h6 k hk]) rfl rfl hd this
  rintro (q | q)
  · exact nI_pos (by omega) q
  · rw [ek] at q; omega
theorem jg_callVS {As : List Value} {stk : List Value} (hE : ∀ U, jE G U → strE G vf U) (hd : decode cc pc = .ok (.invokevirtual idx, 3)) (hM' : MT G y cc' nL' ret' d' mc ms (.float 1 :: As) h v h') (hl : Cond.methodLink own idx y ∈ jTs) (hy : jMY y cc' nL' ret' n) (hi : Cond.instanceMethod y ∈ jTs ∧ Cond.selects y.cls y y ∈ jTs) (hc0 : y.cls = "java/lang/String") (hn : As.length = n) (hdd : d' + 1 ≤ d) (hm : nL' ≤ 45) (hst : (st.map fun v => v.category).sum ≤ 8) (hstk : stk = As.reverse ++ .float 1 :: st)
    (k : J G own cc nL ini d Q ac sc h' (pc + 3) lo (v.toList ++ st)) : J G own cc nL ini d Q (ac + mc) (sc + ms) h pc lo stk := by
  subst hstk
  intro p l e R s m args below meth c Z hM hK H locs cells slots ls hW hL hc hs hls
  have hM0 := hM
  obtain ⟨hx, hb, hml, hown, hts, hS, -⟩ := hM0
  obtain ⟨cell, q1, q2, q3, -⟩ := (hE s hS.2.2.2.2.2.2).2.1.kept hW.low
  have hrecv : ∃ cell : Cell, H[jaS G 1]? = some cell ∧ cell.vm.isStatics = false ∧ s.vm.findClass y.cls = some cell.cls := ⟨cell, q1, q2, by rw [hc0]; exact q3⟩
  have hG : GoodIn jTs (wsV own idx y.cls y (Cond.code y cc' nL' ret' :: jTs)) := by
    intro w hw
    rcases List.mem_append.mp hw with z | z
    · simp only [List.mem_cons, List.not_mem_nil, or_false] at z
      rcases z with rfl | rfl | rfl | rfl
      · exact jTs_good _ hl
      · exact jTs_good _ hi.1
      · exact jTs_good _ hi.2
      · exact jTs_good _ hy.2.1
    · exact jgood hy w z
  have hpre := jpreS hM hW (.float 1 :: As)
  rw [List.map_cons, jtr_f1] at hpre
  have hMl := hM' l
  have hrun := va_runV (l := l) (e := e) (below := below) (meth := meth) (locs := locs) (cells := cells) (slots := slots) (As := As.map (jtr G)) (rest := st.map (jtr G)) (b := jaS G 1) (C := y.cls) (g := F0 m pc ls ((As.reverse ++ .float 1 :: st).map (jtr G))) ⟨hx, hb, hml, hown, hts⟩ hMl (cwV n hts hG rfl rfl rfl ⟨rfl, hy.2.2.1⟩ (jroom hM hdd hm)) ⟨jPc_blind G _ h, hrecv, hpre.2⟩ rfl (by rw [List.length_map]; exact hn) hls.2.1 (by simp [jtr_f1]) (lv_room (by rw [jcat]; exact hst)) hd ⟨by omega, by omega⟩
  refine jW_run hrun hL (fun H1 locs1 hW1 hL1 => ?_)
  have := k p l e R s m args below meth c Z hM hK H1 locs1 (cells + mc) (slots + ms) ls hW1 hL1 (by omega) (by omega) hls
  rw [List.map_append] at this
  cases v <;> exact this
theorem j_cVS0r {x : Value} (hE : ∀ U, jE G U → strE G vf U) (hd : decode cc pc = .ok (.invokevirtual idx, 3)) (hM' : MT G y cc' nL' ret' d' mc ms [.float 1] h (some x) h') (hl : Cond.methodLink own idx y ∈ jTs) (hy : jMY y cc' nL' ret' 0) (hi : Cond.instanceMethod y ∈ jTs ∧ Cond.selects y.cls y y ∈ jTs) (hc0 : y.cls = "java/lang/String") (hdd : d' + 1 ≤ d) (hm : nL' ≤ 45) (hst : (st.map fun v => v.category).sum ≤ 8) (k : J G own cc nL ini d Q ac sc h' (pc + 3) lo (x :: st)) : J G own cc nL ini d Q (ac + mc) (sc + ms) h pc lo (.float 1 :: st) := jg_callVS (As := []) hE hd hM' hl hy hi hc0 rfl hdd hm hst rfl k
theorem j_cVS1r {x x1 : Value} (hE : ∀ U, jE G U → strE G vf U) (hd : decode cc pc = .ok (.invokevirtual idx, 3)) (hM' : MT G y cc' nL' ret' d' mc ms [.float 1, x1] h (some x) h') (hl : Cond.methodLink own idx y ∈ jTs) (hy : jMY y cc' nL' ret' 1) (hi : Cond.instanceMethod y ∈ jTs ∧ Cond.selects y.cls y y ∈ jTs) (hc0 : y.cls = "java/lang/String") (hdd : d' + 1 ≤ d) (hm : nL' ≤ 45) (hst : (st.map fun v => v.category).sum ≤ 8) (k : J G own cc nL ini d Q ac sc h' (pc + 3) lo (x :: st)) : J G own cc nL ini d Q (ac + mc) (sc + ms) h pc lo (x1 :: .float 1 :: st) := jg_callVS (As := [x1]) hE hd hM' hl hy hi hc0 rfl hdd hm hst rfl k
end STR
section STM
variable {G : jG} {vf : Value} {h : jH}
theorem t_coder (hE : ∀ U, jE G U → strE G vf U) : MT G yJ0_coder_7d493 cJ0_coder_7d493 1 (some .byte) 0 0 0 [.float 1] h (some (.int 0)) h := by
  refine jMT (ini := false) my_J0_coder_7d493 (fun h => by cases h) (Or.inr (Or.inr ⟨.byte, 0, rfl, rfl, by decide⟩)) (Nat.le_of_ble_eq_true rfl) ?_
  show J G RJ0 cJ0_coder_7d493 1 false 0 _ 0 0 h 0 [some (.float 1)] []
  refine j_staS (w := .int 1) dJ0_coder_7d493_0 tw_205 (fun U hU => (hE U hU).2.2.2.2.2.1) ?_
  refine j_if_eq (tgt := 13) dJ0_coder_7d493_3 (by decide) (fun c => absurd c (by decide)) (fun _ => ?_)
  refine j_aload_nF dJ0_coder_7d493_6 rfl ?_
  refine j_fldS (w := .int 0) dJ0_coder_7d493_7 tw_925 (fun U hU => (hE U hU).2.2.1) ?_
  refine j_goto (tgt := 14) dJ0_coder_7d493_10 (by decide) ?_
  exact j_iret dJ0_coder_7d493_14 ⟨rfl, rfl⟩
theorem t_isL (hE : ∀ U, jE G U → strE G vf U) : MT G yJ0_isLatin1_aae02 cJ0_isLatin1_aae02 1 (some .boolean) 0 0 0 [.float 1] h (some (.int 1)) h := by
  refine jMT (ini := false) my_J0_isLatin1_aae02 (fun h => by cases h) (jRv_z (Or.inr rfl)) (Nat.le_of_ble_eq_true rfl) ?_
  show J G RJ0 cJ0_isLatin1_aae02 1 false 0 _ 0 0 h 0 [some (.float 1)] []
  refine j_staS (w := .int 1) dJ0_isLatin1_aae02_0 tw_205 (fun U hU => (hE U hU).2.2.2.2.2.1) ?_
  refine j_if_eq (tgt := 17) dJ0_isLatin1_aae02_3 (by decide) (fun c => absurd c (by decide)) (fun _ => ?_)
  refine j_aload_nF dJ0_isLatin1_aae02_6 rfl ?_
  refine j_fldS (w := .int 0) dJ0_isLatin1_aae02_7 tw_925 (fun U hU => (hE U hU).2.2.1) ?_
  refine j_if_ne (tgt := 17) dJ0_isLatin1_aae02_10 (by decide) (fun c => absurd rfl c) (fun _ => ?_)
  refine j_iconst (v := 1) dJ0_isLatin1_aae02_13 (by decide) ?_
  refine j_goto (tgt := 18) dJ0_isLatin1_aae02_14 (by decide) ?_
  exact j_iret dJ0_isLatin1_aae02_18 ⟨rfl, rfl⟩
theorem t_slen (hE : ∀ U, jE G U → strE G vf U) : MT G yJ0_length_8abf5 cJ0_length_8abf5 1 (some .int) 1 0 0 [.float 1] h (some (.int (nI 79))) h := by
  refine jMT (ini := false) my_J0_length_8abf5 (fun h => by cases h) (jRv_i _) (Nat.le_of_ble_eq_true rfl) ?_
  show J G RJ0 cJ0_length_8abf5 1 false 1 _ 0 0 h 0 [some (.float 1)] []
  refine j_aload_nF dJ0_length_8abf5_0 rfl ?_
  refine j_fldS (w := .float 2) dJ0_length_8abf5_1 tw_924 (fun U hU => by rw [jtr_f2]; exact (hE U hU).2.2.2.1) ?_
  refine j_lenS hE dJ0_length_8abf5_4 ?_
  refine j_aload_nF dJ0_length_8abf5_5 rfl ?_
  refine j_cVS0r (ac := 0) (sc := 0) hE dJ0_length_8abf5_6 (t_coder hE) tw_201 my_J0_coder_7d493 mi_J0_coder_7d493 rfl (by omega) (Nat.le_of_ble_eq_true rfl) (Nat.le_of_ble_eq_true rfl) ?_
  refine j_ishr dJ0_length_8abf5_9 ?_
  refine j_topi (w := nI 79) (by decide) ?_
  exact j_iret dJ0_length_8abf5_10 ⟨rfl, rfl⟩
theorem t_pcheck {k : Nat} (hk : k < 79) (hf : vf = .float 3 ∨ vf = .null) : MT G yJ3_checkIndex_8e157 cJ3_checkIndex_8e157 3 (some .int) 0 0 0 [.int (nI k), .int (nI 79), vf] h (some (.int (nI k))) h := by
  refine jMT (ini := false) my_J3_checkIndex_8e157 (fun h => by cases h) (jRv_i _) (by rcases hf with rfl | rfl <;> exact Nat.le_of_ble_eq_true rfl) ?_
  have e : jargs [.int (nI k), .int (nI 79), vf] ++ List.replicate (3 - (jargs [.int (nI k), .int (nI 79), vf]).length) none = [some (.int (nI k)), some (.int (nI 79)), some vf] := by rcases hf with rfl | rfl <;> rfl
  rw [e]
  show J G RJ3 cJ3_checkIndex_8e157 3 false 0 _ 0 0 h 0 [some (.int (nI k)), some (.int (nI 79)), some vf] []
  refine j_iload_n dJ3_checkIndex_8e157_0 rfl ?_
  refine k_if_lt (tgt := 9) dJ3_checkIndex_8e157_1 (by decide) (fun c _ => absurd c (nI_pos (by omega))) (fun _ _ => ?_)
  refine j_iload_n dJ3_checkIndex_8e157_4 rfl ?_
  refine j_iload_n dJ3_checkIndex_8e157_5 rfl ?_
  refine k_icmp_lt (tgt := 16) dJ3_checkIndex_8e157_6 (by decide) (fun _ _ => ?_) (fun c _ => absurd (nI_lt hk (by omega)) c)
  refine j_iload_n dJ3_checkIndex_8e157_16 rfl ?_
  exact j_iret dJ3_checkIndex_8e157_17 ⟨rfl, rfl⟩
theorem t_scheck (hE : ∀ U, jE G U → strE G vf U) {k : Nat} (hk : k < 79) (hf : vf = .float 3 ∨ vf = .null) : MT G yJ0_checkIndex_df160 cJ0_checkIndex_df160 2 none 1 0 0 [.int (nI k), .int (nI 79)] h none h := by
  refine jMT (ini := false) my_J0_checkIndex_df160 (fun h => by cases h) jRv_v (Nat.le_of_ble_eq_true rfl) ?_
  show J G RJ0 cJ0_checkIndex_df160 2 false 1 _ 0 0 h 0 [some (.int (nI k)), some (.int (nI 79))] []
  refine j_iload_n dJ0_checkIndex_df160_0 rfl ?_
  refine j_iload_n dJ0_checkIndex_df160_1 rfl ?_
  refine j_staS (w := vf) dJ0_checkIndex_df160_2 tw_221 (fun U hU => (hE U hU).2.2.2.2.2.2) ?_
  refine j_cS3r (ac := 0) (sc := 0) dJ0_checkIndex_df160_5 (t_pcheck hk hf) tw_223 my_J3_checkIndex_8e157 tw_224 (by omega) (Nat.le_of_ble_eq_true rfl) (Nat.le_of_ble_eq_true rfl) ?_
  refine j_pop dJ0_checkIndex_df160_8 rfl ?_
  exact j_vret dJ0_checkIndex_df160_9 ⟨rfl, rfl⟩
theorem tx_all : ∀ k : Nat, k < 79 → ((txC k &&& 255).toUInt32 % 65536).toInt32 = txC k ∧ (txC k).toUInt32.toUInt16.toUInt32.toInt32 = txC k := by decide +kernel
theorem tx_nar {k : Nat} (hk : k < 79) : narrow .char (.int (txC k)) = .int (txC k) := by
  show Value.int _ = _
  rw [(tx_all k hk).2]
theorem t_lat (hE : ∀ U, jE G U → strE G vf U) {k : Nat} (hk : k < 79) (hf : vf = .float 3 ∨ vf = .null) : MT G yJ1_charAt_3b067 cJ1_charAt_3b067 2 (some .char) 2 0 0 [.float 2, .int (nI k)] h (some (.int (txC k))) h := by
  refine jMT (ini := false) my_J1_charAt_3b067 (fun h => by cases h) (jRv_c (tx_nar hk)) (Nat.le_of_ble_eq_true rfl) ?_
  show J G RJ1 cJ1_charAt_3b067 2 false 2 _ 0 0 h 0 [some (.float 2), some (.int (nI k))] []
  refine j_iload_n dJ1_charAt_3b067_0 rfl ?_
  refine j_aload_nF dJ1_charAt_3b067_1 rfl ?_
  refine j_lenS hE dJ1_charAt_3b067_2 ?_
  refine j_cS2v (ac := 0) (sc := 0) dJ1_charAt_3b067_3 (t_scheck hE hk hf) tw_218 my_J0_checkIndex_df160 tw_219 (by omega) (Nat.le_of_ble_eq_true rfl) (Nat.le_of_ble_eq_true rfl) ?_
  refine j_aload_nF dJ1_charAt_3b067_6 rfl ?_
  refine j_iload_n dJ1_charAt_3b067_7 rfl ?_
  refine j_balS hE dJ1_charAt_3b067_8 hk ?_
  refine j_sipush (v := 255) dJ1_charAt_3b067_9 (by decide) ?_
  refine j_iand dJ1_charAt_3b067_12 ?_
  refine j_i2c dJ1_charAt_3b067_13 ?_
  refine j_topi (w := txC k) (tx_all k hk).1 ?_
  exact j_iret dJ1_charAt_3b067_14 ⟨rfl, rfl⟩
theorem t_charAt (hE : ∀ U, jE G U → strE G vf U) {k : Nat} (hk : k < 79) (hf : vf = .float 3 ∨ vf = .null) : MT G yJ0_charAt_5068e cJ0_charAt_5068e 2 (some .char) 3 0 0 [.float 1, .int (nI k)] h (some (.int (txC k))) h := by
  refine jMT (ini := false) my_J0_charAt_5068e (fun h => by cases h) (jRv_c (tx_nar hk)) (Nat.le_of_ble_eq_true rfl) ?_
  show J G RJ0 cJ0_charAt_5068e 2 false 3 _ 0 0 h 0 [some (.float 1), some (.int (nI k))] []
  refine j_aload_nF dJ0_charAt_5068e_0 rfl ?_
  refine j_cVS0r (ac := 0) (sc := 0) hE dJ0_charAt_5068e_1 (t_isL hE) tw_211 my_J0_isLatin1_aae02 mi_J0_isLatin1_aae02 rfl (by omega) (Nat.le_of_ble_eq_true rfl) (Nat.le_of_ble_eq_true rfl) ?_
  refine j_if_eq (tgt := 16) dJ0_charAt_5068e_4 (by decide) (fun c => absurd c (by decide)) (fun _ => ?_)
  refine j_aload_nF dJ0_charAt_5068e_7 rfl ?_
  refine j_fldS (w := .float 2) dJ0_charAt_5068e_8 tw_924 (fun U hU => by rw [jtr_f2]; exact (hE U hU).2.2.2.1) ?_
  refine j_iload_n dJ0_charAt_5068e_11 rfl ?_
  refine j_cS2r (ac := 0) (sc := 0) dJ0_charAt_5068e_12 (t_lat hE hk hf) tw_215 my_J1_charAt_3b067 tw_216 (by omega) (Nat.le_of_ble_eq_true rfl) (Nat.le_of_ble_eq_true rfl) ?_
  exact j_iret dJ0_charAt_5068e_15 ⟨rfl, rfl⟩
end STM
