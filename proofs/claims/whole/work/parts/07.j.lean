/-! CALLS -/
section JC
variable {G : jG} {own : String} {cc : ByteArray} {nL : Nat} {ini : Bool} {d : Nat} {h h' : jH} {pc : Nat}
variable {p : Program} {l : Launch} {e : Env} {R : Room} {s : State} {m : MethodId} {args : Array Value} {below : List Frame} {meth : Method} {c : Code} {H : Heap} {locs : List Loc} {cells slots : Nat} {Z : State → Prop} {ls : Array Slot} {rest st0 : List Value} {v : Option Value} {a : Array Value} {mc ms : Nat}
/-- behind a call -/
theorem jW_run (hr : va_Run p l e R s m args below meth c H locs cells slots mc ms (F0 m pc ls st0) rest (jQc G v h' a) (fun q => jB G ≤ q)) (hL : ∀ q ∈ locs, jB G ≤ q.base)
    (kk : ∀ (H1 : Heap) (locs1 : List Loc), jWD G s h' H1 → (∀ q ∈ locs1, jB G ≤ q.base) → W p l e R s m args below meth c H1 locs1 (cells + mc) (slots + ms) Z (F0 m (pc + 3) ls ((v.map (jtr G)).toList ++ rest))) : W p l e R s m args below meth c H locs cells slots Z (F0 m pc ls st0) := by
  intro T hT X
  obtain ⟨v', st₀, t, T', L, h0, X', hL', e1, e2, hq, st⟩ := hr T hT X
  obtain ⟨hv, hw⟩ := hq
  have hv' : v' = v.map (jtr G) := Outcome.returned.inj hv
  subst hv'
  have hal : s.vm.Alike t.vm := by rw [← e2]; exact X'.warmed.alike
  obtain ⟨t2, a1, b1⟩ := kk T'.heap (locs ++ L) (by rw [e1]; exact hw.moved hal.symm) (fun q hq => by
    rcases List.mem_append.mp hq with z | z
    · exact hL q z
    · exact hL' q z) T' rfl X'
  exact ⟨t2, st t2 a1, b1⟩
/-- the callee's start, out of the caller's world -/
theorem jpreS (hM : jM G own cc nL ini d p R s m args meth c) (hW : jWD G s h H) (av : List Value) : PreS s H (jPc G av h) (av.map (jtr G)) := ⟨jPc_blind G av h, fun U hU hWd => ⟨rfl, by rw [hU]; exact hW.moved hWd.alike, jS.moved hWd hM.2.2.2.2.2.1⟩⟩
theorem jgood {y : MethodName} {bytes : ByteArray} {maxL n : Nat} {ret : Option FieldType} (hy : jMY y bytes maxL ret n) : GoodIn jTs (Cond.code y bytes maxL ret :: jTs) := fun w hw => (List.mem_cons.mp hw).elim (fun e => by rw [e]; exact jTs_good _ hy.1) (fun z => jTs_good w z)
theorem jroom {d' maxL : Nat} {mc ms : Nat} (hM : jM G own cc nL ini d p R s m args meth c) (hd : d' + 1 ≤ d) (hm : maxL ≤ 45) : (({ frames := d', cells := mc, slots := ms, locals := 64 * d' } : Room).frames + 1 ≤ R.frames ∧ 8 + (maxL + 11) + ({ frames := d', cells := mc, slots := ms, locals := 64 * d' } : Room).locals ≤ R.locals) := by
  obtain ⟨-, -, -, -, -, -, h1, h2, -⟩ := hM
  exact ⟨by show d' + 1 ≤ R.frames; omega, by show 8 + (maxL + 11) + 64 * d' ≤ R.locals; omega⟩
end JC
section JR3
variable {G : jG} {own : String} {cc : ByteArray} {nL : Nat} {ini : Bool} {d : Nat} {Q : Option Value → jH → Prop} {ac sc : Nat} {pc : Nat} {lo : List (Option Value)} {st : List Value} {h h' : jH} {v : Option Value}
variable {y : MethodName} {cc' : ByteArray} {nL' n d' mc ms idx : Nat} {ret' : Option FieldType}
theorem jcat (G : jG) (st : List Value) : ((st.map (jtr G)).map fun v => v.category).sum = (st.map fun v => v.category).sum := by
  rw [List.map_map]
  congr 1
  apply List.map_congr_left
  intro v _
  exact jtr_cat G v
theorem jg_callV {a ci : Nat} {As : List Value} {stk : List Value} (hd : decode cc pc = .ok (.invokevirtual idx, 3)) (hM' : MT G y cc' nL' ret' d' mc ms (.ref a :: As) h v h') (hl : Cond.methodLink own idx y ∈ jTs) (hy : jMY y cc' nL' ret' n) (hi : Cond.instanceMethod y ∈ jTs ∧ Cond.selects y.cls y y ∈ jTs) (ho : jO h.1 h.2.1 a ci) (hc0 : vwCl[ci]?.map (fun q => q.1) = some y.cls) (hn : As.length = n) (hdd : d' + 1 ≤ d) (hm : nL' ≤ 45) (hst : (st.map fun v => v.category).sum ≤ 8) (hstk : stk = As.reverse ++ .ref a :: st)
    (k : J G own cc nL ini d Q ac sc h' (pc + 3) lo (v.toList ++ st)) : J G own cc nL ini d Q (ac + mc) (sc + ms) h pc lo stk := by
  subst hstk
  intro p l e R s m args below meth c Z hM hK H locs cells slots ls hW hL hc hs hls
  have hM0 := hM
  obtain ⟨hx, hb, hml, hown, hts, hS, -⟩ := hM0
  have hcl := hW.2.2 a ho.1
  rw [ho.2] at hcl
  obtain ⟨q, hq, cell, q1, q2, q3, -⟩ := hcl
  have hqc : q.1 = y.cls := by rw [hq] at hc0; exact Option.some.inj hc0
  have hrecv : ∃ cell : Cell, H[jB G + a]? = some cell ∧ cell.vm.isStatics = false ∧ s.vm.findClass y.cls = some cell.cls := ⟨cell, q1, by rw [q3]; rfl, by rw [q2, ← hqc]; exact (hS.1.1 ci q hq).2.1⟩
  have hG : GoodIn jTs (wsV own idx y.cls y (Cond.code y cc' nL' ret' :: jTs)) := by
    intro w hw
    rcases List.mem_append.mp hw with z | z
    · simp only [List.mem_cons, List.not_mem_nil, or_false] at z
      rcases z with rfl | rfl | rfl | rfl
      · exact jTs_good _ hl
      · exact jTs_good _ hi.1
      · exact jTs_good _ hi.2
      · exact jTs_good _ hy.2.1
    · exact jgood hy w z
  have hrun := va_runV (l := l) (e := e) (below := below) (meth := meth) (locs := locs) (cells := cells) (slots := slots) (As := As.map (jtr G)) (rest := st.map (jtr G)) (b := jB G + a) (C := y.cls) (g := F0 m pc ls ((As.reverse ++ .ref a :: st).map (jtr G))) ⟨hx, hb, hml, hown, hts⟩ (hM' l) (cwV n hts hG rfl rfl rfl ⟨rfl, hy.2.2.1⟩ (jroom hM hdd hm)) ⟨jPc_blind G _ h, hrecv, (jpreS hM hW (.ref a :: As)).2⟩ rfl (by rw [List.length_map]; exact hn) hls.2.1 (by simp [jtr]) (lv_room (by rw [jcat]; exact hst)) hd ⟨by omega, by omega⟩
  refine jW_run hrun hL (fun H1 locs1 hW1 hL1 => ?_)
  have := k p l e R s m args below meth c Z hM hK H1 locs1 (cells + mc) (slots + ms) ls hW1 hL1 (by omega) (by omega) hls
  rw [List.map_append] at this
  cases v <;> exact this
theorem jg_callS {As : List Value} {stk : List Value} (hd : decode cc pc = .ok (.invokestatic idx, 3)) (hM' : MT G y cc' nL' ret' d' mc ms As h v h') (hl : Cond.methodLink own idx y ∈ jTs) (hy : jMY y cc' nL' ret' n) (hi : Cond.static y ∈ jTs) (hn : As.length = n) (hdd : d' + 1 ≤ d) (hm : nL' ≤ 45) (hst : (st.map fun v => v.category).sum ≤ 8) (hstk : stk = As.reverse ++ st)
    (k : J G own cc nL ini d Q ac sc h' (pc + 3) lo (v.toList ++ st)) : J G own cc nL ini d Q (ac + mc) (sc + ms) h pc lo stk := by
  subst hstk
  intro p l e R s m args below meth c Z hM hK H locs cells slots ls hW hL hc hs hls
  have hM0 := hM
  obtain ⟨hx, hb, hml, hown, hts, hS, -⟩ := hM0
  have hrun := va_runS (l := l) (e := e) (below := below) (meth := meth) (locs := locs) (cells := cells) (slots := slots) (As := As.map (jtr G)) (rest := st.map (jtr G)) (g := F0 m pc ls ((As.reverse ++ st).map (jtr G))) ⟨hx, hb, hml, hown, hts⟩ (hM' l) ⟨callB_of n hts (jgood hy) rfl rfl rfl (hts _ hy.2.1) (hts _ hl) hy.2.2.1 (jroom hM hdd hm), hts _ hi⟩ (jpreS hM hW As) rfl (by rw [List.length_map]; exact hn) hls.2.1 (by simp) (lv_room (by rw [jcat]; exact hst)) hd ⟨by omega, by omega⟩
  refine jW_run hrun hL (fun H1 locs1 hW1 hL1 => ?_)
  have := k p l e R s m args below meth c Z hM hK H1 locs1 (cells + mc) (slots + ms) ls hW1 hL1 (by omega) (by omega) hls
  rw [List.map_append] at this
  cases v <;> exact this
theorem jg_callSN {As : List Value} {stk : List Value} {host : String} (hd : decode cc pc = .ok (.invokestatic idx, 3)) (hM' : MT G y cc' nL' ret' d' mc ms As h v h') (hl : ∀ s : State, jS G s → va_Nw (.methodLinkNest own idx y host) s) (hy : jMY y cc' nL' ret' n) (hi : Cond.static y ∈ jTs) (hn : As.length = n) (hdd : d' + 1 ≤ d) (hm : nL' ≤ 45) (hst : (st.map fun v => v.category).sum ≤ 8) (hstk : stk = As.reverse ++ st)
    (k : J G own cc nL ini d Q ac sc h' (pc + 3) lo (v.toList ++ st)) : J G own cc nL ini d Q (ac + mc) (sc + ms) h pc lo stk := by
  subst hstk
  intro p l e R s m args below meth c Z hM hK H locs cells slots ls hW hL hc hs hls
  have hM0 := hM
  obtain ⟨hx, hb, hml, hown, hts, hS, -⟩ := hM0
  have hrun := va_runSN (l := l) (e := e) (below := below) (meth := meth) (locs := locs) (cells := cells) (slots := slots) (As := As.map (jtr G)) (rest := st.map (jtr G)) (g := F0 m pc ls ((As.reverse ++ st).map (jtr G))) ⟨hx, hb, hml, hown, hts⟩ (hM' l) ⟨va_cnB n hts (jgood hy) rfl rfl rfl (hl s hS) (hts _ hy.2.1) hy.2.2.1 (jroom hM hdd hm), hts _ hi, trivial⟩ (jpreS hM hW As) rfl (by rw [List.length_map]; exact hn) hls.2.1 (by simp) (lv_room (by rw [jcat]; exact hst)) hd ⟨by omega, by omega⟩
  refine jW_run hrun hL (fun H1 locs1 hW1 hL1 => ?_)
  have := k p l e R s m args below meth c Z hM hK H1 locs1 (cells + mc) (slots + ms) ls hW1 hL1 (by omega) (by omega) hls
  rw [List.map_append] at this
  cases v <;> exact this
theorem jg_callI {a : Nat} {As : List Value} {stk : List Value} (hd : decode cc pc = .ok (.invokespecial idx, 3)) (hM' : MT G y cc' nL' none d' mc ms (.ref a :: As) h v h') (hl : Cond.methodLink own idx y ∈ jTs) (hy : jMY y cc' nL' none n) (hi : Cond.instanceMethod y ∈ jTs) (hyn : y.name = "<init>") (hn : As.length = n) (hdd : d' + 1 ≤ d) (hm : nL' ≤ 45) (hst : (st.map fun v => v.category).sum ≤ 8) (hstk : stk = As.reverse ++ .ref a :: st)
    (k : J G own cc nL ini d Q ac sc h' (pc + 3) lo (v.toList ++ st)) : J G own cc nL ini d Q (ac + mc) (sc + ms) h pc lo stk := by
  subst hstk
  intro p l e R s m args below meth c Z hM hK H locs cells slots ls hW hL hc hs hls
  have hM0 := hM
  obtain ⟨hx, hb, hml, hown, hts, hS, -⟩ := hM0
  have hrun := va_runI (l := l) (e := e) (below := below) (meth := meth) (locs := locs) (cells := cells) (slots := slots) (As := As.map (jtr G)) (rest := st.map (jtr G)) (b := jB G + a) (g := F0 m pc ls ((As.reverse ++ .ref a :: st).map (jtr G))) ⟨hx, hb, hml, hown, hts⟩ (hM' l) (cwI n hts (jgood hy) rfl rfl rfl (hts _ hy.2.1) (hts _ hl) (hts _ hi) hyn hy.2.2.1 (jroom hM hdd hm)) (jpreS hM hW (.ref a :: As)) rfl (by rw [List.length_map]; exact hn) hls.2.1 (by simp [jtr]) (lv_room (by rw [jcat]; exact hst)) hd ⟨by omega, by omega⟩
  refine jW_run hrun hL (fun H1 locs1 hW1 hL1 => ?_)
  have := k p l e R s m args below meth c Z hM hK H1 locs1 (cells + mc) (slots + ms) ls hW1 hL1 (by omega) (by omega) hls
  rw [List.map_append] at this
  cases v <;> exact this
theorem jg_callIN {a : Nat} {As : List Value} {stk : List Value} {host : String} (hd : decode cc pc = .ok (.invokespecial idx, 3)) (hM' : MT G y cc' nL' none d' mc ms (.ref a :: As) h v h') (hl : ∀ s : State, jS G s → va_Nw (.methodLinkNest own idx y host) s) (hy : jMY y cc' nL' none n) (hi : Cond.instanceMethod y ∈ jTs) (hyn : y.name = "<init>") (hn : As.length = n) (hdd : d' + 1 ≤ d) (hm : nL' ≤ 45) (hst : (st.map fun v => v.category).sum ≤ 8) (hstk : stk = As.reverse ++ .ref a :: st)
    (k : J G own cc nL ini d Q ac sc h' (pc + 3) lo (v.toList ++ st)) : J G own cc nL ini d Q (ac + mc) (sc + ms) h pc lo stk := by
  subst hstk
  intro p l e R s m args below meth c Z hM hK H locs cells slots ls hW hL hc hs hls
  have hM0 := hM
  obtain ⟨hx, hb, hml, hown, hts, hS, -⟩ := hM0
  have hrun := va_runIN (l := l) (e := e) (below := below) (meth := meth) (locs := locs) (cells := cells) (slots := slots) (As := As.map (jtr G)) (rest := st.map (jtr G)) (b := jB G + a) (g := F0 m pc ls ((As.reverse ++ .ref a :: st).map (jtr G))) ⟨hx, hb, hml, hown, hts⟩ (hM' l) ⟨va_cnB n hts (jgood hy) rfl rfl rfl (hl s hS) (hts _ hy.2.1) hy.2.2.1 (jroom hM hdd hm), hyn, hts _ hi⟩ (jpreS hM hW (.ref a :: As)) rfl (by rw [List.length_map]; exact hn) hls.2.1 (by simp [jtr]) (lv_room (by rw [jcat]; exact hst)) hd ⟨by omega, by omega⟩
  refine jW_run hrun hL (fun H1 locs1 hW1 hL1 => ?_)
  have := k p l e R s m args below meth c Z hM hK H1 locs1 (cells + mc) (slots + ms) ls hW1 hL1 (by omega) (by omega) hls
  rw [List.map_append] at this
  cases v <;> exact this
/-- Object's own constructor -/
theorem j_objInit {a : Nat} (hd : decode cc pc = .ok (.invokespecial idx, 3)) (hl : Cond.methodLink own idx objectInit ∈ jTs) (hi : Cond.instanceMethod objectInit ∈ jTs) (hco : Cond.code objectInit ⟨#[0xb1]⟩ 1 none ∈ jTs) (hdd : 1 ≤ d) (hst : (st.map fun v => v.category).sum ≤ 8) (k : J G own cc nL ini d Q ac sc h (pc + 3) lo st) : J G own cc nL ini d Q ac sc h pc lo (.ref a :: st) := by
  intro p l e R s m args below meth c Z hM hK H locs cells slots ls hW hL hc hs hls
  have hM0 := hM
  obtain ⟨hx, hb, hml, hown, hts, hS, hf, hlo, -⟩ := hM0
  refine W.objInit hx hb hown (hts _ hl) (hts _ hi) (hts _ hco) rfl (by rw [hml]; exact hls.2.1) rfl hd (by omega) ?_ (k p l e R s m args below meth c Z hM hK H locs cells slots ls hW hL hc hs hls)
  show 2 * 0 + ((st.map (jtr G)).map fun v => v.category).sum + 12 ≤ R.locals
  rw [jcat]
  omega
theorem j_mmin {x z : Int32} (hd : decode cc pc = .ok (.invokestatic idx, 3)) (hl : Cond.methodLink own idx yJ9_min_7cf53 ∈ jTs) (hdd : 1 ≤ d) (hst : (st.map fun v => v.category).sum ≤ 8) (k : J G own cc nL ini d Q ac sc h (pc + 3) lo (.int (if z < x then z else x) :: st)) : J G own cc nL ini d Q ac sc h pc lo (.int z :: .int x :: st) := by
  intro p l e R s m args below meth c Z hM hK H locs cells slots ls hW hL hc hs hls
  have hM0 := hM
  obtain ⟨hx, hb, hml, hown, hts, hS, hf, hlo, -⟩ := hM0
  exact va_mmin hx hb (by rw [hml]; exact hls.2.1.symm) hown (hts _ hl) (hts _ ms_J9_min) (hts _ in_J9) (hts _ co_J9_min) (by omega) (by rw [jcat]; omega) (by omega) (by omega) hd (k p l e R s m args below meth c Z hM hK H locs cells slots ls hW hL hc hs hls)
theorem j_mmax {x z : Int32} (hd : decode cc pc = .ok (.invokestatic idx, 3)) (hl : Cond.methodLink own idx yJ9_max_7cf53 ∈ jTs) (hdd : 1 ≤ d) (hst : (st.map fun v => v.category).sum ≤ 8) (k : J G own cc nL ini d Q ac sc h (pc + 3) lo (.int (if x < z then z else x) :: st)) : J G own cc nL ini d Q ac sc h pc lo (.int z :: .int x :: st) := by
  intro p l e R s m args below meth c Z hM hK H locs cells slots ls hW hL hc hs hls
  have hM0 := hM
  obtain ⟨hx, hb, hml, hown, hts, hS, hf, hlo, -⟩ := hM0
  exact va_mmax hx hb (by rw [hml]; exact hls.2.1.symm) hown (hts _ hl) (hts _ ms_J9_max) (hts _ in_J9) (hts _ co_J9_max) (by omega) (by rw [jcat]; omega) (by omega) (by omega) hd (k p l e R s m args below meth c Z hM hK H locs cells slots ls hW hL hc hs hls)
end JR3
