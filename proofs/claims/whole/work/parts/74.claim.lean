/-! THE CLAIM OUT OF ONE WALK OF THE LAW'S BODY. Your part is whole_start (and what it stands on); all else here is the same for every law, but numbers. -/
def R_law : String := "WallTrumpetsLaw"
def lw_P (b : Addr) (xs : List Int32) (args : Array Value) (s : State) : Prop := args = #[.ref b] ∧ s.IntsAt b xs ∧ xs.length ≤ 320 ∧ (Jvm.Cond.and given_1 narrow_1).before args s = true
def lw_Q (_ : Array Value) (s : State) (o : Outcome) (t : State) : Prop := o = .returned (some (.int 1)) ∧ Framed s o t [] 600000 7302250
def lw_Z (below : List Frame) (a : Array Value) (s : State) : State → Prop := fun t => ∃ o, t.status = .running ∧ Ended t below o ∧ lw_Q a s o t
/-- the law's own end, with 1 on the stack, nothing written that was there before, its room as the claim has it -/
theorem lw_ret {p : Program} {l : Launch} {e : Env} {s : State} {m : MethodId} {below : List Frame} {meth : Method} {c : Code} {b : Nat} (hx : p.tables.exec = Jvm.exec) (hb : c.code = code) (hr : meth.sig.returnType = ret) (hlocks : meth.locks = false) {pc : Nat} {H : Heap} {ls : Array Slot} (hdg : decode code pc = .ok (.ireturn, 1)) : W p l e room_1 s m #[Value.ref b] below meth c H [] 600000 7302250 (lw_Z below #[Value.ref b] s) (F0 m pc ls [.int 1]) := by
  intro T hT X
  obtain ⟨fs, hret, hrun, hended, hW, hframe⟩ := X.leave (v := some (.int 1)) (hlocks := hlocks) (fun h => by rw [hr] at h; cases h)
  have hmeth' : T.vm.method? m = some meth := X.method'
  refine ⟨T.setFrames fs, ?_, .returned (some (.int 1)), hrun, hended, rfl, ⟨_, rfl⟩, hW, hframe⟩
  jvm_step X.here [X.here.top, hx, hb, hdg, hmeth', hr, ret, narrow_b1]
  (try refine ⟨rfl, ?_⟩); (try refine ⟨rfl, ?_⟩)
  first | (intro acts; rw [hret _ acts rfl rfl rfl]) | rw [hret _ _ rfl rfl rfl]
  exact Steps.refl _
/-- what holds at the law's entry: the machine, the code, the tables' words (any of lw_tbl by 'hts w (by decide +kernel)'), the script of L ints xs at the cell b, what the Statement gives of the start (any of its parts by flat_of_before) -/
def lw_At (p : Program) (s : State) (m : MethodId) (meth : Method) (c : Code) (b L : Nat) (xs : Nat → Int32) : Prop :=
  p.tables.exec = Jvm.exec ∧ c.code = code ∧ meth.sig.returnType = ret ∧ c.maxLocals = 4 ∧ s.vm.findClass R_law = some m.cls ∧ (∀ w ∈ lw_tbl, w.before #[Value.ref b] s = true) ∧ va_X b L xs s s.heap ∧ b < s.heap.size ∧ meth.locks = false ∧ (Jvm.Cond.and given_1 narrow_1).before #[Value.ref b] s = true
/-! what the Statement says of the text constant -/
theorem lw_word {w : Cond} (i : Nat) (h : tables_1[i]? = some w) : w ∈ lw_tbl := List.mem_append_right _ (List.mem_of_getElem? h)
def lw_tm : Term := .string "WallTrumpets" 67
theorem lw_str {s : State} {b : Nat} (hgv : (Jvm.Cond.and given_1 narrow_1).before #[Value.ref b] s = true) : ∃ a1 a2 : Nat, lw_tm.eval #[Value.ref b] s none [] s = some (.ref a1) ∧ va_O "java/lang/String" a1 (fun q => s.heap.size ≤ q) s s.heap ∧ va_OF "java/lang/String" "coder" "B" (.int 0) a1 (fun q => s.heap.size ≤ q) s s.heap ∧ va_OF "java/lang/String" "value" "[B" (.ref a2) a1 (fun q => s.heap.size ≤ q) s s.heap ∧ va_T .byte a2 79 (fun j => .int (txC j)) (fun q => s.heap.size ≤ q) s s.heap := by
  have hg := flat_of_before _ hgv
  have hel : ∀ j : Nat, j < 79 → (Cond.eq (.elem (.field lw_tm "java/lang/String" "value" "[B") (.int (Int32.ofNat j))) (.int (txC j))) ∈ flatC (Jvm.Cond.and given_1 narrow_1) := by decide +kernel
  obtain ⟨adK, adV, h1, h2⟩ := vk_Sof (N := 1) (tm := fun _ => lw_tm) (len := [79]) (byt := [txB]) (A := fun q => s.heap.size ≤ q) (args := #[Value.ref b]) (s := s) (fun i hi => by
      have : i = 0 := by omega
      subst this; decide) (fun i _ => hg _ (by decide +kernel)) (fun i _ => hg _ (by decide +kernel)) (fun i _ => hg _ (by decide +kernel)) (fun i hi => by
      have : i = 0 := by omega
      subst this; exact hg _ (by decide +kernel)) (fun i hi j hj => by
      have : i = 0 := by omega
      subst this; exact hg _ (hel j hj)) (fun i j hi hj hne => by omega) (fun a ha => by omega)
  obtain ⟨q1, q2, q3, q4⟩ := h1.1 0 (by omega)
  exact ⟨adK 0, adV 0, h2 0 (by omega), q1, q2, q3, q4⟩
theorem lw_fmt {s : State} {b : Nat} (hts : ∀ w ∈ lw_tbl, w.before #[Value.ref b] s = true) (hgv : (Jvm.Cond.and given_1 narrow_1).before #[Value.ref b] s = true) : ∃ v : Value, (v = .null ∨ ∃ a, v = .ref a) ∧ va_Z "jdk/internal/util/Preconditions" "SIOOBE_FORMATTER" "Ljava/util/function/BiFunction;" v (fun q => s.heap.size ≤ q) s s.heap := by
  have hg := flat_of_before _ hgv
  have h1 : (Cond.isRef (.static "jdk/internal/util/Preconditions" "SIOOBE_FORMATTER" "Ljava/util/function/BiFunction;")).before #[Value.ref b] s = true := hg _ (by decide +kernel)
  obtain ⟨v, e1, e2⟩ := Cond.isRef_spec h1
  refine ⟨v, ?_, va_Zof (hts _ (lw_word 222 (by decide +kernel))) (hts _ (jTs_tbl tw_10)) e1 (fun a ha => by omega)⟩
  cases v with
  | null => exact Or.inl rfl
  | ref a => exact Or.inr ⟨a, rfl⟩
  | int _ => cases e2
  | long _ => cases e2
  | float _ => cases e2
  | double _ => cases e2
  | retAddr _ => cases e2
set_option maxRecDepth 20000 in
theorem whole_start {p : Program} {e : Env} {s : State} {m : MethodId} {below : List Frame} {meth : Method} {c : Code} (l : Launch) (hflags : l.flags = flags0) {b L : Nat} {xs : Nat → Int32} (hL : L ≤ 320) (C0 : lw_At p s m meth c b L xs) : W p l e room_1 s m #[Value.ref b] below meth c s.heap [] 0 0 (lw_Z below #[Value.ref b] s) (entryFrame m ([Value.ref b] : List Value).toArray 4) := by
  obtain ⟨hx, hb, hr, hml, hown, hts, hX, hbl, hlocks, hgv⟩ := id C0
  have hg := flat_of_before _ hgv
  have hj : ∀ w ∈ jTs, w.before #[Value.ref b] s = true := fun w hw => hts w (jTs_tbl hw)
  obtain ⟨c0, iS0, hKn0⟩ := u_known (C := RX0) (T := TX0) (N := 4) (n := 4) hj jinX0 (hj _ is_X0)
  obtain ⟨c1, iS1, hKn1⟩ := u_known (C := RX1) (T := TX1) (N := 8) (n := 8) hj jinX1 (hj _ is_X1)
  obtain ⟨c2, iS2, hKn2⟩ := u_known (C := RX2) (T := TX2) (N := 3) (n := 3) hj jinX2 (hj _ is_X2)
  obtain ⟨c3, iS3, hKn3⟩ := u_known (C := RX3) (T := TX3) (N := 6) (n := 6) hj jinX3 (hj _ is_X3)
  obtain ⟨c4, iS4, hKn4⟩ := u_known (C := RX4) (T := TX4) (N := 3) (n := 3) hj jinX4 (hj _ is_X4)
  obtain ⟨c5, iS5, hKn5⟩ := u_known (C := RX5) (T := TX5) (N := 8) (n := 8) hj jinX5 (hj _ is_X5)
  obtain ⟨c6, iS6, hKn6⟩ := u_known (C := RX6) (T := TX6) (N := 10) (n := 10) hj jinX6 (hj _ is_X6)
  obtain ⟨c7, iS7, hKn7⟩ := u_known (C := RX7) (T := TX7) (N := 25) (n := 25) hj jinX7 (hj _ is_X7)
  obtain ⟨dC, dI, hKc⟩ : ∃ (dC : Nat → ClassId) (dI : Nat → Nat → Nat), ∀ (k : Nat) (q : vw_C), vwCl[k]? = some q → u_Kn s q.1 q.2.1 q.2.2 (dC k) (dI k) := by
    refine ⟨fun k => match k with | 0 => c0 | 1 => c1 | 2 => c2 | 3 => c3 | 4 => c4 | 5 => c5 | 6 => c6 | _ => c7, fun k => match k with | 0 => iS0 | 1 => iS1 | 2 => iS2 | 3 => iS3 | 4 => iS4 | 5 => iS5 | 6 => iS6 | _ => iS7, ?_⟩
    intro k q hq
    match k, hq with
    | 0, hq => cases hq; exact hKn0
    | 1, hq => cases hq; exact hKn1
    | 2, hq => cases hq; exact hKn2
    | 3, hq => cases hq; exact hKn3
    | 4, hq => cases hq; exact hKn4
    | 5, hq => cases hq; exact hKn5
    | 6, hq => cases hq; exact hKn6
    | 7, hq => cases hq; exact hKn7
    | k + 8, hq => simp [vwCl] at hq
  obtain ⟨a1, a2, t0, t1, t2, t3, t4⟩ := lw_str hgv
  obtain ⟨v, hv, hZ⟩ := lw_fmt hts hgv
  have hC : va_Z "java/lang/String" "COMPACT_STRINGS" "Z" (.int 1) (fun q => s.heap.size ≤ q) s s.heap := va_Zof (hts _ (lw_word 206 (by decide +kernel))) (hts _ (jTs_tbl tw_8)) (va_eqi (hg _ (by decide +kernel))) (fun a ha => by omega)
  have hsr : (Cond.stringRef RX6 67 txS).before #[Value.ref b] s = true := hts _ (lw_word 196 (by decide +kernel))
  have hsr0 : (Cond.stringRef RX6 67 txS).before #[] s = true := by
    first
      | exact hsr
      | (simp only [Cond.before, Cond.holds, Cond.value] at hsr ⊢; exact hsr)
      | (simp only [Cond.before, Cond.holds, Cond.value, State.names, State.poolOf?, State.resolvedAt?] at hsr ⊢; exact hsr)
  have hRf : vk_R RX6 67 txS a1 s := ⟨hsr0, by
    rw [← t0]
    exact Term.string_eval_of_vm rfl⟩
  obtain ⟨vf, a3, hvf, ev⟩ : ∃ (vf : Value) (a3 : Nat), (vf = .float 3 ∨ vf = .null) ∧ ∀ G : jG, jaS G 3 = a3 → jtr G vf = v := by
    rcases hv with rfl | ⟨a, rfl⟩
    · exact ⟨.null, 0, Or.inr rfl, fun G _ => rfl⟩
    · refine ⟨.float 3, a, Or.inl rfl, fun G hG => ?_⟩
      show Value.ref _ = _
      rw [if_neg (by decide), hG]
  generalize hG0 : ((s.heap, dC, dI, (b, L, xs), (fun u : UInt32 => if u = 1 then a1 else if u = 2 then a2 else a3), fun _ => True) : jG) = G0
  generalize hG : ((s.heap, dC, dI, (b, L, xs), (fun u : UInt32 => if u = 1 then a1 else if u = 2 then a2 else a3), strE G0 vf) : jG) = G
  have g1 : G.1 = s.heap := by rw [← hG]
  have g2 : jD G = (dC, dI) := by rw [← hG]
  have g3 : jsc G = b ∧ jsL G = L ∧ jsx G = xs := by rw [← hG]; exact ⟨rfl, rfl, rfl⟩
  have g4 : jaS G 1 = a1 ∧ jaS G 2 = a2 ∧ jaS G 3 = a3 := by rw [← hG]; exact ⟨rfl, rfl, rfl⟩
  have gE : jE G = strE G0 vf := by rw [← hG]
  have gs : strE G0 vf = strE G vf := by
    rw [← hG0, ← hG]
    rfl
  have hE : ∀ U, jE G U → strE G vf U := fun U h => by rw [gE, gs] at h; exact h
  have hAb : jAb G = fun q => s.heap.size ≤ q := by unfold jAb; funext q; show (G.1.size ≤ q) = _; rw [g1]
  have hst : strE G vf s := by
    unfold strE
    rw [g4.1, g4.2.1, hAb, g1, ev G g4.2.2]
    exact ⟨hRf, t1, t2, t3, t4, hC, hZ⟩
  have hS : jS G s := by
    refine ⟨?_, ?_, ?_, va_AO.of (hts _ (lw_word 126 (by decide +kernel))), ⟨va_Nw.of rfl (hts _ (lw_word 27 (by decide +kernel))), va_Nw.of rfl (hts _ (lw_word 46 (by decide +kernel))), va_Nw.of rfl (hts _ (lw_word 141 (by decide +kernel))), va_Nw.of rfl (hts _ (lw_word 288 (by decide +kernel)))⟩, fun s' U' hW h => ?_, ?_⟩
    · rw [g2]; exact ⟨hKc, fun k q h => by simp at h⟩
    · rw [g3.1, g3.2.1, g3.2.2, g1]; exact hX
    · show jsc G < G.1.size
      rw [g3.1, g1]; exact hbl
    · rw [gE] at h ⊢; exact strE.warm hW h
    · rw [gE, gs]; exact hst
  have hM : jM G RL cL_law 4 false 26 p room_1 s m #[Value.ref b] meth c := ⟨hx, hb, hml, hown, hj, hS, Nat.le_of_ble_eq_true rfl, Nat.le_of_ble_eq_true rfl, fun h => by cases h⟩
  have hl := lv_entry ([.ref b]) (n := 4) (Nat.le_of_ble_eq_true rfl)
  rw [lg_entry_eq]
  generalize (lg_sl ([.ref b]) ++ List.replicate (4 - (lg_sl ([.ref b])).length) Slot.unset).toArray = ls at hl ⊢
  have hl : lv_has ls 4 [(0, .ref b)] := hl
  have hls : jLH G ls 4 [some (.float 0), none, none, none] := by
    refine ⟨Nat.le_of_ble_eq_true rfl, hl.1, hl.2.1, fun i w hi => ?_⟩
    match i, hi with
    | 0, hi =>
      have e : w = .float 0 := by simpa using hi.symm
      subst e
      have := hl.2.2 (0, .ref b) List.mem_cons_self
      have ej : jtr G (.float 0) = .ref b := by
        show Value.ref _ = _
        rw [if_pos rfl, g3.1]
      rw [ej]; exact this
    | 1, hi => simp at hi
    | 2, hi => simp at hi
    | 3, hi => simp at hi
    | i + 4, hi => simp at hi
  have hWD : jWD G s (0, fun _ => .inl 0, fun _ _ => none, fun _ _ => 0, fun _ _ => 0) s.heap := ⟨by show s.heap.size = G.1.size + 0; rw [g1]; rfl, fun q _ => by rw [g1], fun k hk => absurd hk (Nat.not_lt_zero k)⟩
  refine law_J (G := G) hE hvf (Q := fun v _ => v = some (.int 1)) (by rw [g3.2.1]; exact hL) (fun _ => rfl) p l e room_1 s m #[Value.ref b] below meth c (lw_Z below #[Value.ref b] s) hM ?_ s.heap [] 0 0 ls hWD (fun _ h => absurd h List.not_mem_nil) (Nat.le_of_ble_eq_true rfl) (Nat.le_of_ble_eq_true rfl) hls
  intro v' h' H' locs' cells' slots' pc' ls' hQ hd hW' hl' hc' hs'
  subst hQ
  refine va_forget (fun q hq => ?_) ?_
  · have := hl' q hq
    show s.heap.size ≤ q.base
    rw [← g1]; exact this
  · refine W.widen (k := 600000) (n := 7302250) hc' hs' ?_
    exact lw_ret hx hb hr hlocks hd
set_option maxHeartbeats 4000000 in
theorem lw_walk (l : Launch) (hflags : l.flags = flags0) (b : Addr) (xs : List Int32) : MetFree l x (headSpec (Jvm.Cond.code x code maxLocals ret :: tables_1) room_1) (lw_P b xs) (fun _ _ _ _ _ => True) lw_Q := by
  refine MetFree.of_bodyS (code := code) (maxLocals := maxLocals) (ret := ret) (by decide) ?_ ?_
  · intro args s m h hn
    obtain ⟨meth, c, h1, h2, h3, h4, h5, h6, -, -⟩ := Cond.code_spec hn (atoms_spec (ws := Jvm.Cond.code x code maxLocals ret :: tables_1) h _ List.mem_cons_self)
    exact ⟨meth, c, h1, h2, h3, h4, h5, h6⟩
  · intro p e s m args below meth c s₁ B hml0 hP _
    obtain ⟨rfl, hx, hbd, hgv⟩ := hP
    obtain ⟨scr, harrAt, hlist, hof, hsmall⟩ := hx
    obtain ⟨hcb, hkn, -, -⟩ := State.arrayAt?_spec harrAt
    have hown : s.vm.findClass R_law = some m.cls := findClass_of_methodNamed B.named
    have hts0 : ∀ c ∈ (Jvm.Cond.code x code maxLocals ret :: tables_1), c.before #[Value.ref b] s = true := atoms_spec (ws := Jvm.Cond.code x code maxLocals ret :: tables_1) B.pre
    have hts : ∀ w ∈ lw_tbl, w.before #[Value.ref b] s = true := k2_hts_sels lw_privs (fun w hw => hts0 w (List.mem_cons_of_mem _ hw)) lw_privs_ok
    have hml : c.maxLocals = 4 := B.maxLocals_eq (hts0 _ List.mem_cons_self)
    have X₀ : Stand p l e room_1 s m #[Value.ref b] below meth c s₁ [] 0 0 := Stand.of_body B
    have hh0 : s₁.heap = s.heap := by rw [B.state]; rfl
    have hsz : scr.slots.size = xs.length := by rw [← Array.length_toList, hlist, List.length_map]
    have hval : ∀ j : Nat, j < xs.length → scr.slots[j]? = some (.int (xs.getD j 0)) := fun j hj => by
      rw [← Array.getElem?_toList, hlist]
      simp [hj]
    have hbl : b < s.heap.size := (Array.getElem?_eq_some_iff.mp hcb).1
    have hX : va_X b xs.length (fun j => xs.getD j 0) s s.heap := ⟨scr, hcb, hof, hkn, hsz, hval⟩
    have K : W p l e room_1 s m #[Value.ref b] below meth c s₁.heap [] 0 0 (lw_Z below #[Value.ref b] s) (entryFrame m ([Value.ref b] : List Value).toArray 4) := by
      rw [hh0]
      exact whole_start l hflags hbd ⟨B.exec, B.bytes, B.returns, hml, hown, hts, hX, hbl, B.notSynchronized, hgv⟩
    obtain ⟨t, a1, o, b1, b2, b3⟩ := K s₁ rfl X₀
    exact ⟨t, o, a1, b1, b2, b3⟩
theorem lw_pre_spec {args : Array Value} {s : State} (h : (Jvm.Cond.and given_1 narrow_1).before args s = true) (hr : rest_1_c.before args s = true) : ∃ (b : Addr) (xs : List Int32), lw_P b xs args s := by
  have hs := flat_of_before _ h
  have hq := flat_of_before _ hr
  have hc : (Cond.count 1).before args s = true := hs _ (by decide +kernel)
  have harr : (Cond.arrayOf (.arg 0) .int).before args s = true := hs _ (by decide +kernel)
  have hle : (Cond.le (.length (.arg 0)) (.int 320)).before args s = true := hs _ (by decide +kernel)
  have hlen : (Cond.isInt (.length (.arg 0))).before args s = true := hq _ (by decide +kernel)
  have hall : (Cond.all (.arg 0) (.isInt (.elem (.arg 0) (.index 0)))).before args s = true := hq _ (by decide +kernel)
  obtain ⟨b, xs, hb, hx⟩ := State.ints_of_pre rfl harr hlen hall
  have hsm : xs.length < 2 ^ 31 := hx.choose_spec.2.2.2
  have hev : (Term.length (.arg 0)).eval args s none [] s = some (.int xs.length.toInt32) := hx.length_eval hb
  have hv := Cond.le_ints hev (show (Term.int 320).eval args s none [] s = some (.int 320) from rfl)
  have hd : xs.length.toInt32 ≤ 320 := by
    simpa [Cond.before, Cond.holds, hv] using hle
  have hN : xs.length ≤ 320 := (Int32.ofNat_le_ofNat hsm (by decide)).mp (show Int32.ofNat xs.length ≤ Int32.ofNat 320 from hd)
  exact ⟨b, xs, Cond.one_arg hc (show args[0]? = some (.ref b) from hb), hx, hN, h⟩
theorem lw_comes (l : Launch) (hflags : l.flags = flags0) : Comes l x (Jvm.Cond.code x code maxLocals ret :: tables_1) room_1 (fun tb e args s => Calls_1 tb e args s ∧ rest_1 tb e args s ∧ Pre_1 tb e args s)
    (fun _ _ args s o t => lw_Q args s o t) := by
  intro p e ha hc hk s m args below hf hfit hheap happ hpre
  obtain ⟨b, xs, hP⟩ := lw_pre_spec hpre.2.2 hpre.2.1
  obtain ⟨k, o, h1, h2, h3, hQ⟩ := lw_walk l hflags b xs p e ha hc hk s m args below hf ((Spec.applies_iff_loose hf).mp happ).1 hP trivial
  exact ⟨k, o, h1, h2, h3, hQ⟩
theorem lw_frame {s t : State} {o : Outcome} {args : Array Value} (h : Framed s o t [] 600000 7302250) :
    Framed s o t (fieldLocs frame_1_writes args s ++ arrayLocs frame_1_arrays args s ++ staticLocs frame_1_statics s) 600000 7302250 := h
theorem lw_limb (L : Cond) (hL : ∀ (args : Array Value) (s t : State), L.after args s (.returned (some (.int 1))) t = true) :
    ArmFor flags0 classFile x code maxLocals ret World_1 tables_1 room_1 Calls_1 rest_1 Pre_1
      (fun tb e a s o t => postC L tb e a s o t ∧ Framed s o t (fieldLocs frame_1_writes a s ++ arrayLocs frame_1_arrays a s ++ staticLocs frame_1_statics s) 600000 7302250) := by
  intro l hflags _ _ p e ha hc hk s m args below hf hfit hheap happ hpre
  obtain ⟨k, o, h1, h2, h3, rfl, hF⟩ := lw_comes l hflags p e ha hc hk s m args below hf hfit hheap happ hpre
  exact ⟨k, _, h1, h2, h3, hL args s _, lw_frame hF⟩
theorem i_vc : Claimed_1_1 ∧ Claimed_1_2 := ⟨lw_limb limb_1_1 (fun args s t => by simp [limb_1_1, Cond.after, Cond.holds, Cond.value]), lw_limb limb_1_2 (fun args s t => Cond.after_iff.mpr (by
  first | (rw [show limb_1_2 = Cond.eq .result (.int 1) from rfl, Cond.eq_ints (x := 1) (y := 1) rfl rfl]; simp; done) | (simp [limb_1_2, Cond.value, Term.eval]; done)))⟩
