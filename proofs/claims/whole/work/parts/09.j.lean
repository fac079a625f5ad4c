/-! STORES BY THEIR PLACE, BRANCHES IN BOTH FORMS, CALLS BY THEIR ARITY -/
/-- not a long -/
def jnl : Option Value → Bool
  | some (.long _) => false
  | some (.double _) => false
  | _ => true
theorem jnl_cat {w : Value} (h : jnl (some w) = true) : ¬ w.category = 2 := by
  cases w <;> simp [jnl, Value.category] at h ⊢
theorem jnl_at {a : Option Value} {w : Value} (hn : jnl a = true) (hw : some a = some (some w)) : ¬ w.category = 2 := by
  have : a = some w := Option.some.inj hw
  subst this
  exact jnl_cat hn
section JR5
variable {G : jG} {own : String} {cc : ByteArray} {nL : Nat} {ini : Bool} {d : Nat} {Q : Option Value → jH → Prop} {ac sc : Nat} {pc : Nat} {st : List Value} {h : jH} {r : List (Option Value)}
theorem jput_set {lo : List (Option Value)} {i : Nat} {v : Value} (hi : i < lo.length) (hp : ∀ w, i ≠ 0 → lo[i - 1]? = some (some w) → ¬ w.category = 2) : jput1 lo (lo.set i (some v)) i v := by
  refine ⟨List.length_set, fun j w hj => ?_⟩
  by_cases e : j = i
  · subst e
    rw [List.getElem?_set_self hi] at hj
    exact Or.inl ⟨rfl, (Option.some.inj (Option.some.inj hj)).symm⟩
  · rw [List.getElem?_set_ne (Ne.symm e)] at hj
    refine Or.inr ⟨e, hj, fun z => ?_⟩
    have : i - 1 = j := by omega
    exact hp w (by omega) (by rw [this]; exact hj) z.2
theorem jput_set2 {lo : List (Option Value)} {i : Nat} {v : Value} (hi : i + 1 < lo.length) (hp : ∀ w, i ≠ 0 → lo[i - 1]? = some (some w) → ¬ w.category = 2) : jput2 lo ((lo.set i (some v)).set (i + 1) none) i v := by
  refine ⟨by rw [List.length_set, List.length_set], fun j w hj => ?_⟩
  by_cases e1 : j = i + 1
  · subst e1
    rw [List.getElem?_set_self (by rw [List.length_set]; exact hi)] at hj
    cases hj
  rw [List.getElem?_set_ne (Ne.symm e1)] at hj
  by_cases e : j = i
  · subst e
    rw [List.getElem?_set_self (by omega)] at hj
    exact Or.inl ⟨rfl, (Option.some.inj (Option.some.inj hj)).symm⟩
  · rw [List.getElem?_set_ne (Ne.symm e)] at hj
    refine Or.inr ⟨e, e1, hj, fun z => ?_⟩
    have : i - 1 = j := by omega
    exact hp w (by omega) (by rw [this]; exact hj) z.2
theorem j_istore_0 {a0 : Option Value} {x : Int32} (hd : decode cc pc = .ok (.istore_n 0, 1)) (k : J G own cc nL ini d Q ac sc h (pc + 1) (some (.int x) :: r) st) : J G own cc nL ini d Q ac sc h pc (a0 :: r) (.int x :: st) :=
  jg_istore_n hd (by show 0 < _; simp only [List.length_cons]; omega) (jput_set (lo := (a0 :: r)) (v := .int x) (by show 0 < _; simp only [List.length_cons]; omega) (fun w hz => absurd rfl hz)) k
theorem j_astore_0 {a0 : Option Value} {x : Nat} (hd : decode cc pc = .ok (.astore_n 0, 1)) (k : J G own cc nL ini d Q ac sc h (pc + 1) (some (.ref x) :: r) st) : J G own cc nL ini d Q ac sc h pc (a0 :: r) (.ref x :: st) :=
  jg_astore_n hd (by show 0 < _; simp only [List.length_cons]; omega) (jput_set (lo := (a0 :: r)) (v := .ref x) (by show 0 < _; simp only [List.length_cons]; omega) (fun w hz => absurd rfl hz)) k
theorem j_lstore_0 {a0 a1 : Option Value} {x : Int64} (hd : decode cc pc = .ok (.lstore_n 0, 1)) (k : J G own cc nL ini d Q ac sc h (pc + 1) (some (.long x) :: none :: r) st) : J G own cc nL ini d Q ac sc h pc (a0 :: a1 :: r) (.long x :: st) :=
  jg_lstore_n hd (by show 0 + 1 < _; simp only [List.length_cons]; omega) (jput_set2 (lo := (a0 :: a1 :: r)) (v := .long x) (by show 0 + 1 < _; simp only [List.length_cons]; omega) (fun w hz => absurd rfl hz)) k
theorem j_iinc_0 {n : Int} {x v : Int32} (hd : decode cc pc = .ok (.iinc 0 n, 3)) (hv : x + Int32.ofInt n = v) (k : J G own cc nL ini d Q ac sc h (pc + 3) (some (.int v) :: r) st) : J G own cc nL ini d Q ac sc h pc (some (.int x) :: r) st :=
  jg_iinc hd rfl hv (jput_set (lo := (some (.int x) :: r)) (v := .int v) (by simp) (fun w hz => absurd rfl hz)) k
theorem j_forget_0 {a0 : Option Value} (k : J G own cc nL ini d Q ac sc h pc (none :: r) st) : J G own cc nL ini d Q ac sc h pc (a0 :: r) st :=
  j_forget ⟨by simp, fun j w hj => by
    have e : (none :: r) = ((a0 :: r) : List (Option Value)).set 0 none := rfl
    rw [e] at hj
    by_cases z : j = 0
    · subst z; simp at hj
    · rwa [List.getElem?_set_ne (Ne.symm z)] at hj⟩ k
theorem j_istore_1 {a0 a1 : Option Value} {x : Int32} (hd : decode cc pc = .ok (.istore_n 1, 1)) (hn : jnl a0 = true) (k : J G own cc nL ini d Q ac sc h (pc + 1) (a0 :: some (.int x) :: r) st) : J G own cc nL ini d Q ac sc h pc (a0 :: a1 :: r) (.int x :: st) :=
  jg_istore_n hd (by show 1 < _; simp only [List.length_cons]; omega) (jput_set (lo := (a0 :: a1 :: r)) (v := .int x) (by show 1 < _; simp only [List.length_cons]; omega) (fun w _ hw => jnl_at hn hw)) k
theorem j_astore_1 {a0 a1 : Option Value} {x : Nat} (hd : decode cc pc = .ok (.astore_n 1, 1)) (hn : jnl a0 = true) (k : J G own cc nL ini d Q ac sc h (pc + 1) (a0 :: some (.ref x) :: r) st) : J G own cc nL ini d Q ac sc h pc (a0 :: a1 :: r) (.ref x :: st) :=
  jg_astore_n hd (by show 1 < _; simp only [List.length_cons]; omega) (jput_set (lo := (a0 :: a1 :: r)) (v := .ref x) (by show 1 < _; simp only [List.length_cons]; omega) (fun w _ hw => jnl_at hn hw)) k
theorem j_lstore_1 {a0 a1 a2 : Option Value} {x : Int64} (hd : decode cc pc = .ok (.lstore_n 1, 1)) (hn : jnl a0 = true) (k : J G own cc nL ini d Q ac sc h (pc + 1) (a0 :: some (.long x) :: none :: r) st) : J G own cc nL ini d Q ac sc h pc (a0 :: a1 :: a2 :: r) (.long x :: st) :=
  jg_lstore_n hd (by show 1 + 1 < _; simp only [List.length_cons]; omega) (jput_set2 (lo := (a0 :: a1 :: a2 :: r)) (v := .long x) (by show 1 + 1 < _; simp only [List.length_cons]; omega) (fun w _ hw => jnl_at hn hw)) k
theorem j_iinc_1 {a0 : Option Value} {n : Int} {x v : Int32} (hd : decode cc pc = .ok (.iinc 1 n, 3)) (hv : x + Int32.ofInt n = v) (hn : jnl a0 = true) (k : J G own cc nL ini d Q ac sc h (pc + 3) (a0 :: some (.int v) :: r) st) : J G own cc nL ini d Q ac sc h pc (a0 :: some (.int x) :: r) st :=
  jg_iinc hd rfl hv (jput_set (lo := (a0 :: some (.int x) :: r)) (v := .int v) (by simp) (fun w _ hw => jnl_at hn hw)) k
theorem j_forget_1 {a0 a1 : Option Value} (k : J G own cc nL ini d Q ac sc h pc (a0 :: none :: r) st) : J G own cc nL ini d Q ac sc h pc (a0 :: a1 :: r) st :=
  j_forget ⟨by simp, fun j w hj => by
    have e : (a0 :: none :: r) = ((a0 :: a1 :: r) : List (Option Value)).set 1 none := rfl
    rw [e] at hj
    by_cases z : j = 1
    · subst z; simp at hj
    · rwa [List.getElem?_set_ne (Ne.symm z)] at hj⟩ k
theorem j_istore_2 {a0 a1 a2 : Option Value} {x : Int32} (hd : decode cc pc = .ok (.istore_n 2, 1)) (hn : jnl a1 = true) (k : J G own cc nL ini d Q ac sc h (pc + 1) (a0 :: a1 :: some (.int x) :: r) st) : J G own cc nL ini d Q ac sc h pc (a0 :: a1 :: a2 :: r) (.int x :: st) :=
  jg_istore_n hd (by show 2 < _; simp only [List.length_cons]; omega) (jput_set (lo := (a0 :: a1 :: a2 :: r)) (v := .int x) (by show 2 < _; simp only [List.length_cons]; omega) (fun w _ hw => jnl_at hn hw)) k
theorem j_astore_2 {a0 a1 a2 : Option Value} {x : Nat} (hd : decode cc pc = .ok (.astore_n 2, 1)) (hn : jnl a1 = true) (k : J G own cc nL ini d Q ac sc h (pc + 1) (a0 :: a1 :: some (.ref x) :: r) st) : J G own cc nL ini d Q ac sc h pc (a0 :: a1 :: a2 :: r) (.ref x :: st) :=
  jg_astore_n hd (by show 2 < _; simp only [List.length_cons]; omega) (jput_set (lo := (a0 :: a1 :: a2 :: r)) (v := .ref x) (by show 2 < _; simp only [List.length_cons]; omega) (fun w _ hw => jnl_at hn hw)) k
theorem j_lstore_2 {a0 a1 a2 a3 : Option Value} {x : Int64} (hd : decode cc pc = .ok (.lstore_n 2, 1)) (hn : jnl a1 = true) (k : J G own cc nL ini d Q ac sc h (pc + 1) (a0 :: a1 :: some (.long x) :: none :: r) st) : J G own cc nL ini d Q ac sc h pc (a0 :: a1 :: a2 :: a3 :: r) (.long x :: st) :=
  jg_lstore_n hd (by show 2 + 1 < _; simp only [List.length_cons]; omega) (jput_set2 (lo := (a0 :: a1 :: a2 :: a3 :: r)) (v := .long x) (by show 2 + 1 < _; simp only [List.length_cons]; omega) (fun w _ hw => jnl_at hn hw)) k
theorem j_iinc_2 {a0 a1 : Option Value} {n : Int} {x v : Int32} (hd : decode cc pc = .ok (.iinc 2 n, 3)) (hv : x + Int32.ofInt n = v) (hn : jnl a1 = true) (k : J G own cc nL ini d Q ac sc h (pc + 3) (a0 :: a1 :: some (.int v) :: r) st) : J G own cc nL ini d Q ac sc h pc (a0 :: a1 :: some (.int x) :: r) st :=
  jg_iinc hd rfl hv (jput_set (lo := (a0 :: a1 :: some (.int x) :: r)) (v := .int v) (by simp) (fun w _ hw => jnl_at hn hw)) k
theorem j_forget_2 {a0 a1 a2 : Option Value} (k : J G own cc nL ini d Q ac sc h pc (a0 :: a1 :: none :: r) st) : J G own cc nL ini d Q ac sc h pc (a0 :: a1 :: a2 :: r) st :=
  j_forget ⟨by simp, fun j w hj => by
    have e : (a0 :: a1 :: none :: r) = ((a0 :: a1 :: a2 :: r) : List (Option Value)).set 2 none := rfl
    rw [e] at hj
    by_cases z : j = 2
    · subst z; simp at hj
    · rwa [List.getElem?_set_ne (Ne.symm z)] at hj⟩ k
theorem j_istore_3 {a0 a1 a2 a3 : Option Value} {x : Int32} (hd : decode cc pc = .ok (.istore_n 3, 1)) (hn : jnl a2 = true) (k : J G own cc nL ini d Q ac sc h (pc + 1) (a0 :: a1 :: a2 :: some (.int x) :: r) st) : J G own cc nL ini d Q ac sc h pc (a0 :: a1 :: a2 :: a3 :: r) (.int x :: st) :=
  jg_istore_n hd (by show 3 < _; simp only [List.length_cons]; omega) (jput_set (lo := (a0 :: a1 :: a2 :: a3 :: r)) (v := .int x) (by show 3 < _; simp only [List.length_cons]; omega) (fun w _ hw => jnl_at hn hw)) k
theorem j_astore_3 {a0 a1 a2 a3 : Option Value} {x : Nat} (hd : decode cc pc = .ok (.astore_n 3, 1)) (hn : jnl a2 = true) (k : J G own cc nL ini d Q ac sc h (pc + 1) (a0 :: a1 :: a2 :: some (.ref x) :: r) st) : J G own cc nL ini d Q ac sc h pc (a0 :: a1 :: a2 :: a3 :: r) (.ref x :: st) :=
  jg_astore_n hd (by show 3 < _; simp only [List.length_cons]; omega) (jput_set (lo := (a0 :: a1 :: a2 :: a3 :: r)) (v := .ref x) (by show 3 < _; simp only [List.length_cons]; omega) (fun w _ hw => jnl_at hn hw)) k
theorem j_lstore_3 {a0 a1 a2 a3 a4 : Option Value} {x : Int64} (hd : decode cc pc = .ok (.lstore_n 3, 1)) (hn : jnl a2 = true) (k : J G own cc nL ini d Q ac sc h (pc + 1) (a0 :: a1 :: a2 :: some (.long x) :: none :: r) st) : J G own cc nL ini d Q ac sc h pc (a0 :: a1 :: a2 :: a3 :: a4 :: r) (.long x :: st) :=
  jg_lstore_n hd (by show 3 + 1 < _; simp only [List.length_cons]; omega) (jput_set2 (lo := (a0 :: a1 :: a2 :: a3 :: a4 :: r)) (v := .long x) (by show 3 + 1 < _; simp only [List.length_cons]; omega) (fun w _ hw => jnl_at hn hw)) k
theorem j_iinc_3 {a0 a1 a2 : Option Value} {n : Int} {x v : Int32} (hd : decode cc pc = .ok (.iinc 3 n, 3)) (hv : x + Int32.ofInt n = v) (hn : jnl a2 = true) (k : J G own cc nL ini d Q ac sc h (pc + 3) (a0 :: a1 :: a2 :: some (.int v) :: r) st) : J G own cc nL ini d Q ac sc h pc (a0 :: a1 :: a2 :: some (.int x) :: r) st :=
  jg_iinc hd rfl hv (jput_set (lo := (a0 :: a1 :: a2 :: some (.int x) :: r)) (v := .int v) (by simp) (fun w _ hw => jnl_at hn hw)) k
theorem j_forget_3 {a0 a1 a2 a3 : Option Value} (k : J G own cc nL ini d Q ac sc h pc (a0 :: a1 :: a2 :: none :: r) st) : J G own cc nL ini d Q ac sc h pc (a0 :: a1 :: a2 :: a3 :: r) st :=
  j_forget ⟨by simp, fun j w hj => by
    have e : (a0 :: a1 :: a2 :: none :: r) = ((a0 :: a1 :: a2 :: a3 :: r) : List (Option Value)).set 3 none := rfl
    rw [e] at hj
    by_cases z : j = 3
    · subst z; simp at hj
    · rwa [List.getElem?_set_ne (Ne.symm z)] at hj⟩ k
theorem j_istore_4 {a0 a1 a2 a3 a4 : Option Value} {x : Int32} (hd : decode cc pc = .ok (.istore 4, 2)) (hn : jnl a3 = true) (k : J G own cc nL ini d Q ac sc h (pc + 2) (a0 :: a1 :: a2 :: a3 :: some (.int x) :: r) st) : J G own cc nL ini d Q ac sc h pc (a0 :: a1 :: a2 :: a3 :: a4 :: r) (.int x :: st) :=
  jg_istore hd (by show 4 < _; simp only [List.length_cons]; omega) (jput_set (lo := (a0 :: a1 :: a2 :: a3 :: a4 :: r)) (v := .int x) (by show 4 < _; simp only [List.length_cons]; omega) (fun w _ hw => jnl_at hn hw)) k
theorem j_lstore_4 {a0 a1 a2 a3 a4 a5 : Option Value} {x : Int64} (hd : decode cc pc = .ok (.lstore 4, 2)) (hn : jnl a3 = true) (k : J G own cc nL ini d Q ac sc h (pc + 2) (a0 :: a1 :: a2 :: a3 :: some (.long x) :: none :: r) st) : J G own cc nL ini d Q ac sc h pc (a0 :: a1 :: a2 :: a3 :: a4 :: a5 :: r) (.long x :: st) :=
  jg_lstore hd (by show 4 + 1 < _; simp only [List.length_cons]; omega) (jput_set2 (lo := (a0 :: a1 :: a2 :: a3 :: a4 :: a5 :: r)) (v := .long x) (by show 4 + 1 < _; simp only [List.length_cons]; omega) (fun w _ hw => jnl_at hn hw)) k
theorem j_iinc_4 {a0 a1 a2 a3 : Option Value} {n : Int} {x v : Int32} (hd : decode cc pc = .ok (.iinc 4 n, 3)) (hv : x + Int32.ofInt n = v) (hn : jnl a3 = true) (k : J G own cc nL ini d Q ac sc h (pc + 3) (a0 :: a1 :: a2 :: a3 :: some (.int v) :: r) st) : J G own cc nL ini d Q ac sc h pc (a0 :: a1 :: a2 :: a3 :: some (.int x) :: r) st :=
  jg_iinc hd rfl hv (jput_set (lo := (a0 :: a1 :: a2 :: a3 :: some (.int x) :: r)) (v := .int v) (by simp) (fun w _ hw => jnl_at hn hw)) k
theorem j_forget_4 {a0 a1 a2 a3 a4 : Option Value} (k : J G own cc nL ini d Q ac sc h pc (a0 :: a1 :: a2 :: a3 :: none :: r) st) : J G own cc nL ini d Q ac sc h pc (a0 :: a1 :: a2 :: a3 :: a4 :: r) st :=
  j_forget ⟨by simp, fun j w hj => by
    have e : (a0 :: a1 :: a2 :: a3 :: none :: r) = ((a0 :: a1 :: a2 :: a3 :: a4 :: r) : List (Option Value)).set 4 none := rfl
    rw [e] at hj
    by_cases z : j = 4
    · subst z; simp at hj
    · rwa [List.getElem?_set_ne (Ne.symm z)] at hj⟩ k
theorem j_istore_5 {a0 a1 a2 a3 a4 a5 : Option Value} {x : Int32} (hd : decode cc pc = .ok (.istore 5, 2)) (hn : jnl a4 = true) (k : J G own cc nL ini d Q ac sc h (pc + 2) (a0 :: a1 :: a2 :: a3 :: a4 :: some (.int x) :: r) st) : J G own cc nL ini d Q ac sc h pc (a0 :: a1 :: a2 :: a3 :: a4 :: a5 :: r) (.int x :: st) :=
  jg_istore hd (by show 5 < _; simp only [List.length_cons]; omega) (jput_set (lo := (a0 :: a1 :: a2 :: a3 :: a4 :: a5 :: r)) (v := .int x) (by show 5 < _; simp only [List.length_cons]; omega) (fun w _ hw => jnl_at hn hw)) k
theorem j_lstore_5 {a0 a1 a2 a3 a4 a5 a6 : Option Value} {x : Int64} (hd : decode cc pc = .ok (.lstore 5, 2)) (hn : jnl a4 = true) (k : J G own cc nL ini d Q ac sc h (pc + 2) (a0 :: a1 :: a2 :: a3 :: a4 :: some (.long x) :: none :: r) st) : J G own cc nL ini d Q ac sc h pc (a0 :: a1 :: a2 :: a3 :: a4 :: a5 :: a6 :: r) (.long x :: st) :=
  jg_lstore hd (by show 5 + 1 < _; simp only [List.length_cons]; omega) (jput_set2 (lo := (a0 :: a1 :: a2 :: a3 :: a4 :: a5 :: a6 :: r)) (v := .long x) (by show 5 + 1 < _; simp only [List.length_cons]; omega) (fun w _ hw => jnl_at hn hw)) k
theorem j_iinc_5 {a0 a1 a2 a3 a4 : Option Value} {n : Int} {x v : Int32} (hd : decode cc pc = .ok (.iinc 5 n, 3)) (hv : x + Int32.ofInt n = v) (hn : jnl a4 = true) (k : J G own cc nL ini d Q ac sc h (pc + 3) (a0 :: a1 :: a2 :: a3 :: a4 :: some (.int v) :: r) st) : J G own cc nL ini d Q ac sc h pc (a0 :: a1 :: a2 :: a3 :: a4 :: some (.int x) :: r) st :=
  jg_iinc hd rfl hv (jput_set (lo := (a0 :: a1 :: a2 :: a3 :: a4 :: some (.int x) :: r)) (v := .int v) (by simp) (fun w _ hw => jnl_at hn hw)) k
theorem j_forget_5 {a0 a1 a2 a3 a4 a5 : Option Value} (k : J G own cc nL ini d Q ac sc h pc (a0 :: a1 :: a2 :: a3 :: a4 :: none :: r) st) : J G own cc nL ini d Q ac sc h pc (a0 :: a1 :: a2 :: a3 :: a4 :: a5 :: r) st :=
  j_forget ⟨by simp, fun j w hj => by
    have e : (a0 :: a1 :: a2 :: a3 :: a4 :: none :: r) = ((a0 :: a1 :: a2 :: a3 :: a4 :: a5 :: r) : List (Option Value)).set 5 none := rfl
    rw [e] at hj
    by_cases z : j = 5
    · subst z; simp at hj
    · rwa [List.getElem?_set_ne (Ne.symm z)] at hj⟩ k
theorem j_istore_6 {a0 a1 a2 a3 a4 a5 a6 : Option Value} {x : Int32} (hd : decode cc pc = .ok (.istore 6, 2)) (hn : jnl a5 = true) (k : J G own cc nL ini d Q ac sc h (pc + 2) (a0 :: a1 :: a2 :: a3 :: a4 :: a5 :: some (.int x) :: r) st) : J G own cc nL ini d Q ac sc h pc (a0 :: a1 :: a2 :: a3 :: a4 :: a5 :: a6 :: r) (.int x :: st) :=
  jg_istore hd (by show 6 < _; simp only [List.length_cons]; omega) (jput_set (lo := (a0 :: a1 :: a2 :: a3 :: a4 :: a5 :: a6 :: r)) (v := .int x) (by show 6 < _; simp only [List.length_cons]; omega) (fun w _ hw => jnl_at hn hw)) k
theorem j_lstore_6 {a0 a1 a2 a3 a4 a5 a6 a7 : Option Value} {x : Int64} (hd : decode cc pc = .ok (.lstore 6, 2)) (hn : jnl a5 = true) (k : J G own cc nL ini d Q ac sc h (pc + 2) (a0 :: a1 :: a2 :: a3 :: a4 :: a5 :: some (.long x) :: none :: r) st) : J G own cc nL ini d Q ac sc h pc (a0 :: a1 :: a2 :: a3 :: a4 :: a5 :: a6 :: a7 :: r) (.long x :: st) :=
  jg_lstore hd (by show 6 + 1 < _; simp only [List.length_cons]; omega) (jput_set2 (lo := (a0 :: a1 :: a2 :: a3 :: a4 :: a5 :: a6 :: a7 :: r)) (v := .long x) (by show 6 + 1 < _; simp only [List.length_cons]; omega) (fun w _ hw => jnl_at hn hw)) k
theorem j_iinc_6 {a0 a1 a2 a3 a4 a5 : Option Value} {n : Int} {x v : Int32} (hd : decode cc pc = .ok (.iinc 6 n, 3)) (hv : x + Int32.ofInt n = v) (hn : jnl a5 = true) (k : J G own cc nL ini d Q ac sc h (pc + 3) (a0 :: a1 :: a2 :: a3 :: a4 :: a5 :: some (.int v) :: r) st) : J G own cc nL ini d Q ac sc h pc (a0 :: a1 :: a2 :: a3 :: a4 :: a5 :: some (.int x) :: r) st :=
  jg_iinc hd rfl hv (jput_set (lo := (a0 :: a1 :: a2 :: a3 :: a4 :: a5 :: some (.int x) :: r)) (v := .int v) (by simp) (fun w _ hw => jnl_at hn hw)) k
theorem j_forget_6 {a0 a1 a2 a3 a4 a5 a6 : Option Value} (k : J G own cc nL ini d Q ac sc h pc (a0 :: a1 :: a2 :: a3 :: a4 :: a5 :: none :: r) st) : J G own cc nL ini d Q ac sc h pc (a0 :: a1 :: a2 :: a3 :: a4 :: a5 :: a6 :: r) st :=
  j_forget ⟨by simp, fun j w hj => by
    have e : (a0 :: a1 :: a2 :: a3 :: a4 :: a5 :: none :: r) = ((a0 :: a1 :: a2 :: a3 :: a4 :: a5 :: a6 :: r) : List (Option Value)).set 6 none := rfl
    rw [e] at hj
    by_cases z : j = 6
    · subst z; simp at hj
    · rwa [List.getElem?_set_ne (Ne.symm z)] at hj⟩ k
theorem j_istore_7 {a0 a1 a2 a3 a4 a5 a6 a7 : Option Value} {x : Int32} (hd : decode cc pc = .ok (.istore 7, 2)) (hn : jnl a6 = true) (k : J G own cc nL ini d Q ac sc h (pc + 2) (a0 :: a1 :: a2 :: a3 :: a4 :: a5 :: a6 :: some (.int x) :: r) st) : J G own cc nL ini d Q ac sc h pc (a0 :: a1 :: a2 :: a3 :: a4 :: a5 :: a6 :: a7 :: r) (.int x :: st) :=
  jg_istore hd (by show 7 < _; simp only [List.length_cons]; omega) (jput_set (lo := (a0 :: a1 :: a2 :: a3 :: a4 :: a5 :: a6 :: a7 :: r)) (v := .int x) (by show 7 < _; simp only [List.length_cons]; omega) (fun w _ hw => jnl_at hn hw)) k
theorem j_lstore_7 {a0 a1 a2 a3 a4 a5 a6 a7 a8 : Option Value} {x : Int64} (hd : decode cc pc = .ok (.lstore 7, 2)) (hn : jnl a6 = true) (k : J G own cc nL ini d Q ac sc h (pc + 2) (a0 :: a1 :: a2 :: a3 :: a4 :: a5 :: a6 :: some (.long x) :: none :: r) st) : J G own cc nL ini d Q ac sc h pc (a0 :: a1 :: a2 :: a3 :: a4 :: a5 :: a6 :: a7 :: a8 :: r) (.long x :: st) :=
  jg_lstore hd (by show 7 + 1 < _; simp only [List.length_cons]; omega) (jput_set2 (lo := (a0 :: a1 :: a2 :: a3 :: a4 :: a5 :: a6 :: a7 :: a8 :: r)) (v := .long x) (by show 7 + 1 < _; simp only [List.length_cons]; omega) (fun w _ hw => jnl_at hn hw)) k
theorem j_iinc_7 {a0 a1 a2 a3 a4 a5 a6 : Option Value} {n : Int} {x v : Int32} (hd : decode cc pc = .ok (.iinc 7 n, 3)) (hv : x + Int32.ofInt n = v) (hn : jnl a6 = true) (k : J G own cc nL ini d Q ac sc h (pc + 3) (a0 :: a1 :: a2 :: a3 :: a4 :: a5 :: a6 :: some (.int v) :: r) st) : J G own cc nL ini d Q ac sc h pc (a0 :: a1 :: a2 :: a3 :: a4 :: a5 :: a6 :: some (.int x) :: r) st :=
  jg_iinc hd rfl hv (jput_set (lo := (a0 :: a1 :: a2 :: a3 :: a4 :: a5 :: a6 :: some (.int x) :: r)) (v := .int v) (by simp) (fun w _ hw => jnl_at hn hw)) k
theorem j_forget_7 {a0 a1 a2 a3 a4 a5 a6 a7 : Option Value} (k : J G own cc nL ini d Q ac sc h pc (a0 :: a1 :: a2 :: a3 :: a4 :: a5 :: a6 :: none :: r) st) : J G own cc nL ini d Q ac sc h pc (a0 :: a1 :: a2 :: a3 :: a4 :: a5 :: a6 :: a7 :: r) st :=
  j_forget ⟨by simp, fun j w hj => by
    have e : (a0 :: a1 :: a2 :: a3 :: a4 :: a5 :: a6 :: none :: r) = ((a0 :: a1 :: a2 :: a3 :: a4 :: a5 :: a6 :: a7 :: r) : List (Option Value)).set 7 none := rfl
    rw [e] at hj
    by_cases z : j = 7
    · subst z; simp at hj
    · rwa [List.getElem?_set_ne (Ne.symm z)] at hj⟩ k
theorem j_istore_8 {a0 a1 a2 a3 a4 a5 a6 a7 a8 : Option Value} {x : Int32} (hd : decode cc pc = .ok (.istore 8, 2)) (hn : jnl a7 = true) (k : J G own cc nL ini d Q ac sc h (pc + 2) (a0 :: a1 :: a2 :: a3 :: a4 :: a5 :: a6 :: a7 :: some (.int x) :: r) st) : J G own cc nL ini d Q ac sc h pc (a0 :: a1 :: a2 :: a3 :: a4 :: a5 :: a6 :: a7 :: a8 :: r) (.int x :: st) :=
  jg_istore hd (by show 8 < _; simp only [List.length_cons]; omega) (jput_set (lo := (a0 :: a1 :: a2 :: a3 :: a4 :: a5 :: a6 :: a7 :: a8 :: r)) (v := .int x) (by show 8 < _; simp only [List.length_cons]; omega) (fun w _ hw => jnl_at hn hw)) k
theorem j_lstore_8 {a0 a1 a2 a3 a4 a5 a6 a7 a8 a9 : Option Value} {x : Int64} (hd : decode cc pc = .ok (.lstore 8, 2)) (hn : jnl a7 = true) (k : J G own cc nL ini d Q ac sc h (pc + 2) (a0 :: a1 :: a2 :: a3 :: a4 :: a5 :: a6 :: a7 :: some (.long x) :: none :: r) st) : J G own cc nL ini d Q ac sc h pc (a0 :: a1 :: a2 :: a3 :: a4 :: a5 :: a6 :: a7 :: a8 :: a9 :: r) (.long x :: st) :=
  jg_lstore hd (by show 8 + 1 < _; simp only [List.length_cons]; omega) (jput_set2 (lo := (a0 :: a1 :: a2 :: a3 :: a4 :: a5 :: a6 :: a7 :: a8 :: a9 :: r)) (v := .long x) (by show 8 + 1 < _; simp only [List.length_cons]; omega) (fun w _ hw => jnl_at hn hw)) k
theorem j_iinc_8 {a0 a1 a2 a3 a4 a5 a6 a7 : Option Value} {n : Int} {x v : Int32} (hd : decode cc pc = .ok (.iinc 8 n, 3)) (hv : x + Int32.ofInt n = v) (hn : jnl a7 = true) (k : J G own cc nL ini d Q ac sc h (pc + 3) (a0 :: a1 :: a2 :: a3 :: a4 :: a5 :: a6 :: a7 :: some (.int v) :: r) st) : J G own cc nL ini d Q ac sc h pc (a0 :: a1 :: a2 :: a3 :: a4 :: a5 :: a6 :: a7 :: some (.int x) :: r) st :=
  jg_iinc hd rfl hv (jput_set (lo := (a0 :: a1 :: a2 :: a3 :: a4 :: a5 :: a6 :: a7 :: some (.int x) :: r)) (v := .int v) (by simp) (fun w _ hw => jnl_at hn hw)) k
theorem j_forget_8 {a0 a1 a2 a3 a4 a5 a6 a7 a8 : Option Value} (k : J G own cc nL ini d Q ac sc h pc (a0 :: a1 :: a2 :: a3 :: a4 :: a5 :: a6 :: a7 :: none :: r) st) : J G own cc nL ini d Q ac sc h pc (a0 :: a1 :: a2 :: a3 :: a4 :: a5 :: a6 :: a7 :: a8 :: r) st :=
  j_forget ⟨by simp, fun j w hj => by
    have e : (a0 :: a1 :: a2 :: a3 :: a4 :: a5 :: a6 :: a7 :: none :: r) = ((a0 :: a1 :: a2 :: a3 :: a4 :: a5 :: a6 :: a7 :: a8 :: r) : List (Option Value)).set 8 none := rfl
    rw [e] at hj
    by_cases z : j = 8
    · subst z; simp at hj
    · rwa [List.getElem?_set_ne (Ne.symm z)] at hj⟩ k
theorem j_istore_9 {a0 a1 a2 a3 a4 a5 a6 a7 a8 a9 : Option Value} {x : Int32} (hd : decode cc pc = .ok (.istore 9, 2)) (hn : jnl a8 = true) (k : J G own cc nL ini d Q ac sc h (pc + 2) (a0 :: a1 :: a2 :: a3 :: a4 :: a5 :: a6 :: a7 :: a8 :: some (.int x) :: r) st) : J G own cc nL ini d Q ac sc h pc (a0 :: a1 :: a2 :: a3 :: a4 :: a5 :: a6 :: a7 :: a8 :: a9 :: r) (.int x :: st) :=
  jg_istore hd (by show 9 < _; simp only [List.length_cons]; omega) (jput_set (lo := (a0 :: a1 :: a2 :: a3 :: a4 :: a5 :: a6 :: a7 :: a8 :: a9 :: r)) (v := .int x) (by show 9 < _; simp only [List.length_cons]; omega) (fun w _ hw => jnl_at hn hw)) k
theorem j_lstore_9 {a0 a1 a2 a3 a4 a5 a6 a7 a8 a9 a10 : Option Value} {x : Int64} (hd : decode cc pc = .ok (.lstore 9, 2)) (hn : jnl a8 = true) (k : J G own cc nL ini d Q ac sc h (pc + 2) (a0 :: a1 :: a2 :: a3 :: a4 :: a5 :: a6 :: a7 :: a8 :: some (.long x) :: none :: r) st) : J G own cc nL ini d Q ac sc h pc (a0 :: a1 :: a2 :: a3 :: a4 :: a5 :: a6 :: a7 :: a8 :: a9 :: a10 :: r) (.long x :: st) :=
  jg_lstore hd (by show 9 + 1 < _; simp only [List.length_cons]; omega) (jput_set2 (lo := (a0 :: a1 :: a2 :: a3 :: a4 :: a5 :: a6 :: a7 :: a8 :: a9 :: a10 :: r)) (v := .long x) (by show 9 + 1 < _; simp only [List.length_cons]; omega) (fun w _ hw => jnl_at hn hw)) k
theorem j_iinc_9 {a0 a1 a2 a3 a4 a5 a6 a7 a8 : Option Value} {n : Int} {x v : Int32} (hd : decode cc pc = .ok (.iinc 9 n, 3)) (hv : x + Int32.ofInt n = v) (hn : jnl a8 = true) (k : J G own cc nL ini d Q ac sc h (pc + 3) (a0 :: a1 :: a2 :: a3 :: a4 :: a5 :: a6 :: a7 :: a8 :: some (.int v) :: r) st) : J G own cc nL ini d Q ac sc h pc (a0 :: a1 :: a2 :: a3 :: a4 :: a5 :: a6 :: a7 :: a8 :: some (.int x) :: r) st :=
  jg_iinc hd rfl hv (jput_set (lo := (a0 :: a1 :: a2 :: a3 :: a4 :: a5 :: a6 :: a7 :: a8 :: some (.int x) :: r)) (v := .int v) (by simp) (fun w _ hw => jnl_at hn hw)) k
theorem j_forget_9 {a0 a1 a2 a3 a4 a5 a6 a7 a8 a9 : Option Value} (k : J G own cc nL ini d Q ac sc h pc (a0 :: a1 :: a2 :: a3 :: a4 :: a5 :: a6 :: a7 :: a8 :: none :: r) st) : J G own cc nL ini d Q ac sc h pc (a0 :: a1 :: a2 :: a3 :: a4 :: a5 :: a6 :: a7 :: a8 :: a9 :: r) st :=
  j_forget ⟨by simp, fun j w hj => by
    have e : (a0 :: a1 :: a2 :: a3 :: a4 :: a5 :: a6 :: a7 :: a8 :: none :: r) = ((a0 :: a1 :: a2 :: a3 :: a4 :: a5 :: a6 :: a7 :: a8 :: a9 :: r) : List (Option Value)).set 9 none := rfl
    rw [e] at hj
    by_cases z : j = 9
    · subst z; simp at hj
    · rwa [List.getElem?_set_ne (Ne.symm z)] at hj⟩ k
theorem j_istore_10 {a0 a1 a2 a3 a4 a5 a6 a7 a8 a9 a10 : Option Value} {x : Int32} (hd : decode cc pc = .ok (.istore 10, 2)) (hn : jnl a9 = true) (k : J G own cc nL ini d Q ac sc h (pc + 2) (a0 :: a1 :: a2 :: a3 :: a4 :: a5 :: a6 :: a7 :: a8 :: a9 :: some (.int x) :: r) st) : J G own cc nL ini d Q ac sc h pc (a0 :: a1 :: a2 :: a3 :: a4 :: a5 :: a6 :: a7 :: a8 :: a9 :: a10 :: r) (.int x :: st) :=
  jg_istore hd (by show 10 < _; simp only [List.length_cons]; omega) (jput_set (lo := (a0 :: a1 :: a2 :: a3 :: a4 :: a5 :: a6 :: a7 :: a8 :: a9 :: a10 :: r)) (v := .int x) (by show 10 < _; simp only [List.length_cons]; omega) (fun w _ hw => jnl_at hn hw)) k
theorem j_lstore_10 {a0 a1 a2 a3 a4 a5 a6 a7 a8 a9 a10 a11 : Option Value} {x : Int64} (hd : decode cc pc = .ok (.lstore 10, 2)) (hn : jnl a9 = true) (k : J G own cc nL ini d Q ac sc h (pc + 2) (a0 :: a1 :: a2 :: a3 :: a4 :: a5 :: a6 :: a7 :: a8 :: a9 :: some (.long x) :: none :: r) st) : J G own cc nL ini d Q ac sc h pc (a0 :: a1 :: a2 :: a3 :: a4 :: a5 :: a6 :: a7 :: a8 :: a9 :: a10 :: a11 :: r) (.long x :: st) :=
  jg_lstore hd (by show 10 + 1 < _; simp only [List.length_cons]; omega) (jput_set2 (lo := (a0 :: a1 :: a2 :: a3 :: a4 :: a5 :: a6 :: a7 :: a8 :: a9 :: a10 :: a11 :: r)) (v := .long x) (by show 10 + 1 < _; simp only [List.length_cons]; omega) (fun w _ hw => jnl_at hn hw)) k
theorem j_iinc_10 {a0 a1 a2 a3 a4 a5 a6 a7 a8 a9 : Option Value} {n : Int} {x v : Int32} (hd : decode cc pc = .ok (.iinc 10 n, 3)) (hv : x + Int32.ofInt n = v) (hn : jnl a9 = true) (k : J G own cc nL ini d Q ac sc h (pc + 3) (a0 :: a1 :: a2 :: a3 :: a4 :: a5 :: a6 :: a7 :: a8 :: a9 :: some (.int v) :: r) st) : J G own cc nL ini d Q ac sc h pc (a0 :: a1 :: a2 :: a3 :: a4 :: a5 :: a6 :: a7 :: a8 :: a9 :: some (.int x) :: r) st :=
  jg_iinc hd rfl hv (jput_set (lo := (a0 :: a1 :: a2 :: a3 :: a4 :: a5 :: a6 :: a7 :: a8 :: a9 :: some (.int x) :: r)) (v := .int v) (by simp) (fun w _ hw => jnl_at hn hw)) k
theorem j_forget_10 {a0 a1 a2 a3 a4 a5 a6 a7 a8 a9 a10 : Option Value} (k : J G own cc nL ini d Q ac sc h pc (a0 :: a1 :: a2 :: a3 :: a4 :: a5 :: a6 :: a7 :: a8 :: a9 :: none :: r) st) : J G own cc nL ini d Q ac sc h pc (a0 :: a1 :: a2 :: a3 :: a4 :: a5 :: a6 :: a7 :: a8 :: a9 :: a10 :: r) st :=
  j_forget ⟨by simp, fun j w hj => by
    have e : (a0 :: a1 :: a2 :: a3 :: a4 :: a5 :: a6 :: a7 :: a8 :: a9 :: none :: r) = ((a0 :: a1 :: a2 :: a3 :: a4 :: a5 :: a6 :: a7 :: a8 :: a9 :: a10 :: r) : List (Option Value)).set 10 none := rfl
    rw [e] at hj
    by_cases z : j = 10
    · subst z; simp at hj
    · rwa [List.getElem?_set_ne (Ne.symm z)] at hj⟩ k
theorem j_istore_11 {a0 a1 a2 a3 a4 a5 a6 a7 a8 a9 a10 a11 : Option Value} {x : Int32} (hd : decode cc pc = .ok (.istore 11, 2)) (hn : jnl a10 = true) (k : J G own cc nL ini d Q ac sc h (pc + 2) (a0 :: a1 :: a2 :: a3 :: a4 :: a5 :: a6 :: a7 :: a8 :: a9 :: a10 :: some (.int x) :: r) st) : J G own cc nL ini d Q ac sc h pc (a0 :: a1 :: a2 :: a3 :: a4 :: a5 :: a6 :: a7 :: a8 :: a9 :: a10 :: a11 :: r) (.int x :: st) :=
  jg_istore hd (by show 11 < _; simp only [List.length_cons]; omega) (jput_set (lo := (a0 :: a1 :: a2 :: a3 :: a4 :: a5 :: a6 :: a7 :: a8 :: a9 :: a10 :: a11 :: r)) (v := .int x) (by show 11 < _; simp only [List.length_cons]; omega) (fun w _ hw => jnl_at hn hw)) k
theorem j_lstore_11 {a0 a1 a2 a3 a4 a5 a6 a7 a8 a9 a10 a11 a12 : Option Value} {x : Int64} (hd : decode cc pc = .ok (.lstore 11, 2)) (hn : jnl a10 = true) (k : J G own cc nL ini d Q ac sc h (pc + 2) (a0 :: a1 :: a2 :: a3 :: a4 :: a5 :: a6 :: a7 :: a8 :: a9 :: a10 :: some (.long x) :: none :: r) st) : J G own cc nL ini d Q ac sc h pc (a0 :: a1 :: a2 :: a3 :: a4 :: a5 :: a6 :: a7 :: a8 :: a9 :: a10 :: a11 :: a12 :: r) (.long x :: st) :=
  jg_lstore hd (by show 11 + 1 < _; simp only [List.length_cons]; omega) (jput_set2 (lo := (a0 :: a1 :: a2 :: a3 :: a4 :: a5 :: a6 :: a7 :: a8 :: a9 :: a10 :: a11 :: a12 :: r)) (v := .long x) (by show 11 + 1 < _; simp only [List.length_cons]; omega) (fun w _ hw => jnl_at hn hw)) k
theorem j_iinc_11 {a0 a1 a2 a3 a4 a5 a6 a7 a8 a9 a10 : Option Value} {n : Int} {x v : Int32} (hd : decode cc pc = .ok (.iinc 11 n, 3)) (hv : x + Int32.ofInt n = v) (hn : jnl a10 = true) (k : J G own cc nL ini d Q ac sc h (pc + 3) (a0 :: a1 :: a2 :: a3 :: a4 :: a5 :: a6 :: a7 :: a8 :: a9 :: a10 :: some (.int v) :: r) st) : J G own cc nL ini d Q ac sc h pc (a0 :: a1 :: a2 :: a3 :: a4 :: a5 :: a6 :: a7 :: a8 :: a9 :: a10 :: some (.int x) :: r) st :=
  jg_iinc hd rfl hv (jput_set (lo := (a0 :: a1 :: a2 :: a3 :: a4 :: a5 :: a6 :: a7 :: a8 :: a9 :: a10 :: some (.int x) :: r)) (v := .int v) (by simp) (fun w _ hw => jnl_at hn hw)) k
theorem j_forget_11 {a0 a1 a2 a3 a4 a5 a6 a7 a8 a9 a10 a11 : Option Value} (k : J G own cc nL ini d Q ac sc h pc (a0 :: a1 :: a2 :: a3 :: a4 :: a5 :: a6 :: a7 :: a8 :: a9 :: a10 :: none :: r) st) : J G own cc nL ini d Q ac sc h pc (a0 :: a1 :: a2 :: a3 :: a4 :: a5 :: a6 :: a7 :: a8 :: a9 :: a10 :: a11 :: r) st :=
  j_forget ⟨by simp, fun j w hj => by
    have e : (a0 :: a1 :: a2 :: a3 :: a4 :: a5 :: a6 :: a7 :: a8 :: a9 :: a10 :: none :: r) = ((a0 :: a1 :: a2 :: a3 :: a4 :: a5 :: a6 :: a7 :: a8 :: a9 :: a10 :: a11 :: r) : List (Option Value)).set 11 none := rfl
    rw [e] at hj
    by_cases z : j = 11
    · subst z; simp at hj
    · rwa [List.getElem?_set_ne (Ne.symm z)] at hj⟩ k
theorem j_istore_12 {a0 a1 a2 a3 a4 a5 a6 a7 a8 a9 a10 a11 a12 : Option Value} {x : Int32} (hd : decode cc pc = .ok (.istore 12, 2)) (hn : jnl a11 = true) (k : J G own cc nL ini d Q ac sc h (pc + 2) (a0 :: a1 :: a2 :: a3 :: a4 :: a5 :: a6 :: a7 :: a8 :: a9 :: a10 :: a11 :: some (.int x) :: r) st) : J G own cc nL ini d Q ac sc h pc (a0 :: a1 :: a2 :: a3 :: a4 :: a5 :: a6 :: a7 :: a8 :: a9 :: a10 :: a11 :: a12 :: r) (.int x :: st) :=
  jg_istore hd (by show 12 < _; simp only [List.length_cons]; omega) (jput_set (lo := (a0 :: a1 :: a2 :: a3 :: a4 :: a5 :: a6 :: a7 :: a8 :: a9 :: a10 :: a11 :: a12 :: r)) (v := .int x) (by show 12 < _; simp only [List.length_cons]; omega) (fun w _ hw => jnl_at hn hw)) k
theorem j_lstore_12 {a0 a1 a2 a3 a4 a5 a6 a7 a8 a9 a10 a11 a12 a13 : Option Value} {x : Int64} (hd : decode cc pc = .ok (.lstore 12, 2)) (hn : jnl a11 = true) (k : J G own cc nL ini d Q ac sc h (pc + 2) (a0 :: a1 :: a2 :: a3 :: a4 :: a5 :: a6 :: a7 :: a8 :: a9 :: a10 :: a11 :: some (.long x) :: none :: r) st) : J G own cc nL ini d Q ac sc h pc (a0 :: a1 :: a2 :: a3 :: a4 :: a5 :: a6 :: a7 :: a8 :: a9 :: a10 :: a11 :: a12 :: a13 :: r) (.long x :: st) :=
  jg_lstore hd (by show 12 + 1 < _; simp only [List.length_cons]; omega) (jput_set2 (lo := (a0 :: a1 :: a2 :: a3 :: a4 :: a5 :: a6 :: a7 :: a8 :: a9 :: a10 :: a11 :: a12 :: a13 :: r)) (v := .long x) (by show 12 + 1 < _; simp only [List.length_cons]; omega) (fun w _ hw => jnl_at hn hw)) k
theorem j_iinc_12 {a0 a1 a2 a3 a4 a5 a6 a7 a8 a9 a10 a11 : Option Value} {n : Int} {x v : Int32} (hd : decode cc pc = .ok (.iinc 12 n, 3)) (hv : x + Int32.ofInt n = v) (hn : jnl a11 = true) (k : J G own cc nL ini d Q ac sc h (pc + 3) (a0 :: a1 :: a2 :: a3 :: a4 :: a5 :: a6 :: a7 :: a8 :: a9 :: a10 :: a11 :: some (.int v) :: r) st) : J G own cc nL ini d Q ac sc h pc (a0 :: a1 :: a2 :: a3 :: a4 :: a5 :: a6 :: a7 :: a8 :: a9 :: a10 :: a11 :: some (.int x) :: r) st :=
  jg_iinc hd rfl hv (jput_set (lo := (a0 :: a1 :: a2 :: a3 :: a4 :: a5 :: a6 :: a7 :: a8 :: a9 :: a10 :: a11 :: some (.int x) :: r)) (v := .int v) (by simp) (fun w _ hw => jnl_at hn hw)) k
theorem j_forget_12 {a0 a1 a2 a3 a4 a5 a6 a7 a8 a9 a10 a11 a12 : Option Value} (k : J G own cc nL ini d Q ac sc h pc (a0 :: a1 :: a2 :: a3 :: a4 :: a5 :: a6 :: a7 :: a8 :: a9 :: a10 :: a11 :: none :: r) st) : J G own cc nL ini d Q ac sc h pc (a0 :: a1 :: a2 :: a3 :: a4 :: a5 :: a6 :: a7 :: a8 :: a9 :: a10 :: a11 :: a12 :: r) st :=
  j_forget ⟨by simp, fun j w hj => by
    have e : (a0 :: a1 :: a2 :: a3 :: a4 :: a5 :: a6 :: a7 :: a8 :: a9 :: a10 :: a11 :: none :: r) = ((a0 :: a1 :: a2 :: a3 :: a4 :: a5 :: a6 :: a7 :: a8 :: a9 :: a10 :: a11 :: a12 :: r) : List (Option Value)).set 12 none := rfl
    rw [e] at hj
    by_cases z : j = 12
    · subst z; simp at hj
    · rwa [List.getElem?_set_ne (Ne.symm z)] at hj⟩ k
theorem j_istore_13 {a0 a1 a2 a3 a4 a5 a6 a7 a8 a9 a10 a11 a12 a13 : Option Value} {x : Int32} (hd : decode cc pc = .ok (.istore 13, 2)) (hn : jnl a12 = true) (k : J G own cc nL ini d Q ac sc h (pc + 2) (a0 :: a1 :: a2 :: a3 :: a4 :: a5 :: a6 :: a7 :: a8 :: a9 :: a10 :: a11 :: a12 :: some (.int x) :: r) st) : J G own cc nL ini d Q ac sc h pc (a0 :: a1 :: a2 :: a3 :: a4 :: a5 :: a6 :: a7 :: a8 :: a9 :: a10 :: a11 :: a12 :: a13 :: r) (.int x :: st) :=
  jg_istore hd (by show 13 < _; simp only [List.length_cons]; omega) (jput_set (lo := (a0 :: a1 :: a2 :: a3 :: a4 :: a5 :: a6 :: a7 :: a8 :: a9 :: a10 :: a11 :: a12 :: a13 :: r)) (v := .int x) (by show 13 < _; simp only [List.length_cons]; omega) (fun w _ hw => jnl_at hn hw)) k
theorem j_lstore_13 {a0 a1 a2 a3 a4 a5 a6 a7 a8 a9 a10 a11 a12 a13 a14 : Option Value} {x : Int64} (hd : decode cc pc = .ok (.lstore 13, 2)) (hn : jnl a12 = true) (k : J G own cc nL ini d Q ac sc h (pc + 2) (a0 :: a1 :: a2 :: a3 :: a4 :: a5 :: a6 :: a7 :: a8 :: a9 :: a10 :: a11 :: a12 :: some (.long x) :: none :: r) st) : J G own cc nL ini d Q ac sc h pc (a0 :: a1 :: a2 :: a3 :: a4 :: a5 :: a6 :: a7 :: a8 :: a9 :: a10 :: a11 :: a12 :: a13 :: a14 :: r) (.long x :: st) :=
  jg_lstore hd (by show 13 + 1 < _; simp only [List.length_cons]; omega) (jput_set2 (lo := (a0 :: a1 :: a2 :: a3 :: a4 :: a5 :: a6 :: a7 :: a8 :: a9 :: a10 :: a11 :: a12 :: a13 :: a14 :: r)) (v := .long x) (by show 13 + 1 < _; simp only [List.length_cons]; omega) (fun w _ hw => jnl_at hn hw)) k
theorem j_iinc_13 {a0 a1 a2 a3 a4 a5 a6 a7 a8 a9 a10 a11 a12 : Option Value} {n : Int} {x v : Int32} (hd : decode cc pc = .ok (.iinc 13 n, 3)) (hv : x + Int32.ofInt n = v) (hn : jnl a12 = true) (k : J G own cc nL ini d Q ac sc h (pc + 3) (a0 :: a1 :: a2 :: a3 :: a4 :: a5 :: a6 :: a7 :: a8 :: a9 :: a10 :: a11 :: a12 :: some (.int v) :: r) st) : J G own cc nL ini d Q ac sc h pc (a0 :: a1 :: a2 :: a3 :: a4 :: a5 :: a6 :: a7 :: a8 :: a9 :: a10 :: a11 :: a12 :: some (.int x) :: r) st :=
  jg_iinc hd rfl hv (jput_set (lo := (a0 :: a1 :: a2 :: a3 :: a4 :: a5 :: a6 :: a7 :: a8 :: a9 :: a10 :: a11 :: a12 :: some (.int x) :: r)) (v := .int v) (by simp) (fun w _ hw => jnl_at hn hw)) k
theorem j_forget_13 {a0 a1 a2 a3 a4 a5 a6 a7 a8 a9 a10 a11 a12 a13 : Option Value} (k : J G own cc nL ini d Q ac sc h pc (a0 :: a1 :: a2 :: a3 :: a4 :: a5 :: a6 :: a7 :: a8 :: a9 :: a10 :: a11 :: a12 :: none :: r) st) : J G own cc nL ini d Q ac sc h pc (a0 :: a1 :: a2 :: a3 :: a4 :: a5 :: a6 :: a7 :: a8 :: a9 :: a10 :: a11 :: a12 :: a13 :: r) st :=
  j_forget ⟨by simp, fun j w hj => by
    have e : (a0 :: a1 :: a2 :: a3 :: a4 :: a5 :: a6 :: a7 :: a8 :: a9 :: a10 :: a11 :: a12 :: none :: r) = ((a0 :: a1 :: a2 :: a3 :: a4 :: a5 :: a6 :: a7 :: a8 :: a9 :: a10 :: a11 :: a12 :: a13 :: r) : List (Option Value)).set 13 none := rfl
    rw [e] at hj
    by_cases z : j = 13
    · subst z; simp at hj
    · rwa [List.getElem?_set_ne (Ne.symm z)] at hj⟩ k
theorem j_istore_14 {a0 a1 a2 a3 a4 a5 a6 a7 a8 a9 a10 a11 a12 a13 a14 : Option Value} {x : Int32} (hd : decode cc pc = .ok (.istore 14, 2)) (hn : jnl a13 = true) (k : J G own cc nL ini d Q ac sc h (pc + 2) (a0 :: a1 :: a2 :: a3 :: a4 :: a5 :: a6 :: a7 :: a8 :: a9 :: a10 :: a11 :: a12 :: a13 :: some (.int x) :: r) st) : J G own cc nL ini d Q ac sc h pc (a0 :: a1 :: a2 :: a3 :: a4 :: a5 :: a6 :: a7 :: a8 :: a9 :: a10 :: a11 :: a12 :: a13 :: a14 :: r) (.int x :: st) :=
  jg_istore hd (by show 14 < _; simp only [List.length_cons]; omega) (jput_set (lo := (a0 :: a1 :: a2 :: a3 :: a4 :: a5 :: a6 :: a7 :: a8 :: a9 :: a10 :: a11 :: a12 :: a13 :: a14 :: r)) (v := .int x) (by show 14 < _; simp only [List.length_cons]; omega) (fun w _ hw => jnl_at hn hw)) k
theorem j_lstore_14 {a0 a1 a2 a3 a4 a5 a6 a7 a8 a9 a10 a11 a12 a13 a14 a15 : Option Value} {x : Int64} (hd : decode cc pc = .ok (.lstore 14, 2)) (hn : jnl a13 = true) (k : J G own cc nL ini d Q ac sc h (pc + 2) (a0 :: a1 :: a2 :: a3 :: a4 :: a5 :: a6 :: a7 :: a8 :: a9 :: a10 :: a11 :: a12 :: a13 :: some (.long x) :: none :: r) st) : J G own cc nL ini d Q ac sc h pc (a0 :: a1 :: a2 :: a3 :: a4 :: a5 :: a6 :: a7 :: a8 :: a9 :: a10 :: a11 :: a12 :: a13 :: a14 :: a15 :: r) (.long x :: st) :=
  jg_lstore hd (by show 14 + 1 < _; simp only [List.length_cons]; omega) (jput_set2 (lo := (a0 :: a1 :: a2 :: a3 :: a4 :: a5 :: a6 :: a7 :: a8 :: a9 :: a10 :: a11 :: a12 :: a13 :: a14 :: a15 :: r)) (v := .long x) (by show 14 + 1 < _; simp only [List.length_cons]; omega) (fun w _ hw => jnl_at hn hw)) k
theorem j_iinc_14 {a0 a1 a2 a3 a4 a5 a6 a7 a8 a9 a10 a11 a12 a13 : Option Value} {n : Int} {x v : Int32} (hd : decode cc pc = .ok (.iinc 14 n, 3)) (hv : x + Int32.ofInt n = v) (hn : jnl a13 = true) (k : J G own cc nL ini d Q ac sc h (pc + 3) (a0 :: a1 :: a2 :: a3 :: a4 :: a5 :: a6 :: a7 :: a8 :: a9 :: a10 :: a11 :: a12 :: a13 :: some (.int v) :: r) st) : J G own cc nL ini d Q ac sc h pc (a0 :: a1 :: a2 :: a3 :: a4 :: a5 :: a6 :: a7 :: a8 :: a9 :: a10 :: a11 :: a12 :: a13 :: some (.int x) :: r) st :=
  jg_iinc hd rfl hv (jput_set (lo := (a0 :: a1 :: a2 :: a3 :: a4 :: a5 :: a6 :: a7 :: a8 :: a9 :: a10 :: a11 :: a12 :: a13 :: some (.int x) :: r)) (v := .int v) (by simp) (fun w _ hw => jnl_at hn hw)) k
theorem j_forget_14 {a0 a1 a2 a3 a4 a5 a6 a7 a8 a9 a10 a11 a12 a13 a14 : Option Value} (k : J G own cc nL ini d Q ac sc h pc (a0 :: a1 :: a2 :: a3 :: a4 :: a5 :: a6 :: a7 :: a8 :: a9 :: a10 :: a11 :: a12 :: a13 :: none :: r) st) : J G own cc nL ini d Q ac sc h pc (a0 :: a1 :: a2 :: a3 :: a4 :: a5 :: a6 :: a7 :: a8 :: a9 :: a10 :: a11 :: a12 :: a13 :: a14 :: r) st :=
  j_forget ⟨by simp, fun j w hj => by
    have e : (a0 :: a1 :: a2 :: a3 :: a4 :: a5 :: a6 :: a7 :: a8 :: a9 :: a10 :: a11 :: a12 :: a13 :: none :: r) = ((a0 :: a1 :: a2 :: a3 :: a4 :: a5 :: a6 :: a7 :: a8 :: a9 :: a10 :: a11 :: a12 :: a13 :: a14 :: r) : List (Option Value)).set 14 none := rfl
    rw [e] at hj
    by_cases z : j = 14
    · subst z; simp at hj
    · rwa [List.getElem?_set_ne (Ne.symm z)] at hj⟩ k
/-- a truth value as an int -/
def jb (b : Bool) : Int32 := if b then 1 else 0
theorem jb_0 {b : Bool} : jb b = 0 ↔ b = false := by cases b <;> decide
theorem jb_1 {b : Bool} : ¬ jb b = 0 ↔ b = true := by cases b <;> decide
theorem jRv_jb (b : Bool) : jRv (some .boolean) (some (.int (jb b))) := jRv_b b
variable {lo : List (Option Value)}
theorem j_if_eqB {b : Bool} {off : Int} {tgt : Nat} (hd : decode cc pc = .ok (.ifCond .eq off, 3)) (ht : (pc : Int) + off = (tgt : Int)) (kt : b = false → J G own cc nL ini d Q ac sc h tgt lo st) (kf : b = true → J G own cc nL ini d Q ac sc h (pc + 3) lo st) : J G own cc nL ini d Q ac sc h pc lo (.int (jb b) :: st) := j_if_eq hd ht (fun z => kt (jb_0.mp z)) (fun z => kf (jb_1.mp z))
theorem j_if_neB {b : Bool} {off : Int} {tgt : Nat} (hd : decode cc pc = .ok (.ifCond .ne off, 3)) (ht : (pc : Int) + off = (tgt : Int)) (kt : b = true → J G own cc nL ini d Q ac sc h tgt lo st) (kf : b = false → J G own cc nL ini d Q ac sc h (pc + 3) lo st) : J G own cc nL ini d Q ac sc h pc lo (.int (jb b) :: st) := j_if_ne hd ht (fun z => kt (jb_1.mp z)) (fun z => kf (jb_0.mp z))
theorem k_if_lt {x : Int32} {off : Int} {tgt : Nat} (hd : decode cc pc = .ok (.ifCond .lt off, 3)) (ht : (pc : Int) + off = (tgt : Int)) (kt : x < 0 → ¬ 0 ≤ x → J G own cc nL ini d Q ac sc h tgt lo st) (kf : ¬ x < 0 → 0 ≤ x → J G own cc nL ini d Q ac sc h (pc + 3) lo st) : J G own cc nL ini d Q ac sc h pc lo (.int x :: st) := j_if_lt hd ht (fun z => kt z (Int32.not_le.mpr z)) (fun z => kf z (Int32.not_lt.mp z))
theorem k_if_ge {x : Int32} {off : Int} {tgt : Nat} (hd : decode cc pc = .ok (.ifCond .ge off, 3)) (ht : (pc : Int) + off = (tgt : Int)) (kt : 0 ≤ x → ¬ x < 0 → J G own cc nL ini d Q ac sc h tgt lo st) (kf : ¬ 0 ≤ x → x < 0 → J G own cc nL ini d Q ac sc h (pc + 3) lo st) : J G own cc nL ini d Q ac sc h pc lo (.int x :: st) := j_if_ge hd ht (fun z => kt z (Int32.not_lt.mpr z)) (fun z => kf z (Int32.not_le.mp z))
theorem k_if_gt {x : Int32} {off : Int} {tgt : Nat} (hd : decode cc pc = .ok (.ifCond .gt off, 3)) (ht : (pc : Int) + off = (tgt : Int)) (kt : 0 < x → ¬ x ≤ 0 → J G own cc nL ini d Q ac sc h tgt lo st) (kf : ¬ 0 < x → x ≤ 0 → J G own cc nL ini d Q ac sc h (pc + 3) lo st) : J G own cc nL ini d Q ac sc h pc lo (.int x :: st) := j_if_gt hd ht (fun z => kt z (Int32.not_le.mpr z)) (fun z => kf z (Int32.not_lt.mp z))
theorem k_if_le {x : Int32} {off : Int} {tgt : Nat} (hd : decode cc pc = .ok (.ifCond .le off, 3)) (ht : (pc : Int) + off = (tgt : Int)) (kt : x ≤ 0 → ¬ 0 < x → J G own cc nL ini d Q ac sc h tgt lo st) (kf : ¬ x ≤ 0 → 0 < x → J G own cc nL ini d Q ac sc h (pc + 3) lo st) : J G own cc nL ini d Q ac sc h pc lo (.int x :: st) := j_if_le hd ht (fun z => kt z (Int32.not_lt.mpr z)) (fun z => kf z (Int32.not_le.mp z))
theorem k_icmp_lt {x y : Int32} {off : Int} {tgt : Nat} (hd : decode cc pc = .ok (.if_icmp .lt off, 3)) (ht : (pc : Int) + off = (tgt : Int)) (kt : x < y → ¬ y ≤ x → J G own cc nL ini d Q ac sc h tgt lo st) (kf : ¬ x < y → y ≤ x → J G own cc nL ini d Q ac sc h (pc + 3) lo st) : J G own cc nL ini d Q ac sc h pc lo (.int y :: .int x :: st) := j_icmp_lt hd ht (fun z => kt z (Int32.not_le.mpr z)) (fun z => kf z (Int32.not_lt.mp z))
theorem k_icmp_ge {x y : Int32} {off : Int} {tgt : Nat} (hd : decode cc pc = .ok (.if_icmp .ge off, 3)) (ht : (pc : Int) + off = (tgt : Int)) (kt : y ≤ x → ¬ x < y → J G own cc nL ini d Q ac sc h tgt lo st) (kf : ¬ y ≤ x → x < y → J G own cc nL ini d Q ac sc h (pc + 3) lo st) : J G own cc nL ini d Q ac sc h pc lo (.int y :: .int x :: st) := j_icmp_ge hd ht (fun z => kt z (Int32.not_lt.mpr z)) (fun z => kf z (Int32.not_le.mp z))
theorem k_icmp_gt {x y : Int32} {off : Int} {tgt : Nat} (hd : decode cc pc = .ok (.if_icmp .gt off, 3)) (ht : (pc : Int) + off = (tgt : Int)) (kt : y < x → ¬ x ≤ y → J G own cc nL ini d Q ac sc h tgt lo st) (kf : ¬ y < x → x ≤ y → J G own cc nL ini d Q ac sc h (pc + 3) lo st) : J G own cc nL ini d Q ac sc h pc lo (.int y :: .int x :: st) := j_icmp_gt hd ht (fun z => kt z (Int32.not_le.mpr z)) (fun z => kf z (Int32.not_lt.mp z))
theorem k_icmp_le {x y : Int32} {off : Int} {tgt : Nat} (hd : decode cc pc = .ok (.if_icmp .le off, 3)) (ht : (pc : Int) + off = (tgt : Int)) (kt : x ≤ y → ¬ y < x → J G own cc nL ini d Q ac sc h tgt lo st) (kf : ¬ x ≤ y → y < x → J G own cc nL ini d Q ac sc h (pc + 3) lo st) : J G own cc nL ini d Q ac sc h pc lo (.int y :: .int x :: st) := j_icmp_le hd ht (fun z => kt z (Int32.not_lt.mpr z)) (fun z => kf z (Int32.not_le.mp z))
end JR5
section JR6
variable {G : jG} {own : String} {cc : ByteArray} {nL : Nat} {ini : Bool} {d : Nat} {Q : Option Value → jH → Prop} {ac sc : Nat} {pc : Nat} {lo : List (Option Value)} {st : List Value} {h h' : jH} {v : Option Value}
variable {y : MethodName} {cc' : ByteArray} {nL' d' mc ms idx : Nat} {ret' : Option FieldType}
theorem j_callV0 {a ci : Nat} (hd : decode cc pc = .ok (.invokevirtual idx, 3)) (hM' : MT G y cc' nL' ret' d' mc ms (.ref a :: []) h v h') (hl : Cond.methodLink own idx y ∈ jTs) (hy : jMY y cc' nL' ret' 0) (hi : Cond.instanceMethod y ∈ jTs ∧ Cond.selects y.cls y y ∈ jTs) (ho : jO h.1 h.2.1 a ci) (hc0 : vwCl[ci]?.map (fun q => q.1) = some y.cls) (hdd : d' + 1 ≤ d) (hm : nL' ≤ 45) (hst : (st.map fun v => v.category).sum ≤ 8) (k : J G own cc nL ini d Q ac sc h' (pc + 3) lo (v.toList ++ st)) : J G own cc nL ini d Q (ac + mc) (sc + ms) h pc lo (.ref a :: st) := jg_callV (As := []) hd hM' hl hy hi ho hc0 rfl hdd hm hst rfl k
theorem j_callI0 {a : Nat} (hd : decode cc pc = .ok (.invokespecial idx, 3)) (hM' : MT G y cc' nL' none d' mc ms (.ref a :: []) h v h') (hl : Cond.methodLink own idx y ∈ jTs) (hy : jMY y cc' nL' none 0) (hi : Cond.instanceMethod y ∈ jTs) (hyn : y.name = "<init>") (hdd : d' + 1 ≤ d) (hm : nL' ≤ 45) (hst : (st.map fun v => v.category).sum ≤ 8) (k : J G own cc nL ini d Q ac sc h' (pc + 3) lo (v.toList ++ st)) : J G own cc nL ini d Q (ac + mc) (sc + ms) h pc lo (.ref a :: st) := jg_callI (As := []) hd hM' hl hy hi hyn rfl hdd hm hst rfl k
theorem j_callIN0 {a : Nat} {host : String} (hd : decode cc pc = .ok (.invokespecial idx, 3)) (hM' : MT G y cc' nL' none d' mc ms (.ref a :: []) h v h') (hl : ∀ s : State, jS G s → va_Nw (.methodLinkNest own idx y host) s) (hy : jMY y cc' nL' none 0) (hi : Cond.instanceMethod y ∈ jTs) (hyn : y.name = "<init>") (hdd : d' + 1 ≤ d) (hm : nL' ≤ 45) (hst : (st.map fun v => v.category).sum ≤ 8) (k : J G own cc nL ini d Q ac sc h' (pc + 3) lo (v.toList ++ st)) : J G own cc nL ini d Q (ac + mc) (sc + ms) h pc lo (.ref a :: st) := jg_callIN (As := []) hd hM' hl hy hi hyn rfl hdd hm hst rfl k
theorem j_callV1 {a ci : Nat} {x1 : Value} (hd : decode cc pc = .ok (.invokevirtual idx, 3)) (hM' : MT G y cc' nL' ret' d' mc ms (.ref a :: [x1]) h v h') (hl : Cond.methodLink own idx y ∈ jTs) (hy : jMY y cc' nL' ret' 1) (hi : Cond.instanceMethod y ∈ jTs ∧ Cond.selects y.cls y y ∈ jTs) (ho : jO h.1 h.2.1 a ci) (hc0 : vwCl[ci]?.map (fun q => q.1) = some y.cls) (hdd : d' + 1 ≤ d) (hm : nL' ≤ 45) (hst : (st.map fun v => v.category).sum ≤ 8) (k : J G own cc nL ini d Q ac sc h' (pc + 3) lo (v.toList ++ st)) : J G own cc nL ini d Q (ac + mc) (sc + ms) h pc lo (x1 :: .ref a :: st) := jg_callV (As := [x1]) hd hM' hl hy hi ho hc0 rfl hdd hm hst rfl k
theorem j_callS1 {x1 : Value} (hd : decode cc pc = .ok (.invokestatic idx, 3)) (hM' : MT G y cc' nL' ret' d' mc ms [x1] h v h') (hl : Cond.methodLink own idx y ∈ jTs) (hy : jMY y cc' nL' ret' 1) (hi : Cond.static y ∈ jTs) (hdd : d' + 1 ≤ d) (hm : nL' ≤ 45) (hst : (st.map fun v => v.category).sum ≤ 8) (k : J G own cc nL ini d Q ac sc h' (pc + 3) lo (v.toList ++ st)) : J G own cc nL ini d Q (ac + mc) (sc + ms) h pc lo (x1 :: st) := jg_callS (As := [x1]) hd hM' hl hy hi rfl hdd hm hst rfl k
theorem j_callI1 {a : Nat} {x1 : Value} (hd : decode cc pc = .ok (.invokespecial idx, 3)) (hM' : MT G y cc' nL' none d' mc ms (.ref a :: [x1]) h v h') (hl : Cond.methodLink own idx y ∈ jTs) (hy : jMY y cc' nL' none 1) (hi : Cond.instanceMethod y ∈ jTs) (hyn : y.name = "<init>") (hdd : d' + 1 ≤ d) (hm : nL' ≤ 45) (hst : (st.map fun v => v.category).sum ≤ 8) (k : J G own cc nL ini d Q ac sc h' (pc + 3) lo (v.toList ++ st)) : J G own cc nL ini d Q (ac + mc) (sc + ms) h pc lo (x1 :: .ref a :: st) := jg_callI (As := [x1]) hd hM' hl hy hi hyn rfl hdd hm hst rfl k
theorem j_callIN1 {a : Nat} {host : String} {x1 : Value} (hd : decode cc pc = .ok (.invokespecial idx, 3)) (hM' : MT G y cc' nL' none d' mc ms (.ref a :: [x1]) h v h') (hl : ∀ s : State, jS G s → va_Nw (.methodLinkNest own idx y host) s) (hy : jMY y cc' nL' none 1) (hi : Cond.instanceMethod y ∈ jTs) (hyn : y.name = "<init>") (hdd : d' + 1 ≤ d) (hm : nL' ≤ 45) (hst : (st.map fun v => v.category).sum ≤ 8) (k : J G own cc nL ini d Q ac sc h' (pc + 3) lo (v.toList ++ st)) : J G own cc nL ini d Q (ac + mc) (sc + ms) h pc lo (x1 :: .ref a :: st) := jg_callIN (As := [x1]) hd hM' hl hy hi hyn rfl hdd hm hst rfl k
theorem j_callV2 {a ci : Nat} {x1 x2 : Value} (hd : decode cc pc = .ok (.invokevirtual idx, 3)) (hM' : MT G y cc' nL' ret' d' mc ms (.ref a :: [x1, x2]) h v h') (hl : Cond.methodLink own idx y ∈ jTs) (hy : jMY y cc' nL' ret' 2) (hi : Cond.instanceMethod y ∈ jTs ∧ Cond.selects y.cls y y ∈ jTs) (ho : jO h.1 h.2.1 a ci) (hc0 : vwCl[ci]?.map (fun q => q.1) = some y.cls) (hdd : d' + 1 ≤ d) (hm : nL' ≤ 45) (hst : (st.map fun v => v.category).sum ≤ 8) (k : J G own cc nL ini d Q ac sc h' (pc + 3) lo (v.toList ++ st)) : J G own cc nL ini d Q (ac + mc) (sc + ms) h pc lo (x2 :: x1 :: .ref a :: st) := jg_callV (As := [x1, x2]) hd hM' hl hy hi ho hc0 rfl hdd hm hst rfl k
theorem j_callS2 {x1 x2 : Value} (hd : decode cc pc = .ok (.invokestatic idx, 3)) (hM' : MT G y cc' nL' ret' d' mc ms [x1, x2] h v h') (hl : Cond.methodLink own idx y ∈ jTs) (hy : jMY y cc' nL' ret' 2) (hi : Cond.static y ∈ jTs) (hdd : d' + 1 ≤ d) (hm : nL' ≤ 45) (hst : (st.map fun v => v.category).sum ≤ 8) (k : J G own cc nL ini d Q ac sc h' (pc + 3) lo (v.toList ++ st)) : J G own cc nL ini d Q (ac + mc) (sc + ms) h pc lo (x2 :: x1 :: st) := jg_callS (As := [x1, x2]) hd hM' hl hy hi rfl hdd hm hst rfl k
theorem j_callV3 {a ci : Nat} {x1 x2 x3 : Value} (hd : decode cc pc = .ok (.invokevirtual idx, 3)) (hM' : MT G y cc' nL' ret' d' mc ms (.ref a :: [x1, x2, x3]) h v h') (hl : Cond.methodLink own idx y ∈ jTs) (hy : jMY y cc' nL' ret' 3) (hi : Cond.instanceMethod y ∈ jTs ∧ Cond.selects y.cls y y ∈ jTs) (ho : jO h.1 h.2.1 a ci) (hc0 : vwCl[ci]?.map (fun q => q.1) = some y.cls) (hdd : d' + 1 ≤ d) (hm : nL' ≤ 45) (hst : (st.map fun v => v.category).sum ≤ 8) (k : J G own cc nL ini d Q ac sc h' (pc + 3) lo (v.toList ++ st)) : J G own cc nL ini d Q (ac + mc) (sc + ms) h pc lo (x3 :: x2 :: x1 :: .ref a :: st) := jg_callV (As := [x1, x2, x3]) hd hM' hl hy hi ho hc0 rfl hdd hm hst rfl k
theorem j_callS3 {x1 x2 x3 : Value} (hd : decode cc pc = .ok (.invokestatic idx, 3)) (hM' : MT G y cc' nL' ret' d' mc ms [x1, x2, x3] h v h') (hl : Cond.methodLink own idx y ∈ jTs) (hy : jMY y cc' nL' ret' 3) (hi : Cond.static y ∈ jTs) (hdd : d' + 1 ≤ d) (hm : nL' ≤ 45) (hst : (st.map fun v => v.category).sum ≤ 8) (k : J G own cc nL ini d Q ac sc h' (pc + 3) lo (v.toList ++ st)) : J G own cc nL ini d Q (ac + mc) (sc + ms) h pc lo (x3 :: x2 :: x1 :: st) := jg_callS (As := [x1, x2, x3]) hd hM' hl hy hi rfl hdd hm hst rfl k
theorem j_callSN3 {host : String} {x1 x2 x3 : Value} (hd : decode cc pc = .ok (.invokestatic idx, 3)) (hM' : MT G y cc' nL' ret' d' mc ms [x1, x2, x3] h v h') (hl : ∀ s : State, jS G s → va_Nw (.methodLinkNest own idx y host) s) (hy : jMY y cc' nL' ret' 3) (hi : Cond.static y ∈ jTs) (hdd : d' + 1 ≤ d) (hm : nL' ≤ 45) (hst : (st.map fun v => v.category).sum ≤ 8) (k : J G own cc nL ini d Q ac sc h' (pc + 3) lo (v.toList ++ st)) : J G own cc nL ini d Q (ac + mc) (sc + ms) h pc lo (x3 :: x2 :: x1 :: st) := jg_callSN (As := [x1, x2, x3]) hd hM' hl hy hi rfl hdd hm hst rfl k
theorem j_callV4 {a ci : Nat} {x1 x2 x3 x4 : Value} (hd : decode cc pc = .ok (.invokevirtual idx, 3)) (hM' : MT G y cc' nL' ret' d' mc ms (.ref a :: [x1, x2, x3, x4]) h v h') (hl : Cond.methodLink own idx y ∈ jTs) (hy : jMY y cc' nL' ret' 4) (hi : Cond.instanceMethod y ∈ jTs ∧ Cond.selects y.cls y y ∈ jTs) (ho : jO h.1 h.2.1 a ci) (hc0 : vwCl[ci]?.map (fun q => q.1) = some y.cls) (hdd : d' + 1 ≤ d) (hm : nL' ≤ 45) (hst : (st.map fun v => v.category).sum ≤ 8) (k : J G own cc nL ini d Q ac sc h' (pc + 3) lo (v.toList ++ st)) : J G own cc nL ini d Q (ac + mc) (sc + ms) h pc lo (x4 :: x3 :: x2 :: x1 :: .ref a :: st) := jg_callV (As := [x1, x2, x3, x4]) hd hM' hl hy hi ho hc0 rfl hdd hm hst rfl k
theorem j_callS4 {x1 x2 x3 x4 : Value} (hd : decode cc pc = .ok (.invokestatic idx, 3)) (hM' : MT G y cc' nL' ret' d' mc ms [x1, x2, x3, x4] h v h') (hl : Cond.methodLink own idx y ∈ jTs) (hy : jMY y cc' nL' ret' 4) (hi : Cond.static y ∈ jTs) (hdd : d' + 1 ≤ d) (hm : nL' ≤ 45) (hst : (st.map fun v => v.category).sum ≤ 8) (k : J G own cc nL ini d Q ac sc h' (pc + 3) lo (v.toList ++ st)) : J G own cc nL ini d Q (ac + mc) (sc + ms) h pc lo (x4 :: x3 :: x2 :: x1 :: st) := jg_callS (As := [x1, x2, x3, x4]) hd hM' hl hy hi rfl hdd hm hst rfl k
theorem j_callV5 {a ci : Nat} {x1 x2 x3 x4 x5 : Value} (hd : decode cc pc = .ok (.invokevirtual idx, 3)) (hM' : MT G y cc' nL' ret' d' mc ms (.ref a :: [x1, x2, x3, x4, x5]) h v h') (hl : Cond.methodLink own idx y ∈ jTs) (hy : jMY y cc' nL' ret' 5) (hi : Cond.instanceMethod y ∈ jTs ∧ Cond.selects y.cls y y ∈ jTs) (ho : jO h.1 h.2.1 a ci) (hc0 : vwCl[ci]?.map (fun q => q.1) = some y.cls) (hdd : d' + 1 ≤ d) (hm : nL' ≤ 45) (hst : (st.map fun v => v.category).sum ≤ 8) (k : J G own cc nL ini d Q ac sc h' (pc + 3) lo (v.toList ++ st)) : J G own cc nL ini d Q (ac + mc) (sc + ms) h pc lo (x5 :: x4 :: x3 :: x2 :: x1 :: .ref a :: st) := jg_callV (As := [x1, x2, x3, x4, x5]) hd hM' hl hy hi ho hc0 rfl hdd hm hst rfl k
theorem j_callS5 {x1 x2 x3 x4 x5 : Value} (hd : decode cc pc = .ok (.invokestatic idx, 3)) (hM' : MT G y cc' nL' ret' d' mc ms [x1, x2, x3, x4, x5] h v h') (hl : Cond.methodLink own idx y ∈ jTs) (hy : jMY y cc' nL' ret' 5) (hi : Cond.static y ∈ jTs) (hdd : d' + 1 ≤ d) (hm : nL' ≤ 45) (hst : (st.map fun v => v.category).sum ≤ 8) (k : J G own cc nL ini d Q ac sc h' (pc + 3) lo (v.toList ++ st)) : J G own cc nL ini d Q (ac + mc) (sc + ms) h pc lo (x5 :: x4 :: x3 :: x2 :: x1 :: st) := jg_callS (As := [x1, x2, x3, x4, x5]) hd hM' hl hy hi rfl hdd hm hst rfl k
end JR6
