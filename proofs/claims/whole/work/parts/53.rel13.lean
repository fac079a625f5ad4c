/-! WHAT WOULD BE: rounds, key -/
theorem jup_same {α : Type} (f : Nat → Nat → α) {a i : Nat} {v : α} (h : f a i = v) : jup f a i v = f := by
  funext x y
  rw [jup_at]
  by_cases e : x = a ∧ y = i
  · rw [if_pos e, e.1, e.2, h]
  · rw [if_neg e]
theorem go7 {c : jMem} {a w : Nat} (h : c (a + 2) w = 7) : tGo c a w = c := by
  unfold tGo
  rw [h]
  have e : (if 7 < (7 : Int32) + (if c 10 w = 2 then 2 else 1) then (7 : Int32) else 7 + (if c 10 w = 2 then 2 else 1)) = 7 := by
    by_cases z : c 10 w = 2
    · rw [if_pos z]; decide
    · rw [if_neg z]; decide
  rw [e]
  exact jup_same c h
/-- the trial towns, copied -/
theorem try_sim {p x u q n tl : Nat} {c m : jMem} (h : Rel p x u q n tl c m) : TR True p 20 52 (tCp c 20 14) (rCopy m 0 52) ∧ TI p 20 (tCp c 20 14) ∧ PR p (tCp c 20 14) (rCopy m 0 52) ∧ PI p (tCp c 20 14) ∧ (∀ a b, a < 20 ∨ 25 < a → tCp c 20 14 a b = c a b) ∧ (∀ a b, a ≠ 166 → rCopy m 0 52 a b = m a b) ∧ (∀ b, b < 52 ∨ 104 ≤ b → rCopy m 0 52 166 b = m 166 b) := by
  have hp := h.1.p5
  have f1 : ∀ a b, a < 20 ∨ 25 < a → tCp c 20 14 a b = c a b := fun a b ha => tc_out (by omega)
  have f2 : ∀ a b, a ≠ 166 → rCopy m 0 52 a b = m a b := fun a b ha => rCopy_lo _ _ _ ha
  exact ⟨h.2.2.1.1.copy hp twn_20 twn_14 (by decide) (by omega), h.2.2.1.2.copy hp twn_20 twn_14 (by decide), h.1.keep (fun a b ha => f1 a b (by omega)) (fun a b ha _ _ => f2 a b ha), h.2.1.keep (fun y => f1 _ _ (by omega)), f1, f2, fun b hb => cp_out (by omega) (by omega)⟩
theorem rds7 {w : Nat} {n : Int32} {s : jMem} (h7 : s (20 + 2) w = 7) (hc : ¬ (tWF s 20 w n = true ∧ tLI s 20 w = true)) : ∀ f i, (cRdsL w n f i s).1 = -4
  | 0, i => rfl
  | f + 1, i => by rw [cRdsL, if_neg hc, go7 h7]; exact rds7 h7 hc f (i + 1)
theorem rds_c {w : Nat} {n : Int32} {a b : Nat} (ha : a ≠ 22) : ∀ f i s, (cRdsL w n f i s).2 a b = s a b
  | 0, i, s => rfl
  | f + 1, i, s => by
    rw [cRdsL]
    split
    · rfl
    · rw [rds_c ha f (i + 1)]; exact jup_oth ha
theorem rds_r {k : Nat} {n : Int32} (hk : k < 5) {a b : Nat} (ha : a ≠ 166 ∨ b < 52 ∨ 104 ≤ b) : ∀ f i s, (rRnL k n f i s).2 a b = s a b
  | 0, i, s => rfl
  | f + 1, i, s => by
    rw [rRnL]
    split
    · rfl
    · split
      · rfl
      · rw [rds_r hk ha f (i + 1)]
        unfold rRo
        rw [jup_at, if_neg (by omega)]
theorem rds_sim {p w : Nat} {n : Int32} (hw : w < p) : ∀ (f i : Nat) (s t : jMem), PR p s t → TR True p 20 52 s t → TI p 20 s → (cRdsL w n f i s).1 = (rRnL w n f i t).1
  | 0, i, s, t, _, _, _ => rfl
  | f + 1, i, s, t, hP, hT, hi => by
    have e1 := hT.wf hw n
    have e2 := hT.lean hP hw
    have e3 := hT.rou w hw
    rw [show 52 + 12 + w = 64 + w by omega] at e2 e3
    have ec : (tWF s 20 w n = true ∧ tLI s 20 w = true) ↔ (rWF t 52 w n = true ∧ t 169 w ≤ t 166 (64 + w)) := by rw [e1, e2, decide_eq_true_iff]
    rw [rRnL]
    by_cases z : tWF s 20 w n = true ∧ tLI s 20 w = true
    · rw [cRdsL, if_pos z, if_pos (ec.mp z)]
    · rw [if_neg (fun y => z (ec.mpr y))]
      by_cases y : t 166 (64 + w) = 7
      · rw [if_pos y]; exact rds7 (e3.trans y) z (f + 1) i
      · rw [cRdsL, if_neg z, if_neg y]
        obtain ⟨s1, s2, s3, s4⟩ := round_sim (a := 20) (r := 52) (by omega) hP hT hi hw
        exact rds_sim hw f (i + 1) _ _ (hP.keep (fun a b ha => s4 a b (by omega)) (fun a b ha _ _ => by unfold rRo; exact jup_oth ha)) s1 s2
theorem s_rounds {p x u q n tl : Nat} {c m : jMem} (h : Rel p x u q n tl c m) (w k : Int32) : OKc c m (cRounds c w k).1 (cRounds c w k).2 (rRounds m w k).1 (rRounds m w k).2 := by
  have hP := h.1
  have hT := h.2.2.1
  have hp := hP.p5
  unfold cRounds rRounds
  by_cases z : xNW c w = true ∨ xOut k 1 9 = true
  · rw [if_pos z, if_neg (fun y => (g_wn hP w k).mp y z)]
    exact OKc.same h rfl
  · rw [if_neg z, if_pos ((g_wn hP w k).mpr z)]
    obtain ⟨j, k1, -, k3⟩ := hP.inw (Bool.eq_false_iff.mpr (fun y => z (Or.inl y)))
    rw [k3, hT.1.st k1]
    by_cases y : rSt m 0 j = true
    · rw [if_pos y, if_pos y]
      obtain ⟨t1, t2, t3, t4, t5, t6, t7⟩ := try_sim h
      refine OKc.asks h (rds_sim k1 8 0 _ _ t3 t1 t2) (fun a b ha => ?_) (fun a b ha => ?_)
      · rw [rds_c (by omega)]; exact t5 a b (by omega)
      · rw [rds_r (by omega) (by omega)]
        by_cases v : a = 166
        · subst v; exact t7 b (by omega)
        · exact t6 a b v
    · rw [if_neg y, if_neg y]; exact OKc.same h rfl
/-! key -/
def cdn (B : Nat → Bool) (p : Nat) : Int32 := it (fun w (c : Int32) => if B w = true then c else c + 1) p 0 0
def dst (B : Nat → Bool) (p : Nat) : Int32 := it (fun k (s : Int32) => s ||| (if B k = true then (0 : Int32) else 1 <<< (nI k &&& 31))) p 0 0
def kOK (A B : Nat → Bool) (p i : Nat) : Prop := cdn B p - cdn A p - (if B i = true then 0 else 1) = rOnes (dst B p &&& (dst A p ^^^ -1) &&& (((1 : Int32) <<< (nI i &&& 31)) ^^^ -1)) ∧ 0 ≤ (rOnes (dst B p &&& (dst A p ^^^ -1) &&& (((1 : Int32) <<< (nI i &&& 31)) ^^^ -1))).toInt
/-- five walls by a number: two bits each, down or up, before and after -/
def kB (b0 b1 b2 b3 b4 : Bool) : Nat → Bool
  | 0 => b0
  | 1 => b1
  | 2 => b2
  | 3 => b3
  | _ => b4
theorem kB_it {σ : Type} (f : Bool → Nat → σ → σ) (B : Nat → Bool) : ∀ (n i : Nat) (s : σ), i + n ≤ 5 → it (fun k s => f (B k) k s) n i s = it (fun k s => f (kB (B 0) (B 1) (B 2) (B 3) (B 4) k) k s) n i s
  | 0, _, _, _ => rfl
  | n + 1, i, s, h => by
    have e : B i = kB (B 0) (B 1) (B 2) (B 3) (B 4) i := by
      have : i = 0 ∨ i = 1 ∨ i = 2 ∨ i = 3 ∨ i = 4 := by omega
      rcases this with rfl | rfl | rfl | rfl | rfl <;> rfl
    rw [it, it, kB_it f B n (i + 1) _ (by omega), e]
theorem cdn_kB (B : Nat → Bool) {p : Nat} (hp : p ≤ 5) : cdn B p = cdn (kB (B 0) (B 1) (B 2) (B 3) (B 4)) p := kB_it (fun b _ (c : Int32) => if b = true then c else c + 1) B p 0 0 (by omega)
theorem dst_kB (B : Nat → Bool) {p : Nat} (hp : p ≤ 5) : dst B p = dst (kB (B 0) (B 1) (B 2) (B 3) (B 4)) p := kB_it (fun b k (s : Int32) => s ||| (if b = true then (0 : Int32) else 1 <<< (nI k &&& 31))) B p 0 0 (by omega)
