/-! ===== mathematics: rings by unions of ways are rings by a choice of ways ===== -/
/-- a way of at least one step -/
def TC (R : Nat → Nat → Prop) (a b : Nat) : Prop := ∀ P : Nat → Prop, (∀ b, R a b → P b) → (∀ b c, P b → R b c → P c) → P b
theorem TC.base {R : Nat → Nat → Prop} {a b : Nat} (h : R a b) : TC R a b := fun _ h1 _ => h1 b h
theorem TC.step {R : Nat → Nat → Prop} {a b c : Nat} (h : TC R a b) (h2 : R b c) : TC R a c := fun P h1 hs => hs b c (h P h1 hs) h2
theorem TC.trans {R : Nat → Nat → Prop} {a b c : Nat} (h : TC R a b) (h2 : TC R b c) : TC R a c := h2 (fun c => TC R a c) (fun c hc => h.step hc) (fun b c hb hc => hb.step hc)
theorem TC.mono {R R' : Nat → Nat → Prop} (hR : ∀ a b, R a b → R' a b) {a b : Nat} (h : TC R a b) : TC R' a b := h (fun b => TC R' a b) (fun b hb => .base (hR _ _ hb)) (fun b c hb hc => hb.step (hR _ _ hc))
theorem psN_tb {t : Nat} {H : Nat → Nat} {p u : Nat} : (psN t H p).testBit u = true ↔ (H p).testBit u = true ∨ ((H p).testBit t = true ∧ (H t).testBit u = true) := by
  unfold psN
  by_cases c : (H p).testBit t = true
  · rw [if_pos c, Nat.testBit_or, Bool.or_eq_true]
    exact ⟨fun h => h.imp id (fun h => ⟨c, h⟩), fun h => h.imp id (fun h => h.2)⟩
  · rw [if_neg c]
    exact ⟨Or.inl, fun h => h.elim id (fun h => absurd h.1 c)⟩
theorem wsN_sub {H : Nat → Nat} {p u : Nat} (h : (H p).testBit u = true) : ∀ k, (wsN H k p).testBit u = true
  | 0 => h
  | k + 1 => psN_tb.mpr (Or.inl (wsN_sub h k))
theorem wsN_tc {H : Nat → Nat} : ∀ {k p u : Nat}, (wsN H k p).testBit u = true → TC (fun a b => (H a).testBit b = true) p u
  | 0, _, _, h => .base h
  | k + 1, p, u, h => by
    rcases psN_tb.mp h with h | ⟨h, h2⟩
    · exact wsN_tc h
    · exact (wsN_tc h).trans (wsN_tc h2)
theorem wsN_tr {H : Nat → Nat} : ∀ {k p t u : Nat}, t < k → (wsN H k p).testBit t = true → (wsN H k t).testBit u = true → (wsN H k p).testBit u = true
  | 0, _, _, _, h, _, _ => by omega
  | k + 1, p, t, u, h, h1, h2 => by
    have h1 := psN_tb.mp h1
    have h2 := psN_tb.mp h2
    refine psN_tb.mpr ?_
    by_cases e : t = k
    · subst e
      have h1 : (wsN H t p).testBit t = true := h1.elim id (fun z => z.1)
      have h2 : (wsN H t t).testBit u = true := h2.elim id (fun z => z.2)
      exact Or.inr ⟨h1, h2⟩
    · have htk : t < k := by omega
      rcases h1 with a | ⟨a, b⟩
      · rcases h2 with c | ⟨c, d⟩
        · exact Or.inl (wsN_tr htk a c)
        · exact Or.inr ⟨wsN_tr htk a c, d⟩
      · rcases h2 with c | ⟨c, d⟩
        · exact Or.inr ⟨a, wsN_tr htk b c⟩
        · exact Or.inr ⟨a, d⟩
theorem lt15_of {a t : Nat} (h : a < 2 ^ 15) (ht : a.testBit t = true) : t < 15 := by
  by_cases c : t < 15
  · exact c
  · have := Nat.testBit_lt_two_pow (x := a) (i := t) (Nat.lt_of_lt_of_le h (Nat.pow_le_pow_right (by decide) (by omega)))
    rw [this] at ht; cases ht
theorem ws_iff {H : Nat → Nat} (hH : ∀ p, p < 15 → H p < 2 ^ 15) {p t : Nat} (hp : p < 15) : (wsN H 15 p).testBit t = true ↔ TC (fun a b => (H a).testBit b = true) p t := by
  refine ⟨wsN_tc, fun h => ?_⟩
  refine (h (fun t => (wsN H 15 p).testBit t = true ∧ t < 15) (fun b hb => ⟨wsN_sub hb 15, lt15_of (hH p hp) hb⟩) (fun b c ih hb => ?_)).1
  exact ⟨wsN_tr ih.2 ih.1 (wsN_sub hb 15), lt15_of (hH b ih.2) hb⟩
section S84
variable {n : Nat} {sy : Nat → Nat → Nat} {op xp yp tr H : Nat → Nat}
/-- no equation stands at a child's synthesized place -/
def EqD (op : Nat → Nat) : Prop := ∀ r k, r < 14 → 1 ≤ k → k ≤ 4 → op (r * 15 + 3 * k) = 0 ∧ op (r * 15 + (3 * k + 1)) = 0
end S84
