/-! ===== mathematics: least lookaheads over all items, and the lookaheads told by the ways by nonterminals, are the same ===== -/
/-- the number whose bits below N are those with P -/
noncomputable def bO (P : Nat → Prop) : Nat → Nat
  | 0 => 0
  | N + 1 => @ite Nat (P N) (Classical.propDecidable _) (bO P N ||| 2 ^ N) (bO P N)
theorem bO_tb {P : Nat → Prop} {t : Nat} : ∀ {N : Nat}, (bO P N).testBit t = true ↔ t < N ∧ P t
  | 0 => ⟨fun h => (by rw [show bO P 0 = 0 from rfl, Nat.zero_testBit] at h; cases h), fun h => (by omega)⟩
  | N + 1 => by
    by_cases hp : P N
    · rw [show bO P (N + 1) = bO P N ||| 2 ^ N from if_pos hp, Nat.testBit_or, Bool.or_eq_true, bO_tb, Nat.testBit_two_pow, decide_eq_true_eq]
      constructor
      · rintro (h | h)
        · exact ⟨by omega, h.2⟩
        · rw [← h]; exact ⟨by omega, hp⟩
      · intro h
        by_cases e : t = N
        · exact Or.inr e.symm
        · exact Or.inl ⟨by omega, h.2⟩
    · rw [show bO P (N + 1) = bO P N from if_neg hp, bO_tb]
      constructor
      · exact fun h => ⟨by omega, h.2⟩
      · intro h
        have : t ≠ N := fun e => hp (by rw [← e]; exact h.2)
        exact ⟨by omega, h.2⟩
theorem ntB_1 {x : Nat} (h : ¬ ntB x = 0) : 8 ≤ x ∧ x ≤ 13 := by
  unfold ntB at h
  split at h
  · assumption
  · exact absurd rfl h
theorem ntB_2 {x : Nat} (h : 8 ≤ x ∧ x ≤ 13) : ¬ ntB x = 0 := by
  unfold ntB; rw [if_pos h]; decide
theorem fsT_nt {f : Nat → Nat} {x : Nat} (h : 8 ≤ x) : fsT f x = f x := by unfold fsT; rw [if_neg (by omega)]
theorem fsT_tm {f : Nat → Nat} {x : Nat} (h : 1 ≤ x ∧ x ≤ 6) : fsT f x = 2 ^ x := by unfold fsT; rw [if_pos h]
theorem fsT_od {f : Nat → Nat} {x : Nat} (h1 : 1 ≤ x) (h7 : x ≠ 7) (h : fsT f x % 2 = 1) : 8 ≤ x := by
  by_cases c : x ≤ 6
  · rw [fsT_tm ⟨h1, c⟩] at h
    rcases (show x = 1 ∨ x = 2 ∨ x = 3 ∨ x = 4 ∨ x = 5 ∨ x = 6 by omega) with rfl | rfl | rfl | rfl | rfl | rfl <;> exact absurd h (by decide)
  · omega
section S81
variable {n S L0 : Nat} {sy : Nat → Nat → Nat} {T : Nat → Nat → Nat} {pr : Nat → Nat → Prop} {f TJ RD W A F0 F : Nat → Nat}
/-- the row of targets and its two sides -/
def TJP (TJ : Nat → Nat) (T : Nat → Nat → Nat) (S : Nat) : Prop := ∀ s x, s < S → 1 ≤ x → x < 14 → TJ (14 * s + x) = T s x
theorem bh_at {n : Nat} {sy : Nat → Nat → Nat} {r d : Nat} (gw : GW n sy) (hr : r < 15) (hd : d < lnR sy r) : bh sy (r * 5 + d) = sy r (d + 1) ∧ 1 ≤ sy r (d + 1) ∧ sy r (d + 1) < 14 ∧ sy r (d + 1) ≠ 7 := by
  have hl := lnR_le sy r
  have e1 : (r * 5 + d) / 5 = r := by omega
  have e2 : (r * 5 + d) % 5 = d := by omega
  refine ⟨?_, lnR_nz (by omega) (by omega), by have := gw.le (r := r) (k := d + 1) hr (by omega); omega, gw.ne7 hr (by omega)⟩
  rw [bh_lt (by rw [e1, e2]; exact hd), e1, e2]
theorem bh_ln {n : Nat} {sy : Nat → Nat → Nat} {it : Nat} (gw : GW n sy) (hi : it < 75) (h : bh sy it ≠ 0) : it % 5 < lnR sy (it / 5) := by
  by_cases c : it % 5 < lnR sy (it / 5)
  · exact c
  · exact absurd (bh_ge gw hi (by omega)) h
/-- one step: an item before a symbol -/
theorem lc_step (gw : GW n sy) (lc : LCt n sy T S pr) {p r d : Nat} (hp : p < S) (hr : r < 15) (hd : d < lnR sy r) (h : pr p (r * 5 + d)) : 0 < T p (sy r (d + 1)) ∧ T p (sy r (d + 1)) < S ∧ pr (T p (sy r (d + 1))) (r * 5 + (d + 1)) := by
  have hl := lnR_le sy r
  obtain ⟨b1, b2, b3, -⟩ := bh_at gw hr hd
  have := lc.2.2.2.2.1 p (r * 5 + d) hp (by omega) h (by rw [b1]; omega)
  rw [b1] at this
  exact ⟨this.1, lc.1.2.2 p _ hp b2 b3, this.2⟩
/-- the rules of a symbol by which one goes are in the state -/
theorem lc_rule (lc : LCt n sy T S pr) {p r : Nat} (gw : GW n sy) (hp : p < S) (hr : r < n) (h : 0 < T p (sy r 0)) : pr p (r * 5) := by
  have hlf := gw.2.2.1 r hr
  obtain ⟨it, i1, i2, i3⟩ := (lc.2.2.2.2.2.1 p (sy r 0) hp (by omega) (by omega) h).1
  exact lc.2.2.1 p hp it i1 i2 r hr i3.symm
/-- what can be read from a state on, as the ways tell it -/
def RDp (T : Nat → Nat → Nat) (f RD : Nat → Nat) (p t : Nat) : Prop := (1 ≤ t ∧ t ≤ 6 ∧ 0 < T p t) ∨ ∃ C, 8 ≤ C ∧ C < 14 ∧ f C % 2 = 1 ∧ 0 < T p C ∧ (RD (14 * p + C)).testBit t = true
/-- the bits of what an item gives -/
theorem giv_tb {it own t : Nat} (gw : GW n sy) (hi : it < 75) (hd : it % 5 < 4) : (giv f sy it own).testBit t = true ↔ (t ≠ 0 ∧ (sfx f sy (it / 5) (it % 5 + 1)).testBit t = true) ∨ (restE f sy (it / 5) (it % 5 + 1) ∧ own.testBit t = true) := by
  have e : ffN f (sy (it / 5)) (it % 5 + 2) (5 - (it % 5 + 2)) 1 = sfx f sy (it / 5) (it % 5 + 1) := by
    unfold sfx; congr 1; omega
  unfold giv
  rw [e]
  have hnul := sfx_nul (f := f) gw (show it / 5 < 15 by omega) (show it % 5 + 1 ≤ 4 by omega)
  by_cases c : sfx f sy (it / 5) (it % 5 + 1) % 2 = 1
  · rw [if_pos c, Nat.testBit_or, Bool.or_eq_true, tb_ev]
    exact ⟨fun h => h.imp id (fun h => ⟨hnul.mp c, h⟩), fun h => h.imp id (fun h => h.2)⟩
  · rw [if_neg c]
    constructor
    · intro h
      by_cases t0 : t = 0
      · subst t0; exact absurd (tb0.mp h) c
      · exact Or.inl ⟨t0, h⟩
    · rintro (h | h)
      · exact h.2
      · exact absurd (hnul.mpr h.1) c
end S81
