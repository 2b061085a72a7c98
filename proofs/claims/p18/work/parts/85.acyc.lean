/-! ===== mathematics: without rings a tree's attributes can be worked out ===== -/
theorem TC.head {R : Nat → Nat → Prop} {a c : Nat} (h : TC R a c) : ∃ b, R a b ∧ (b = c ∨ TC R b c) := by
  refine h (fun c => ∃ b, R a b ∧ (b = c ∨ TC R b c)) (fun b hb => ⟨b, hb, Or.inl rfl⟩) (fun b c ih hb => ?_)
  obtain ⟨d, h1, h2⟩ := ih
  refine ⟨d, h1, Or.inr ?_⟩
  rcases h2 with h2 | h2
  · rw [h2]; exact .base hb
  · exact h2.step hb
/-- the symbols of a tree fit -/
def TSY (sy : Nat → Nat → Nat) (md : Nat) (tb : Nat → Bool) (rl : Nat → Nat) (ch : Nat → Nat → Nat) : Prop := ∀ p k, p < md → tb p = false → 1 ≤ k → k ≤ lnR sy (rl p) → ch p k < p ∧ (8 ≤ sy (rl p) k → tb (ch p k) = false ∧ sy (rl (ch p k)) 0 = sy (rl p) k) ∧ (sy (rl p) k < 8 → tb (ch p k) = true)
section S85
variable {n md : Nat} {sy : Nat → Nat → Nat} {op xp yp tr : Nat → Nat} {nd : Nat → Int32} {tb : Nat → Bool} {rl : Nat → Nat} {pa : Nat → Option (Nat × Nat)} {ch : Nat → Nat → Nat}
/-- the values, worked out in f rounds -/
def vlF (op xp yp : Nat → Nat) (tb : Nat → Bool) (rl : Nat → Nat) (pa : Nat → Option (Nat × Nat)) (ch : Nat → Nat → Nat) (tv : Nat → Int64) : Nat → Nat → Int64
  | 0, _ => 0
  | f + 1, s => if tb (s / 3) = true then tv s else wkS op xp yp rl ch (vlF op xp yp tb rl pa ch tv f) (sCx pa s)
theorem wkS_cg {v v' : Nat → Int64} {o : Option (Nat × Nat)} (h1 : 2 ≤ opS op rl o → v (arS xp rl ch o) = v' (arS xp rl ch o)) (h2 : 3 ≤ opS op rl o → v (arS yp rl ch o) = v' (arS yp rl ch o)) : wkS op xp yp rl ch v o = wkS op xp yp rl ch v' o := by
  unfold wkS
  by_cases c0 : opS op rl o = 0
  · rw [if_pos c0, if_pos c0]
  · rw [if_neg c0, if_neg c0]
    by_cases c1 : opS op rl o = 1
    · rw [if_pos c1, if_pos c1]
    · rw [if_neg c1, if_neg c1, h1 (by omega)]
      by_cases c2 : opS op rl o = 2
      · unfold opr; rw [if_pos c2, if_pos c2]
      · rw [h2 (by omega)]
theorem sol_of {rk : Nat → Nat} (ac : AC md tb rl pa ch op xp yp rk) (hw : TW n sy md nd tb rl pa ch) (ev : EV n sy op xp yp) (tv : Nat → Int64) : ∃ val, SOL md tb rl pa ch op xp yp val ∧ ∀ s, tb (s / 3) = true → val s = tv s := by
  have key : ∀ N s, rk s < N → s < 3 * md → ∀ f f', N ≤ f → N ≤ f' → vlF op xp yp tb rl pa ch tv f s = vlF op xp yp tb rl pa ch tv f' s := by
    intro N
    induction N with
    | zero => intro s h; omega
    | succ N ih =>
      intro s hN hs f f' hf hf'
      obtain ⟨f, rfl⟩ : ∃ m, f = m + 1 := ⟨f - 1, by omega⟩
      obtain ⟨f', rfl⟩ : ∃ m, f' = m + 1 := ⟨f' - 1, by omega⟩
      show (if tb (s / 3) = true then tv s else _) = (if tb (s / 3) = true then tv s else _)
      cases hb : tb (s / 3) with
      | true => rfl
      | false =>
        rw [if_neg (by decide), if_neg (by decide)]
        obtain ⟨l1, l2⟩ := arM_lt hw ev hs hb
        obtain ⟨r1, r2⟩ := ac.2 s hs hb
        exact wkS_cg (fun o => ih _ (by have := r1 o; omega) (l1 o) f f' (by omega) (by omega)) (fun o => ih _ (by have := r2 o; omega) (l2 o) f f' (by omega) (by omega))
  refine ⟨vlF op xp yp tb rl pa ch tv 451, fun s hs hb => ?_, fun s hb => by show (if tb (s / 3) = true then tv s else _) = _; rw [if_pos hb]⟩
  show (if tb (s / 3) = true then tv s else _) = _
  rw [if_neg (by rw [hb]; decide)]
  obtain ⟨l1, l2⟩ := arM_lt hw ev hs hb
  exact wkS_cg (fun o => key 450 _ (ac.1 _ (l1 o)) (l1 o) 450 451 (by omega) (by omega)) (fun o => key 450 _ (ac.1 _ (l2 o)) (l2 o) 450 451 (by omega) (by omega))
end S85
