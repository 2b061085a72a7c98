/-! ===== mathematics: .. and the other way round ===== -/
section S82
variable {n S L0 : Nat} {sy : Nat → Nat → Nat} {T : Nat → Nat → Nat} {pr : Nat → Nat → Prop} {f TJ RD W A F0 F : Nat → Nat}
theorem lt7_of {a t : Nat} (h : a < 128) (ht : a.testBit t = true) : t < 7 := by
  by_cases c : t < 7
  · exact c
  · have := Nat.testBit_lt_two_pow (x := a) (i := t) (Nat.lt_of_lt_of_le h (by rw [show 128 = 2 ^ 7 from rfl]; exact Nat.pow_le_pow_right (by decide) (by omega)))
    rw [this] at ht; cases ht
theorem tb127 {a t : Nat} (h : t < 7) : (a &&& 127).testBit t = a.testBit t := by
  have : (127 : Nat).testBit t = true := by
    have h2 : ∀ t : Fin 7, (127 : Nat).testBit t.val = true := by decide
    exact h2 ⟨t, h⟩
  rw [Nat.testBit_and, this, Bool.and_true]
/-- what stands in the state to which one goes by x comes from what stands there before x -/
theorem sfx_back (gw : GW n sy) (lc : LCt n sy T S pr) (hf : isF n sy f) {s x : Nat} (hs : s < S) (hx : 1 ≤ x ∧ x < 14) (hp : 0 < T s x) {it u : Nat} (hi : it < 75) (h4 : it % 5 ≤ 4) (hpr : pr (T s x) it) (hu : u ≠ 0) (h : (sfx f sy (it / 5) (it % 5)).testBit u = true) :
    ∃ it', it' < 75 ∧ pr s it' ∧ bh sy it' = x ∧ (sfx f sy (it' / 5) (it' % 5 + 1)).testBit u = true := by
  have hn := gw.1
  refine (lc.2.2.2.2.2.1 s x hs hx.1 hx.2 hp).2.1 (fun it => (sfx f sy (it / 5) (it % 5)).testBit u = true → ∃ it', it' < 75 ∧ pr s it' ∧ bh sy it' = x ∧ (sfx f sy (it' / 5) (it' % 5 + 1)).testBit u = true) (fun it hi hpr hb h => ?_) (fun it hi ih r hr e h => ?_) it hi hpr h
  · have hd := bh_dot (sy := sy) (it := it) (by omega)
    rw [show (it + 1) / 5 = it / 5 by omega, show (it + 1) % 5 = it % 5 + 1 by omega] at h
    exact ⟨it, hi, hpr, hb, h⟩
  · have hlf := gw.2.2.1 r hr
    rw [show r * 5 / 5 = r by omega, show r * 5 % 5 = 0 by omega] at h
    have hb : bh sy it ≠ 0 := by omega
    have hdl := bh_ln gw hi hb
    have hbe := bh_lt hdl
    have h2 : (f (sy r 0)).testBit u = true := hf.1 r hr u h
    refine ih ((sfx_bit gw (by omega) (by omega) hu).mpr ⟨it % 5, Nat.le_refl _, hdl, ?_, fun j' a b => by omega⟩)
    rw [← hbe, ← e, fsT_nt hlf.1]; exact h2
theorem sfx_in (gw : GW n sy) {it x u : Nat} (hi : it < 75) (hb : bh sy it = x) (hx : x ≠ 0) (hu : u ≠ 0) (h : (fsT f x).testBit u = true ∨ (fsT f x % 2 = 1 ∧ (sfx f sy (it / 5) (it % 5 + 1)).testBit u = true)) : (sfx f sy (it / 5) (it % 5)).testBit u = true := by
  have hdl := bh_ln gw hi (by omega)
  have hbe := bh_lt hdl
  have hl4 := lnR_le sy (it / 5)
  rw [sfx_bit gw (by omega) (by omega) hu]
  rcases h with h | ⟨h1, h2⟩
  · exact ⟨it % 5, Nat.le_refl _, hdl, by rw [← hbe, hb]; exact h, fun j' a b => by omega⟩
  · rw [sfx_bit gw (by omega) (by omega) hu] at h2
    obtain ⟨j, j1, j2, j3, j4⟩ := h2
    refine ⟨j, by omega, j2, j3, fun j' a b => ?_⟩
    by_cases e : j' = it % 5
    · rw [e, ← hbe, hb]; exact h1
    · exact j4 j' (by omega) b
/-- what is base for the class's lookaheads -/
theorem F_base (n0 : 0 < n) (gw : GW n sy) (lc : LCt n sy T S pr) (hf : isF n sy f) (h0 : ∀ s it, s < S → it < 75 → (F0 (s * 75 + it) = 0 ∨ F0 (s * 75 + it) = 128) ∧ (F0 (s * 75 + it) ≠ 0 ↔ pr s it)) (hle : ∀ j, upN F0 70 (F0 70 ||| 1) j ≤ F j) (lL : leL n sy f T S (upN F0 70 (F0 70 ||| 1)) F) :
    (∀ s it, s < S → it < 75 → pr s it → F (s * 75 + it) ≠ 0) ∧ (F 70).testBit 0 = true := by
  have hn := gw.1
  have hS0 := lc.1.1
  have e70 : F0 70 = 128 := by
    have h := h0 0 70 hS0 (by decide)
    rw [show 0 * 75 + 70 = 70 from rfl] at h
    exact h.1.resolve_left (h.2.mpr lc.2.2.2.1.1)
  refine ⟨fun s it hs hi hp => ?_, ?_⟩
  · have h := hle (s * 75 + it)
    by_cases e : s * 75 + it = 70
    · rw [e, upN_at, e70] at h
      rw [e]
      have : 128 ||| 1 = 129 := by decide
      omega
    · rw [upN_ne _ _ e] at h
      have := (h0 s it hs hi).2.mpr hp
      omega
  · obtain ⟨G, hGd⟩ : ∃ G : Nat → Nat, G = fun j => if j = 70 then 129 else if j < S * 75 then 255 else upN F0 70 (F0 70 ||| 1) j := ⟨_, rfl⟩
    have hT255 : ∀ a j, a < 256 → j ≠ 70 → j < S * 75 → sub a (G j) := fun a j ha hj hj2 u hu => by
      rw [hGd]; dsimp only
      rw [if_neg hj, if_pos hj2]
      have hu8 : u < 8 := by
        by_cases c : u < 8
        · exact c
        · have := Nat.testBit_lt_two_pow (x := a) (i := u) (Nat.lt_of_lt_of_le ha (by rw [show 256 = 2 ^ 8 from rfl]; exact Nat.pow_le_pow_right (by decide) (by omega)))
          rw [this] at hu; cases hu
      have h2 : ∀ t : Fin 8, (255 : Nat).testBit t.val = true := by decide
      exact h2 ⟨u, hu8⟩
    have h127 : ∀ a, a &&& 127 < 128 := fun a => Nat.lt_of_le_of_lt Nat.and_le_right (by decide)
    have hsub := lL G (fun j => ?_) (fun s it hs hi hne hb => ?_) 70
    · have h1 := hle 70
      rw [upN_at, e70, show 128 ||| 1 = 129 from by decide] at h1
      have h2 : sub (F 70) 129 := by
        have e : G 70 = 129 := by rw [hGd]; exact if_pos rfl
        rw [e] at hsub; exact hsub
      have h3 := sub_le h2
      rw [show F 70 = 129 by omega]; decide
    · by_cases e : j = 70
      · rw [e, upN_at, e70, show G 70 = 129 by rw [hGd]; exact if_pos rfl, show 128 ||| 1 = 129 from by decide]; exact sub_rf
      · by_cases c : j < S * 75
        · refine hT255 _ _ ?_ e c
          rw [upN_ne _ _ e]
          have := (h0 (j / 75) (j % 75) (by omega) (by omega)).1
          rw [show j / 75 * 75 + j % 75 = j by omega] at this
          omega
        · rw [hGd]; dsimp only
          rw [if_neg e, if_neg c]; exact sub_rf
    · have hdl := bh_ln gw hi hb
      have hl4 := lnR_le sy (it / 5)
      have hdt := bh_dot hb
      obtain ⟨b1, b2, b3, b4⟩ := bh_at gw (show it / 5 < 15 by omega) hdl
      rw [show it / 5 * 5 + it % 5 = it by omega] at b1
      have hTS := lc.1.2.2 s (bh sy it) hs (by omega) (by omega)
      refine ⟨hT255 _ _ (by have := h127 (G (s * 75 + it)); omega) (by omega) (by omega), fun h8 r hr e => hT255 _ _ ?_ (by omega) (by omega)⟩
      have := giv_lt (sy := sy) (it := it) hf.2.2 (h127 (G (s * 75 + it)))
      omega
end S82
