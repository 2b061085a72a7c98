/-! ===== mathematics: .. and the other way round ===== -/
section S82
variable {n S L0 : Nat} {sy : Nat → Nat → Nat} {T : Nat → Nat → Nat} {pr : Nat → Nat → Prop} {f TJ RD W A F0 F : Nat → Nat}
theorem lt7_of {a t : Nat} (h : a < 128) (ht : a.testBit t = true) : t < 7 := by
  by_cases c : t < 7
  · exact c
  · have := Nat.testBit_lt_two_pow (x := a) (i := t) (Nat.lt_of_lt_of_le h (by rw [show 128 = 2 ^ 7 from rfl]; exact Nat.pow_le_pow_right (by decide) (by omega)))
    rw [this] at ht; cases ht
theorem tb127 {a t : Nat} (h : t < 7) : (a &&& 127).testBit t = a.testBit t := by
  have : (127 : Nat).testBit t = true := by
    have h2 : ∀ t : Fin 7, (127 : Nat).testBit t.val = true := by decide
    exact h2 ⟨t, h⟩
  rw [Nat.testBit_and, this, Bool.and_true]
/-- what stands in the state to which one goes by x comes from what stands there before x -/
theorem sfx_back (gw : GW n sy) (lc : LCt n sy T S pr) (hf : isF n sy f) {s x : Nat} (hs : s < S) (hx : 1 ≤ x ∧ x < 14) (hp : 0 < T s x) {it u : Nat} (hi : it < 75) (h4 : it % 5 ≤ 4) (hpr : pr (T s x) it) (hu : u ≠ 0) (h : (sfx f sy (it / 5) (it % 5)).testBit u = true) :
    ∃ it', it' < 75 ∧ pr s it' ∧ bh sy it' = x ∧ (sfx f sy (it' / 5) (it' % 5 + 1)).testBit u = true := by
  have hn := gw.1
  refine (lc.2.2.2.2.2.1 s x hs hx.1 hx.2 hp).2.1 (fun it => (sfx f sy (it / 5) (it % 5)).testBit u = true → ∃ it', it' < 75 ∧ pr s it' ∧ bh sy it' = x ∧ (sfx f sy (it' / 5) (it' % 5 + 1)).testBit u = true) (fun it hi hpr hb h => ?_) (fun it hi ih r hr e h => ?_) it hi hpr h
  · have hd := bh_dot (sy := sy) (it := it) (by omega)
    rw [show (it + 1) / 5 = it / 5 by omega, show (it + 1) % 5 = it % 5 + 1 by omega] at h
    exact ⟨it, hi, hpr, hb, h⟩
  · have hlf := gw.2.2.1 r hr
    rw [show r * 5 / 5 = r by omega, show r * 5 % 5 = 0 by omega] at h
    have hb : bh sy it ≠ 0 := by omega
    have hdl := bh_ln gw hi hb
    have hbe := bh_lt hdl
    have h2 : (f (sy r 0)).testBit u = true := hf.1 r hr u h
    refine ih ((sfx_bit gw (by omega) (by omega) hu).mpr ⟨it % 5, Nat.le_refl _, hdl, ?_, fun j' a b => by omega⟩)
    rw [← hbe, ← e, fsT_nt hlf.1]; exact h2
theorem sfx_in (gw : GW n sy) {it x u : Nat} (hi : it < 75) (hb : bh sy it = x) (hx : x ≠ 0) (hu : u ≠ 0) (h : (fsT f x).testBit u = true ∨ (fsT f x % 2 = 1 ∧ (sfx f sy (it / 5) (it % 5 + 1)).testBit u = true)) : (sfx f sy (it / 5) (it % 5)).testBit u = true := by
  have hdl := bh_ln gw hi (by omega)
  have hbe := bh_lt hdl
  have hl4 := lnR_le sy (it / 5)
  rw [sfx_bit gw (by omega) (by omega) hu]
  rcases h with h | ⟨h1, h2⟩
  · exact ⟨it % 5, Nat.le_refl _, hdl, by rw [← hbe, hb]; exact h, fun j' a b => by omega⟩
  · rw [sfx_bit gw (by omega) (by omega) hu] at h2
    obtain ⟨j, j1, j2, j3, j4⟩ := h2
    refine ⟨j, by omega, j2, j3, fun j' a b => ?_⟩
    by_cases e : j' = it % 5
    · rw [e, ← hbe, hb]; exact h1
    · exact j4 j' (by omega) b
/-- what the ways say can be read stands behind an item -/
theorem RD_item (gw : GW n sy) (n0 : 0 < n) (lc : LCt n sy T S pr) (hTJ : TJP TJ T S) (hf : isF n sy f) (lR : leR TJ f S (sy 0 0) RD) {s x t : Nat} (hs : s < S) (hx : 1 ≤ x ∧ x < 14) (h : (RD (14 * s + x)).testBit t = true) :
    t < 7 ∧ ((t = 0 ∧ s = 0 ∧ x = sy 0 0) ∨ (t ≠ 0 ∧ ∃ it, it < 75 ∧ pr s it ∧ bh sy it = x ∧ (sfx f sy (it / 5) (it % 5 + 1)).testBit t = true)) := by
  have hn := gw.1
  have hlf0 := gw.2.2.1 0 n0
  obtain ⟨G, hGd⟩ : ∃ G : Nat → Nat, G = fun j => bO (fun t => (t = 0 ∧ j = sy 0 0) ∨ (t ≠ 0 ∧ ∃ it, it < 75 ∧ pr (j / 14) it ∧ bh sy it = j % 14 ∧ (sfx f sy (it / 5) (it % 5 + 1)).testBit t = true)) 7 := ⟨_, rfl⟩
  have hG : ∀ j t, (G j).testBit t = true ↔ t < 7 ∧ ((t = 0 ∧ j = sy 0 0) ∨ (t ≠ 0 ∧ ∃ it, it < 75 ∧ pr (j / 14) it ∧ bh sy it = j % 14 ∧ (sfx f sy (it / 5) (it % 5 + 1)).testBit t = true)) := fun j t => by rw [hGd]; exact bO_tb
  have hcl : clR TJ f S (sy 0 0) G := by
    refine ⟨fun j hj u hu => ?_, fun j C hj hnt hpos c1 c2 c3 c4 u hu => ?_⟩
    · unfold rd0 at hu
      split at hu
      · rw [Nat.zero_testBit] at hu; cases hu
      · rename_i hc
        have hnt : ¬ ntB (j % 14) = 0 := fun z => hc (Or.inl z)
        have hjs : j / 14 < S := by omega
        have h8 := ntB_1 hnt
        have e := hTJ (j / 14) (j % 14) hjs (by omega) (by omega)
        rw [show 14 * (j / 14) + j % 14 = j by omega] at e
        have hpos : 0 < T (j / 14) (j % 14) := by rw [← e]; omega
        have hpS := lc.1.2.2 (j / 14) (j % 14) hjs (by omega) (by omega)
        have key : (drN TJ (TJ j) 6).testBit u = true → (G j).testBit u = true := fun hd => by
          obtain ⟨u1, u6, u7⟩ := drN_tb.mp hd
          rw [e, hTJ _ _ hpS u1 (by omega)] at u7
          obtain ⟨it', i1, i2, i3⟩ := (lc.2.2.2.2.2.1 _ u hpS u1 (by omega) u7).1
          have hs1 := sfx_in (f := f) gw i1 i3 (by omega) (show u ≠ 0 by omega) (Or.inl (by rw [fsT_tm ⟨u1, u6⟩, Nat.testBit_two_pow_self]))
          have := sfx_back gw lc hf hjs (show 1 ≤ j % 14 ∧ j % 14 < 14 by omega) hpos i1 (by omega) i2 (by omega) hs1
          exact (hG j u).mpr ⟨by omega, Or.inr ⟨by omega, this⟩⟩
        split at hu
        · rename_i e0
          rw [Nat.testBit_or, Bool.or_eq_true] at hu
          rcases hu with hu | hu
          · exact key hu
          · rw [Nat.testBit_one_eq_true_iff_self_eq_zero] at hu
            exact (hG j u).mpr ⟨by omega, Or.inl ⟨hu, e0⟩⟩
        · exact key hu
    · obtain ⟨u7, hu⟩ := (hG _ u).mp hu
      have h8 := ntB_1 hnt
      have hjs : j / 14 < S := by omega
      have e := hTJ (j / 14) (j % 14) hjs (by omega) (by omega)
      rw [show 14 * (j / 14) + j % 14 = j by omega] at e
      have hpos2 : 0 < T (j / 14) (j % 14) := by rw [← e]; omega
      rcases hu with ⟨u0, hu⟩ | ⟨u0, it', i1, i2, i3, i4⟩
      · omega
      · rw [show (14 * TJ j + C) / 14 = TJ j by omega, e] at i2
        rw [show (14 * TJ j + C) % 14 = C by omega] at i3
        have hs1 := sfx_in (f := f) gw i1 i3 (by omega) u0 (Or.inr ⟨by rw [fsT_nt c1]; exact c3, i4⟩)
        have := sfx_back gw lc hf hjs (show 1 ≤ j % 14 ∧ j % 14 < 14 by omega) hpos2 i1 (by omega) i2 u0 hs1
        exact (hG j u).mpr ⟨u7, Or.inr ⟨u0, this⟩⟩
  have := (hG _ t).mp (lR G hcl (14 * s + x) (by omega) t h)
  rw [show (14 * s + x) / 14 = s by omega, show (14 * s + x) % 14 = x by omega] at this
  exact ⟨this.1, this.2.imp (fun z => ⟨z.1, by omega, by omega⟩) id⟩
/-- what is base for the class's lookaheads -/
theorem F_base (n0 : 0 < n) (gw : GW n sy) (lc : LCt n sy T S pr) (hf : isF n sy f) (h0 : ∀ s it, s < S → it < 75 → (F0 (s * 75 + it) = 0 ∨ F0 (s * 75 + it) = 128) ∧ (F0 (s * 75 + it) ≠ 0 ↔ pr s it)) (hle : ∀ j, upN F0 70 (F0 70 ||| 1) j ≤ F j) (lL : leL n sy f T S (upN F0 70 (F0 70 ||| 1)) F) :
    (∀ s it, s < S → it < 75 → pr s it → F (s * 75 + it) ≠ 0) ∧ (F 70).testBit 0 = true := by
  have hn := gw.1
  have hS0 := lc.1.1
  have e70 : F0 70 = 128 := by
    have h := h0 0 70 hS0 (by decide)
    rw [show 0 * 75 + 70 = 70 from rfl] at h
    exact h.1.resolve_left (h.2.mpr lc.2.2.2.1.1)
  refine ⟨fun s it hs hi hp => ?_, ?_⟩
  · have h := hle (s * 75 + it)
    by_cases e : s * 75 + it = 70
    · rw [e, upN_at, e70] at h
      rw [e]
      have : 128 ||| 1 = 129 := by decide
      omega
    · rw [upN_ne _ _ e] at h
      have := (h0 s it hs hi).2.mpr hp
      omega
  · obtain ⟨G, hGd⟩ : ∃ G : Nat → Nat, G = fun j => if j = 70 then 129 else if j < S * 75 then 255 else upN F0 70 (F0 70 ||| 1) j := ⟨_, rfl⟩
    have hT255 : ∀ a j, a < 256 → j ≠ 70 → j < S * 75 → sub a (G j) := fun a j ha hj hj2 u hu => by
      rw [hGd]; dsimp only
      rw [if_neg hj, if_pos hj2]
      have hu8 : u < 8 := by
        by_cases c : u < 8
        · exact c
        · have := Nat.testBit_lt_two_pow (x := a) (i := u) (Nat.lt_of_lt_of_le ha (by rw [show 256 = 2 ^ 8 from rfl]; exact Nat.pow_le_pow_right (by decide) (by omega)))
          rw [this] at hu; cases hu
      have h2 : ∀ t : Fin 8, (255 : Nat).testBit t.val = true := by decide
      exact h2 ⟨u, hu8⟩
    have h127 : ∀ a, a &&& 127 < 128 := fun a => Nat.lt_of_le_of_lt Nat.and_le_right (by decide)
    have hsub := lL G (fun j => ?_) (fun s it hs hi hne hb => ?_) 70
    · have h1 := hle 70
      rw [upN_at, e70, show 128 ||| 1 = 129 from by decide] at h1
      have h2 : sub (F 70) 129 := by
        have e : G 70 = 129 := by rw [hGd]; exact if_pos rfl
        rw [e] at hsub; exact hsub
      have h3 := sub_le h2
      rw [show F 70 = 129 by omega]; decide
    · by_cases e : j = 70
      · rw [e, upN_at, e70, show G 70 = 129 by rw [hGd]; exact if_pos rfl, show 128 ||| 1 = 129 from by decide]; exact sub_rf
      · by_cases c : j < S * 75
        · refine hT255 _ _ ?_ e c
          rw [upN_ne _ _ e]
          have := (h0 (j / 75) (j % 75) (by omega) (by omega)).1
          rw [show j / 75 * 75 + j % 75 = j by omega] at this
          omega
        · rw [hGd]; dsimp only
          rw [if_neg e, if_neg c]; exact sub_rf
    · have hdl := bh_ln gw hi hb
      have hl4 := lnR_le sy (it / 5)
      have hdt := bh_dot hb
      obtain ⟨b1, b2, b3, b4⟩ := bh_at gw (show it / 5 < 15 by omega) hdl
      rw [show it / 5 * 5 + it % 5 = it by omega] at b1
      have hTS := lc.1.2.2 s (bh sy it) hs (by omega) (by omega)
      refine ⟨hT255 _ _ (by have := h127 (G (s * 75 + it)); omega) (by omega) (by omega), fun h8 r hr e => hT255 _ _ ?_ (by omega) (by omega)⟩
      have := giv_lt (sy := sy) (it := it) hf.2.2 (h127 (G (s * 75 + it)))
      omega
/-- a way's lookahead is the class's -/
theorem F_sup (gw : GW n sy) (n0 : 0 < n) (lc : LCt n sy T S pr) (hTJ : TJP TJ T S) (hf : isF n sy f) (lR : leR TJ f S (sy 0 0) RD) (lW : leW TJ f S n sy RD W) (hF1 : ∀ s it, s < S → it < 75 → pr s it → F (s * 75 + it) ≠ 0) (hF2 : (F 70).testBit 0 = true) (cl : CLa n sy f T S F) :
    ∀ s0 r t, s0 < S → r < n → 0 < T s0 (sy r 0) → (W (14 * s0 + sy r 0)).testBit t = true → t < 7 ∧ ∀ k, k ≤ lnR sy r → (F (pth TJ sy r s0 k * 75 + (r * 5 + k))).testBit t = true := by
  have hn := gw.1
  have hS0 := lc.1.1
  have hne : ∀ j t, (F j).testBit t = true → F j ≠ 0 := fun j t h e => by rw [e, Nat.zero_testBit] at h; cases h
  have start14 : sy 14 1 = sy 0 0 := gw.2.2.2.2.2.2.2.1 n0
  have hlf0 := gw.2.2.1 0 n0
  -- along a rule
  have along : ∀ s0 r t, s0 < S → r < n → 0 < T s0 (sy r 0) → t < 7 → (F (s0 * 75 + r * 5)).testBit t = true → ∀ k, k ≤ lnR sy r → (F (pth TJ sy r s0 k * 75 + (r * 5 + k))).testBit t = true := by
    intro s0 r t hs0 hr hp ht h0 k
    induction k with
    | zero => exact fun _ => h0
    | succ k ih =>
      intro hk
      have h1 := ih (by omega)
      obtain ⟨a, b⟩ := pth_pr gw lc hTJ hs0 hr hp k (by omega)
      obtain ⟨b1, b2, b3, b4⟩ := bh_at gw (show r < 15 by omega) (show k < lnR sy r by omega)
      have hl4 := lnR_le sy r
      have := (cl (pth TJ sy r s0 k) (r * 5 + k) a (by omega) (hne _ _ h1) (by rw [b1]; omega)).1 t (by rw [tb127 ht]; exact h1)
      rw [b1] at this
      have e : pth TJ sy r s0 (k + 1) = T (pth TJ sy r s0 k) (sy r (k + 1)) := hTJ _ _ a b2 b3
      rw [e]; exact this
  obtain ⟨G, hGd⟩ : ∃ G : Nat → Nat, G = fun j => bO (fun t => ∀ r, r < n → sy r 0 = j % 14 → (F (j / 14 * 75 + r * 5)).testBit t = true) 7 := ⟨_, rfl⟩
  have hG : ∀ s x t, x < 14 → ((G (14 * s + x)).testBit t = true ↔ t < 7 ∧ ∀ r, r < n → sy r 0 = x → (F (s * 75 + r * 5)).testBit t = true) := fun s x t hx => by
    rw [hGd]; dsimp only
    rw [bO_tb, show (14 * s + x) % 14 = x by omega, show (14 * s + x) / 14 = s by omega]
  have hcl : clW TJ f S n sy RD G := by
    refine ⟨fun j hj u hu => ?_, fun s r k hs hr hp hk hnt hre u hu => ?_⟩
    · have ej : j = 14 * (j / 14) + j % 14 := by omega
      have hjs : j / 14 < S := by omega
      rw [ej, hG _ _ _ (by omega)]
      by_cases hx0 : j % 14 = 0
      · -- no rule
        refine ⟨?_, fun r hr e => by have := gw.2.2.1 r hr; omega⟩
        -- bits of RD at a place of no symbol
        have hr7 : sub (RD j) (bO (fun _ => True) 7) := by
          refine lR (fun _ => bO (fun _ => True) 7) ⟨fun j hj u hu => ?_, fun j C _ _ _ _ _ _ _ u hu => hu⟩ j hj
          rw [bO_tb]
          refine ⟨?_, trivial⟩
          unfold rd0 at hu
          have hd : ∀ p, (drN TJ p 6).testBit u = true → u < 7 := fun p h => by have := drN_tb.mp h; omega
          split at hu
          · rw [Nat.zero_testBit] at hu; cases hu
          · split at hu
            · rw [Nat.testBit_or, Bool.or_eq_true] at hu
              rcases hu with hu | hu
              · exact hd _ hu
              · rw [Nat.testBit_one_eq_true_iff_self_eq_zero] at hu; omega
            · exact hd _ hu
        exact (bO_tb.mp (hr7 u hu)).1
      · rw [ej] at hu
        obtain ⟨u7, hu⟩ := RD_item gw n0 lc hTJ hf lR hjs (show 1 ≤ j % 14 ∧ j % 14 < 14 by omega) hu
        refine ⟨u7, fun r hr e => ?_⟩
        have hlf := gw.2.2.1 r hr
        rcases hu with ⟨u0, s0, x0⟩ | ⟨u0, it, i1, i2, i3, i4⟩
        · rw [s0, u0]
          have hl14 : 1 ≤ lnR sy 14 := by
            show 1 ≤ lnS (sy 14)
            unfold lnS
            rw [if_neg (by omega), if_pos gw.2.2.2.2.2.2.1]
            exact Nat.le_refl _
          have l14 : lnR sy 14 = 1 := by
            show lnS (sy 14) = 1
            unfold lnS
            rw [if_neg (by omega), if_pos gw.2.2.2.2.2.2.1]
          obtain ⟨b1, b2, b3, b4⟩ := bh_at gw (show 14 < 15 by decide) (show 0 < lnR sy 14 by omega)
          rw [show 14 * 5 + 0 = 70 from rfl, show (0 : Nat) + 1 = 1 from rfl, start14] at b1
          have := (cl 0 70 hS0 (by decide) (by rw [show 0 * 75 + 70 = 70 from rfl]; exact hne _ _ hF2) (by rw [b1]; omega)).2 (by rw [b1]; omega) r hr (by rw [b1]; omega) 0
          refine this ?_
          rw [giv_tb gw (by decide) (by decide)]
          refine Or.inr ⟨fun k' a b => ?_, by rw [tb127 (by decide)]; exact hF2⟩
          rw [show 70 / 5 = 14 from rfl] at b
          rw [show 70 % 5 + 1 = 1 from rfl] at a
          omega
        · have hb : bh sy it ≠ 0 := by omega
          have := (cl (j / 14) it hjs i1 (hF1 _ _ hjs i1 i2) hb).2 (by omega) r hr (by omega) u
          refine this ?_
          rw [giv_tb gw i1 (bh_dot hb)]
          exact Or.inl ⟨u0, i4⟩
    · have hlf := gw.2.2.1 r hr
      obtain ⟨u7, hu⟩ := (hG _ _ u (by omega)).mp hu
      have hp2 : 0 < T s (sy r 0) := by rw [← hTJ s (sy r 0) hs (by omega) (by omega)]; exact hp
      have h1 := along s r u hs hr hp2 u7 (hu r hr rfl) k (by omega)
      obtain ⟨a, b⟩ := pth_pr gw lc hTJ hs hr hp2 k (by omega)
      obtain ⟨b1, b2, b3, b4⟩ := bh_at gw (show r < 15 by omega) hk
      have h8 := ntB_1 hnt
      have hl4 := lnR_le sy r
      refine (hG _ _ u (by omega)).mpr ⟨u7, fun r' hr' e => ?_⟩
      have := (cl _ (r * 5 + k) a (by omega) (hne _ _ h1) (by rw [b1]; omega)).2 (by rw [b1]; omega) r' hr' (by rw [b1]; exact e) u
      refine this ?_
      rw [giv_tb gw (by omega) (by omega)]
      refine Or.inr ⟨?_, by rw [tb127 u7]; exact h1⟩
      rw [show (r * 5 + k) / 5 = r by omega, show (r * 5 + k) % 5 = k by omega]
      exact hre
  intro s0 r t hs0 hr hp hW
  have hlf := gw.2.2.1 r hr
  obtain ⟨t7, h⟩ := (hG s0 (sy r 0) t (by omega)).mp (lW G hcl _ (by omega) t hW)
  exact ⟨t7, along s0 r t hs0 hr hp t7 (h r hr rfl)⟩
end S82
