/-! ===== mathematics: least lookaheads over all items, and the lookaheads told by the ways by nonterminals, are the same ===== -/
/-- the number whose bits below N are those with P -/
noncomputable def bO (P : Nat → Prop) : Nat → Nat
  | 0 => 0
  | N + 1 => @ite Nat (P N) (Classical.propDecidable _) (bO P N ||| 2 ^ N) (bO P N)
theorem bO_tb {P : Nat → Prop} {t : Nat} : ∀ {N : Nat}, (bO P N).testBit t = true ↔ t < N ∧ P t
  | 0 => ⟨fun h => (by rw [show bO P 0 = 0 from rfl, Nat.zero_testBit] at h; cases h), fun h => (by omega)⟩
  | N + 1 => by
    by_cases hp : P N
    · rw [show bO P (N + 1) = bO P N ||| 2 ^ N from if_pos hp, Nat.testBit_or, Bool.or_eq_true, bO_tb, Nat.testBit_two_pow, decide_eq_true_eq]
      constructor
      · rintro (h | h)
        · exact ⟨by omega, h.2⟩
        · rw [← h]; exact ⟨by omega, hp⟩
      · intro h
        by_cases e : t = N
        · exact Or.inr e.symm
        · exact Or.inl ⟨by omega, h.2⟩
    · rw [show bO P (N + 1) = bO P N from if_neg hp, bO_tb]
      constructor
      · exact fun h => ⟨by omega, h.2⟩
      · intro h
        have : t ≠ N := fun e => hp (by rw [← e]; exact h.2)
        exact ⟨by omega, h.2⟩
theorem ntB_1 {x : Nat} (h : ¬ ntB x = 0) : 8 ≤ x ∧ x ≤ 13 := by
  unfold ntB at h
  split at h
  · assumption
  · exact absurd rfl h
theorem ntB_2 {x : Nat} (h : 8 ≤ x ∧ x ≤ 13) : ¬ ntB x = 0 := by
  unfold ntB; rw [if_pos h]; decide
theorem fsT_nt {f : Nat → Nat} {x : Nat} (h : 8 ≤ x) : fsT f x = f x := by unfold fsT; rw [if_neg (by omega)]
theorem fsT_tm {f : Nat → Nat} {x : Nat} (h : 1 ≤ x ∧ x ≤ 6) : fsT f x = 2 ^ x := by unfold fsT; rw [if_pos h]
theorem fsT_od {f : Nat → Nat} {x : Nat} (h1 : 1 ≤ x) (h7 : x ≠ 7) (h : fsT f x % 2 = 1) : 8 ≤ x := by
  by_cases c : x ≤ 6
  · rw [fsT_tm ⟨h1, c⟩] at h
    rcases (show x = 1 ∨ x = 2 ∨ x = 3 ∨ x = 4 ∨ x = 5 ∨ x = 6 by omega) with rfl | rfl | rfl | rfl | rfl | rfl <;> exact absurd h (by decide)
  · omega
theorem drN_tb {TJ : Nat → Nat} {p t : Nat} : ∀ {k : Nat}, (drN TJ p k).testBit t = true ↔ 1 ≤ t ∧ t ≤ k ∧ 0 < TJ (14 * p + t)
  | 0 => ⟨fun h => (by rw [show drN TJ p 0 = 0 from rfl, Nat.zero_testBit] at h; cases h), fun h => (by omega)⟩
  | k + 1 => by
    show (if 0 < TJ (14 * p + (k + 1)) then drN TJ p k ||| 1 * 2 ^ (k + 1) else drN TJ p k).testBit t = true ↔ _
    by_cases c : 0 < TJ (14 * p + (k + 1))
    · rw [if_pos c, Nat.one_mul, Nat.testBit_or, Bool.or_eq_true, drN_tb, Nat.testBit_two_pow, decide_eq_true_eq]
      constructor
      · rintro (h | h)
        · exact ⟨h.1, by omega, h.2.2⟩
        · rw [← h]; exact ⟨by omega, Nat.le_refl _, c⟩
      · intro h
        by_cases e : t = k + 1
        · exact Or.inr e.symm
        · exact Or.inl ⟨h.1, by omega, h.2.2⟩
    · rw [if_neg c, drN_tb]
      constructor
      · exact fun h => ⟨h.1, by omega, h.2.2⟩
      · intro h
        have : t ≠ k + 1 := fun e => c (by rw [← e]; exact h.2.2)
        exact ⟨h.1, by omega, h.2.2⟩
section S81
variable {n S L0 : Nat} {sy : Nat → Nat → Nat} {T : Nat → Nat → Nat} {pr : Nat → Nat → Prop} {f TJ RD W A F0 F : Nat → Nat}
/-- the row of targets and its two sides -/
def TJP (TJ : Nat → Nat) (T : Nat → Nat → Nat) (S : Nat) : Prop := ∀ s x, s < S → 1 ≤ x → x < 14 → TJ (14 * s + x) = T s x
theorem bh_at {n : Nat} {sy : Nat → Nat → Nat} {r d : Nat} (gw : GW n sy) (hr : r < 15) (hd : d < lnR sy r) : bh sy (r * 5 + d) = sy r (d + 1) ∧ 1 ≤ sy r (d + 1) ∧ sy r (d + 1) < 14 ∧ sy r (d + 1) ≠ 7 := by
  have hl := lnR_le sy r
  have e1 : (r * 5 + d) / 5 = r := by omega
  have e2 : (r * 5 + d) % 5 = d := by omega
  refine ⟨?_, lnR_nz (by omega) (by omega), by have := gw.le (r := r) (k := d + 1) hr (by omega); omega, gw.ne7 hr (by omega)⟩
  rw [bh_lt (by rw [e1, e2]; exact hd), e1, e2]
theorem bh_ln {n : Nat} {sy : Nat → Nat → Nat} {it : Nat} (gw : GW n sy) (hi : it < 75) (h : bh sy it ≠ 0) : it % 5 < lnR sy (it / 5) := by
  by_cases c : it % 5 < lnR sy (it / 5)
  · exact c
  · exact absurd (bh_ge gw hi (by omega)) h
/-- one step: an item before a symbol -/
theorem lc_step (gw : GW n sy) (lc : LCt n sy T S pr) {p r d : Nat} (hp : p < S) (hr : r < 15) (hd : d < lnR sy r) (h : pr p (r * 5 + d)) : 0 < T p (sy r (d + 1)) ∧ T p (sy r (d + 1)) < S ∧ pr (T p (sy r (d + 1))) (r * 5 + (d + 1)) := by
  have hl := lnR_le sy r
  obtain ⟨b1, b2, b3, -⟩ := bh_at gw hr hd
  have := lc.2.2.2.2.1 p (r * 5 + d) hp (by omega) h (by rw [b1]; omega)
  rw [b1] at this
  exact ⟨this.1, lc.1.2.2 p _ hp b2 b3, this.2⟩
/-- the rules of a symbol by which one goes are in the state -/
theorem lc_rule (lc : LCt n sy T S pr) {p r : Nat} (gw : GW n sy) (hp : p < S) (hr : r < n) (h : 0 < T p (sy r 0)) : pr p (r * 5) := by
  have hlf := gw.2.2.1 r hr
  obtain ⟨it, i1, i2, i3⟩ := (lc.2.2.2.2.2.1 p (sy r 0) hp (by omega) (by omega) h).1
  exact lc.2.2.1 p hp it i1 i2 r hr i3.symm
theorem pth_pr (gw : GW n sy) (lc : LCt n sy T S pr) (hTJ : TJP TJ T S) {s r : Nat} (hs : s < S) (hr : r < n) (h : 0 < T s (sy r 0)) : ∀ k, k ≤ lnR sy r → pth TJ sy r s k < S ∧ pr (pth TJ sy r s k) (r * 5 + k)
  | 0, _ => ⟨hs, lc_rule lc gw hs hr h⟩
  | k + 1, hk => by
    have hn := gw.1
    obtain ⟨a, b⟩ := pth_pr gw lc hTJ hs hr h k (by omega)
    obtain ⟨c1, c2, c3⟩ := lc_step gw lc a (by omega) (by omega) b
    obtain ⟨b1, b2, b3, -⟩ := bh_at gw (show r < 15 by omega) (show k < lnR sy r by omega)
    have e : pth TJ sy r s (k + 1) = T (pth TJ sy r s k) (sy r (k + 1)) := hTJ _ _ a b2 b3
    rw [e]; exact ⟨c2, c3⟩
/-- what can be read from a state on, as the ways tell it -/
def RDp (T : Nat → Nat → Nat) (f RD : Nat → Nat) (p t : Nat) : Prop := (1 ≤ t ∧ t ≤ 6 ∧ 0 < T p t) ∨ ∃ C, 8 ≤ C ∧ C < 14 ∧ f C % 2 = 1 ∧ 0 < T p C ∧ (RD (14 * p + C)).testBit t = true
theorem clR_use (lc : LCt n sy T S pr) (hTJ : TJP TJ T S) (cR : clR TJ f S L0 RD) {s x t : Nat} (hs : s < S) (hx : 8 ≤ x ∧ x < 14) (hp : 0 < T s x) (h : RDp T f RD (T s x) t) : (RD (14 * s + x)).testBit t = true := by
  have e := hTJ s x hs (by omega) hx.2
  have hpS := lc.1.2.2 s x hs (by omega) hx.2
  have hnt : ¬ ntB ((14 * s + x) % 14) = 0 := by rw [show (14 * s + x) % 14 = x by omega]; exact ntB_2 (by omega)
  rcases h with ⟨t1, t6, ht⟩ | ⟨C, c1, c2, c3, c4, c5⟩
  · refine cR.1 (14 * s + x) (by omega) t ?_
    have hd : (drN TJ (TJ (14 * s + x)) 6).testBit t = true := drN_tb.mpr ⟨t1, t6, by rw [e, hTJ _ _ hpS t1 (by omega)]; exact ht⟩
    unfold rd0
    rw [if_neg (fun z => z.elim hnt (fun z => by omega))]
    split
    · rw [Nat.testBit_or, hd]; rfl
    · exact hd
  · have := cR.2 (14 * s + x) C (by omega) hnt (by omega) c1 c2 c3 (by rw [e, hTJ _ _ hpS (by omega) c2]; exact c4) t
    rw [e] at this
    exact this c5
theorem RD_chain (gw : GW n sy) (lc : LCt n sy T S pr) (hTJ : TJP TJ T S) (cR : clR TJ f S L0 RD) {r t : Nat} (hr : r < 15) : ∀ m d p, p < S → pr p (r * 5 + d) → d + m < lnR sy r → (∀ j, d ≤ j → j < d + m → fsT f (sy r (j + 1)) % 2 = 1) → (∀ q, q < S → pr q (r * 5 + (d + m)) → RDp T f RD q t) → RDp T f RD p t
  | 0, d, p, hp, hpr, _, _, h => h p hp hpr
  | m + 1, d, p, hp, hpr, hl, hn, h => by
    obtain ⟨c1, c2, c3⟩ := lc_step gw lc hp hr (show d < lnR sy r by omega) hpr
    obtain ⟨b1, b2, b3, b4⟩ := bh_at gw hr (show d < lnR sy r by omega)
    have ho := hn d (Nat.le_refl _) (by omega)
    have h8 := fsT_od b2 b4 ho
    rw [fsT_nt h8] at ho
    have ih := RD_chain gw lc hTJ cR hr m (d + 1) _ c2 c3 (by omega) (fun j a b => hn j (by omega) (by omega)) (fun q hq hpq => h q hq (by rw [show d + (m + 1) = d + 1 + m by omega]; exact hpq))
    exact Or.inr ⟨_, h8, b3, ho, c1, clR_use lc hTJ cR hp ⟨h8, b3⟩ c1 ih⟩
/-- FIRST of a symbol can be read where one goes by it -/
theorem RD_first (gw : GW n sy) (lc : LCt n sy T S pr) (hTJ : TJP TJ T S) (cR : clR TJ f S L0 RD) (hf : isF n sy f) {Y t : Nat} (hY : 1 ≤ Y ∧ Y < 14 ∧ Y ≠ 7) (ht : 1 ≤ t) (h : (fsT f Y).testBit t = true) : ∀ p, p < S → 0 < T p Y → RDp T f RD p t := by
  have hn := gw.1
  by_cases c : Y ≤ 6
  · intro p hp hpos
    rw [fsT_tm ⟨hY.1, c⟩, Nat.testBit_two_pow, decide_eq_true_eq] at h
    subst h
    exact Or.inl ⟨hY.1, c, hpos⟩
  · have h8 : 8 ≤ Y := by omega
    rw [fsT_nt h8] at h
    -- the closed set
    obtain ⟨G, hG⟩ : ∃ G : Nat → Nat, G = fun Y => bO (fun t => (t = 0 ∧ (f Y).testBit 0 = true) ∨ (1 ≤ t ∧ (Y < 8 ∨ ∀ p, p < S → 0 < T p Y → RDp T f RD p t))) 7 := ⟨_, rfl⟩
    have hGt : ∀ Y t, (G Y).testBit t = true ↔ t < 7 ∧ ((t = 0 ∧ (f Y).testBit 0 = true) ∨ (1 ≤ t ∧ (Y < 8 ∨ ∀ p, p < S → 0 < T p Y → RDp T f RD p t))) := fun Y t => by rw [hG]; exact bO_tb
    have hod : ∀ x, fsT G x % 2 = 1 ↔ fsT f x % 2 = 1 := fun x => by
      unfold fsT; split
      · exact Iff.rfl
      · rw [← tb0, ← tb0, hGt]
        exact ⟨fun h => h.2.elim (fun z => z.2) (fun z => by omega), fun h => ⟨by omega, Or.inl ⟨rfl, h⟩⟩⟩
    have hcl : clF n sy G := by
      intro r hr u hu
      have hlf := gw.2.2.1 r hr
      have hl4 := lnR_le sy r
      have hu : (sfx G sy r 0).testBit u = true := hu
      rw [hGt]
      by_cases u0 : u = 0
      · subst u0
        refine ⟨by omega, Or.inl ⟨rfl, ?_⟩⟩
        rw [tb0, sfx_nul gw (by omega) (by omega)] at hu
        have h2 : restE f sy r 0 := fun k a b => (hod _).mp (hu k a b)
        rw [← sfx_nul gw (by omega) (by omega)] at h2
        exact hf.1 r hr 0 (tb0.mpr h2)
      · rw [sfx_bit gw (by omega) (by omega) u0] at hu
        obtain ⟨j, j1, j2, j3, j4⟩ := hu
        obtain ⟨b1, b2, b3, b4⟩ := bh_at gw (show r < 15 by omega) j2
        have hu7 : u < 7 := by
          unfold fsT at j3
          split at j3
          · rw [Nat.testBit_two_pow, decide_eq_true_eq] at j3; omega
          · exact ((hGt _ _).mp j3).1
        refine ⟨hu7, Or.inr ⟨by omega, Or.inr fun p hp hpos => ?_⟩⟩
        refine RD_chain gw lc hTJ cR (show r < 15 by omega) j 0 p hp (lc_rule lc gw hp hr hpos) (by omega) (fun k a b => (hod _).mp (j4 k a (by omega))) (fun q hq hpq => ?_)
        rw [Nat.zero_add] at hpq
        obtain ⟨c1, c2, c3⟩ := lc_step gw lc hq (by omega) j2 hpq
        by_cases cT : sy r (j + 1) ≤ 6
        · rw [fsT_tm ⟨b2, cT⟩, Nat.testBit_two_pow, decide_eq_true_eq] at j3
          rw [j3] at c1 b2 cT
          exact Or.inl ⟨b2, cT, c1⟩
        · rw [fsT_nt (by omega), hGt] at j3
          rcases j3.2 with z | z
          · exact absurd z.1 u0
          · rcases z.2 with z | z
            · omega
            · exact z q hq c1
    have := (hGt Y t).mp (hf.2.1 G hcl Y t h)
    rcases this.2 with z | z
    · omega
    · rcases z.2 with z | z
      · omega
      · exact z
/-- .. and so FIRST of what stands behind a dot -/
theorem RD_sfx (gw : GW n sy) (lc : LCt n sy T S pr) (hTJ : TJP TJ T S) (cR : clR TJ f S L0 RD) (hf : isF n sy f) {p r d t : Nat} (hp : p < S) (hr : r < 15) (hd : d ≤ 4) (hpr : pr p (r * 5 + d)) (ht : 1 ≤ t) (h : (sfx f sy r d).testBit t = true) : RDp T f RD p t := by
  rw [sfx_bit gw hr hd (by omega)] at h
  obtain ⟨j, j1, j2, j3, j4⟩ := h
  obtain ⟨b1, b2, b3, b4⟩ := bh_at gw hr j2
  refine RD_chain gw lc hTJ cR hr (j - d) d p hp hpr (by omega) (fun k a b => j4 k a (by omega)) (fun q hq hpq => ?_)
  rw [show d + (j - d) = j by omega] at hpq
  obtain ⟨c1, c2, c3⟩ := lc_step gw lc hq hr j2 hpq
  exact RD_first gw lc hTJ cR hf ⟨b2, b3, b4⟩ ht j3 q hq c1
/-- the bits of what an item gives -/
theorem giv_tb {it own t : Nat} (gw : GW n sy) (hi : it < 75) (hd : it % 5 < 4) : (giv f sy it own).testBit t = true ↔ (t ≠ 0 ∧ (sfx f sy (it / 5) (it % 5 + 1)).testBit t = true) ∨ (restE f sy (it / 5) (it % 5 + 1) ∧ own.testBit t = true) := by
  have e : ffN f (sy (it / 5)) (it % 5 + 2) (5 - (it % 5 + 2)) 1 = sfx f sy (it / 5) (it % 5 + 1) := by
    unfold sfx; congr 1; omega
  unfold giv
  rw [e]
  have hnul := sfx_nul (f := f) gw (show it / 5 < 15 by omega) (show it % 5 + 1 ≤ 4 by omega)
  by_cases c : sfx f sy (it / 5) (it % 5 + 1) % 2 = 1
  · rw [if_pos c, Nat.testBit_or, Bool.or_eq_true, tb_ev]
    exact ⟨fun h => h.imp id (fun h => ⟨hnul.mp c, h⟩), fun h => h.imp id (fun h => h.2)⟩
  · rw [if_neg c]
    constructor
    · intro h
      by_cases t0 : t = 0
      · subst t0; exact absurd (tb0.mp h) c
      · exact Or.inl ⟨t0, h⟩
    · rintro (h | h)
      · exact h.2
      · exact absurd (hnul.mpr h.1) c
/-- lookaheads by the ways, of any item -/
def LAp (n : Nat) (sy : Nat → Nat → Nat) (T : Nat → Nat → Nat) (TJ W : Nat → Nat) (S s it t : Nat) : Prop := (it / 5 < n ∧ ∃ s0, s0 < S ∧ 0 < T s0 (sy (it / 5) 0) ∧ pth TJ sy (it / 5) s0 (it % 5) = s ∧ (W (14 * s0 + sy (it / 5) 0)).testBit t = true) ∨ (it / 5 = 14 ∧ t = 0)
/-- the class's lookaheads lie in those of the ways -/
theorem F_sub (gw : GW n sy) (n0 : 0 < n) (lc : LCt n sy T S pr) (hTJ : TJP TJ T S) (hf : isF n sy f) (cR : clR TJ f S (sy 0 0) RD) (cW : clW TJ f S n sy RD W) (h0 : ∀ s it, s < S → it < 75 → (F0 (s * 75 + it) = 0 ∨ F0 (s * 75 + it) = 128) ∧ (F0 (s * 75 + it) ≠ 0 ↔ pr s it)) (lL : leL n sy f T S (upN F0 70 (F0 70 ||| 1)) F) :
    ∀ s it, s < S → it < 75 → (∀ t, t < 7 → (F (s * 75 + it)).testBit t = true → pr s it ∧ LAp n sy T TJ W S s it t) ∧ (¬ pr s it → F (s * 75 + it) = 0) := by
  have hn := gw.1
  have hS50 := lc.1.2.1
  obtain ⟨G, hGd⟩ : ∃ G : Nat → Nat, G = fun j => if j < S * 75 then bO (fun t => pr (j / 75) (j % 75) ∧ (t = 7 ∨ LAp n sy T TJ W S (j / 75) (j % 75) t)) 8 else upN F0 70 (F0 70 ||| 1) j := ⟨_, rfl⟩
  have hG : ∀ s it t, s < S → it < 75 → ((G (s * 75 + it)).testBit t = true ↔ t < 8 ∧ pr s it ∧ (t = 7 ∨ LAp n sy T TJ W S s it t)) := fun s it t hs hi => by
    rw [hGd]; dsimp only
    rw [if_pos (by omega), bO_tb, show (s * 75 + it) / 75 = s by omega, show (s * 75 + it) % 75 = it by omega]
  have start14 : sy 14 1 = sy 0 0 := gw.2.2.2.2.2.2.2.1 n0
  have l14 : lnR sy 14 = 1 := by
    show lnS (sy 14) = 1
    have h3 := gw.2.2.1 0 n0
    unfold lnS
    rw [if_neg (by omega), if_pos gw.2.2.2.2.2.2.1]
  have hsub : ∀ j, sub (F j) (G j) := by
    refine lL G (fun j t ht => ?_) (fun s it hs hi hne hb => ?_)
    · by_cases hj : j < S * 75
      · have e : j = j / 75 * 75 + j % 75 := by omega
        obtain ⟨a, b⟩ := h0 (j / 75) (j % 75) (by omega) (by omega)
        rw [← e] at a b
        have hprj : ∀ u, (F0 j).testBit u = true → pr (j / 75) (j % 75) ∧ u = 7 := fun u hu => by
          rcases a with z | z
          · rw [z, Nat.zero_testBit] at hu; cases hu
          · refine ⟨b.mp (by rw [z]; decide), ?_⟩
            rw [z, show 128 = 2 ^ 7 from rfl, Nat.testBit_two_pow, decide_eq_true_eq] at hu
            exact hu.symm
        rw [e, hG _ _ _ (by omega) (by omega)]
        by_cases e70 : j = 70
        · rw [e70, upN_at, Nat.testBit_or, Bool.or_eq_true] at ht
          rcases ht with ht | ht
          · rw [e70] at hprj
            obtain ⟨p1, p2⟩ := hprj t ht
            rw [e70]; exact ⟨by omega, p1, Or.inl p2⟩
          · rw [Nat.testBit_one_eq_true_iff_self_eq_zero] at ht
            rw [e70, ht]
            exact ⟨by decide, lc.2.2.2.1.1, Or.inr (Or.inr ⟨rfl, rfl⟩)⟩
        · rw [upN_ne _ _ e70] at ht
          obtain ⟨p1, p2⟩ := hprj t ht
          exact ⟨by omega, p1, Or.inl p2⟩
      · rw [hGd]; dsimp only
        rw [if_neg hj]; exact ht
    · have hpr : pr s it := by
        rcases hne with z | z
        · by_cases e70 : s * 75 + it = 70
          · have e1 : s = 0 := by omega
            have e2 : it = 70 := by omega
            rw [e1, e2]; exact lc.2.2.2.1.1
          · rw [upN_ne _ _ e70] at z
            exact (h0 s it hs hi).2.mp z
        · obtain ⟨t, ht⟩ := Nat.exists_testBit_of_ne_zero z
          exact ((hG s it t hs hi).mp ht).2.1
      have hdl := bh_ln gw hi hb
      have hd4 := bh_dot hb
      have hl4 := lnR_le sy (it / 5)
      have hbe := bh_lt hdl
      have e5 : it / 5 * 5 + it % 5 = it := by omega
      have hpr2 : pr s (it / 5 * 5 + it % 5) := by rw [e5]; exact hpr
      obtain ⟨c1, c2, c3⟩ := lc_step gw lc hs (show it / 5 < 15 by omega) hdl hpr2
      rw [← hbe] at c1 c2 c3
      have e51 : it / 5 * 5 + (it % 5 + 1) = it + 1 := by omega
      rw [e51] at c3
      have ed1 : (it + 1) / 5 = it / 5 := by omega
      have ed2 : (it + 1) % 5 = it % 5 + 1 := by omega
      have hown : ∀ t, (G (s * 75 + it) &&& 127).testBit t = true → t < 7 ∧ LAp n sy T TJ W S s it t := fun t ht => by
        rw [Nat.testBit_and, Bool.and_eq_true] at ht
        have h127 : t < 7 := by
          by_cases c : t < 7
          · exact c
          · have := Nat.testBit_lt_two_pow (x := 127) (i := t) (Nat.lt_of_lt_of_le (show 127 < 2 ^ 7 by decide) (Nat.pow_le_pow_right (by decide) (by omega)))
            rw [this] at ht; exact absurd ht.2 (by decide)
        obtain ⟨a, b, c⟩ := (hG s it t hs hi).mp ht.1
        exact ⟨h127, c.resolve_left (by omega)⟩
      obtain ⟨b1, b2, b3, b4⟩ := bh_at gw (show it / 5 < 15 by omega) hdl
      refine ⟨fun t ht => ?_, fun h8 r hr hx t ht => ?_⟩
      · obtain ⟨t7, hla⟩ := hown t ht
        rw [hG _ _ _ c2 (by omega)]
        refine ⟨by omega, c3, Or.inr ?_⟩
        unfold LAp at hla ⊢
        rw [ed1, ed2]
        rcases hla with ⟨h1, s0, h2, h3, h4, h5⟩ | h
        · refine Or.inl ⟨h1, s0, h2, h3, ?_, h5⟩
          show TJ (14 * pth TJ sy (it / 5) s0 (it % 5) + sy (it / 5) (it % 5 + 1)) = _
          rw [h4, hbe]; exact hTJ s _ hs b2 b3
        · exact Or.inr h
      · have hpos : 0 < T s (sy r 0) := by rw [hx]; exact c1
        rw [hG _ _ _ hs (by omega)]
        have hlr := gw.2.2.1 r hr
        have key : (W (14 * s + sy r 0)).testBit t = true → t < 8 ∧ pr s (r * 5) ∧ (t = 7 ∨ LAp n sy T TJ W S s (r * 5) t) := fun hw => by
          have ht7 : t < 7 := by
            rw [giv_tb gw hi hd4] at ht
            rcases ht with z | z
            · by_cases c : t < 7
              · exact c
              · have h128 : sfx f sy (it / 5) (it % 5 + 1) < 128 := ff_lt hf.2.2 (by decide)
                have := Nat.testBit_lt_two_pow (x := sfx f sy (it / 5) (it % 5 + 1)) (i := t) (Nat.lt_of_lt_of_le h128 (by rw [show 128 = 2 ^ 7 from rfl]; exact Nat.pow_le_pow_right (by decide) (by omega)))
                rw [this] at z; exact absurd z.2 (by decide)
            · exact (hown t z.2).1
          refine ⟨by omega, lc_rule lc gw hs hr hpos, Or.inr (Or.inl ?_)⟩
          rw [show r * 5 / 5 = r by omega, show r * 5 % 5 = 0 by omega]
          exact ⟨hr, s, hs, hpos, rfl, hw⟩
        apply key
        rw [giv_tb gw hi hd4] at ht
        rcases ht with ⟨t0, z⟩ | ⟨z1, z2⟩
        · -- read behind
          refine cW.1 _ (by omega) t ?_
          rw [hx]
          have hq := RD_sfx gw lc hTJ cR hf c2 (show it / 5 < 15 by omega) (show it % 5 + 1 ≤ 4 by omega) (by rw [e51]; exact c3) (by omega) z
          exact clR_use lc hTJ cR hs ⟨h8, by rw [hbe]; exact b3⟩ c1 hq
        · -- what the item has itself
          obtain ⟨t7, hla⟩ := hown t z2
          rcases hla with ⟨h1, s0, h2, h3, h4, h5⟩ | ⟨h14, t0⟩
          · have hlf0 := gw.2.2.1 (it / 5) h1
            have := cW.2 s0 (it / 5) (it % 5) h2 h1 (by rw [hTJ s0 _ h2 (by omega) (by omega)]; exact h3) hdl (by rw [← hbe]; exact ntB_2 ⟨h8, by rw [hbe]; omega⟩) z1 t h5
            rw [h4, ← hbe, ← hx] at this
            exact this
          · -- the goal
            have hd0 : it % 5 = 0 := by rw [h14, l14] at hdl; omega
            have hi70 : it = 70 := by omega
            have hs0 : s = 0 := lc.2.2.2.1.2 s hs (by rw [← hi70]; exact hpr)
            have hx0 : sy r 0 = sy 0 0 := by rw [hx, hbe, h14, hd0]; exact start14
            subst t0 hs0
            refine cW.1 _ (by omega) 0 (cR.1 _ (by omega) 0 ?_)
            rw [hx0] at hpos hlr ⊢
            unfold rd0
            rw [if_neg (fun y => y.elim (fun y => ntB_2 (show 8 ≤ sy 0 0 ∧ sy 0 0 ≤ 13 by omega) (by rw [show (14 * 0 + sy 0 0) % 14 = sy 0 0 by omega] at y; exact y)) (fun y => by rw [hTJ 0 _ hs (by omega) (by omega)] at y; omega)), if_pos (by omega), Nat.testBit_or]
            simp
  intro s it hs hi
  refine ⟨fun t ht7 ht => ?_, fun hnp => ?_⟩
  · obtain ⟨a, b, c⟩ := (hG s it t hs hi).mp (hsub _ t ht)
    exact ⟨b, c.resolve_left (by omega)⟩
  · apply Classical.byContradiction
    intro hne
    obtain ⟨t, ht⟩ := Nat.exists_testBit_of_ne_zero hne
    exact hnp ((hG s it t hs hi).mp (hsub _ t ht)).2.1
end S81
