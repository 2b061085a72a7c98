/-! ===== mathematics of the table: FIRST of sequences; what holds of the states ===== -/
theorem isF_eq {n : Nat} {sy : Nat → Nat → Nat} {f f' : Nat → Nat} (h : isF n sy f) (h' : isF n sy f') : f = f' := funext fun s => sub_eq (h.2.1 f' h'.1 s) (h'.2.1 f h.1 s)
theorem ff_sem {f s : Nat → Nat} : ∀ {m k a : Nat}, (ffN f s k m a % 2 = 1 ↔ a % 2 = 1 ∧ ∀ j, k ≤ j → j < k + m → s j = 0 ∨ fsT f (s j) % 2 = 1) ∧
    ∀ t, t ≠ 0 → ((ffN f s k m a).testBit t = true ↔ a.testBit t = true ∨ (a % 2 = 1 ∧ ∃ j, k ≤ j ∧ j < k + m ∧ s j ≠ 0 ∧ (fsT f (s j)).testBit t = true ∧ ∀ j', k ≤ j' → j' < j → s j' = 0 ∨ fsT f (s j') % 2 = 1))
  | 0, k, a => ⟨⟨fun h => ⟨h, fun j _ _ => by omega⟩, fun h => h.1⟩, fun t _ => ⟨fun h => Or.inl h, fun h => h.elim id (fun ⟨_, j, _, _, _⟩ => by omega)⟩⟩
  | m + 1, k, a => by
    show ((if a % 2 = 0 then a else ffN f s (k + 1) m (if s k = 0 then a else a / 2 * 2 ||| fsT f (s k))) % 2 = 1 ↔ _) ∧ ∀ t, t ≠ 0 → ((if a % 2 = 0 then a else ffN f s (k + 1) m (if s k = 0 then a else a / 2 * 2 ||| fsT f (s k))).testBit t = true ↔ _)
    by_cases h0 : a % 2 = 0
    · rw [if_pos h0]
      exact ⟨⟨fun h => by omega, fun h => by omega⟩, fun t _ => ⟨fun h => Or.inl h, fun h => h.elim id (fun h => by omega)⟩⟩
    · rw [if_neg h0]
      have ha : a % 2 = 1 := by omega
      by_cases z : s k = 0
      · rw [if_pos z]
        obtain ⟨i1, i2⟩ := ff_sem (f := f) (s := s) (m := m) (k := k + 1) (a := a)
        refine ⟨i1.trans ⟨fun h => ⟨h.1, fun j a1 a2 => ?_⟩, fun h => ⟨h.1, fun j a1 a2 => h.2 j (by omega) (by omega)⟩⟩, fun t ht => (i2 t ht).trans ⟨fun h => h.imp id (fun ⟨b1, j, b2, b3, b4, b5, b6⟩ => ⟨b1, j, by omega, by omega, b4, b5, fun j' c1 c2 => ?_⟩), fun h => h.imp id (fun ⟨b1, j, b2, b3, b4, b5, b6⟩ => ⟨b1, j, ?_, by omega, b4, b5, fun j' c1 c2 => b6 j' (by omega) c2⟩)⟩⟩
        · by_cases e : j = k
          · rw [e]; exact Or.inl z
          · exact h.2 j (by omega) (by omega)
        · by_cases e : j' = k
          · rw [e]; exact Or.inl z
          · exact b6 j' (by omega) c2
        · have : j ≠ k := fun e => b4 (by rw [e]; exact z)
          omega
      · rw [if_neg z]
        obtain ⟨i1, i2⟩ := ff_sem (f := f) (s := s) (m := m) (k := k + 1) (a := a / 2 * 2 ||| fsT f (s k))
        have hp : (a / 2 * 2 ||| fsT f (s k)) % 2 = 1 ↔ fsT f (s k) % 2 = 1 := by
          rw [od_or]; exact ⟨fun h => h.elim (fun h => by omega) id, Or.inr⟩
        refine ⟨i1.trans ⟨fun h => ⟨ha, fun j a1 a2 => ?_⟩, fun h => ⟨hp.mpr ((h.2 k (Nat.le_refl _) (by omega)).resolve_left z), fun j a1 a2 => h.2 j (by omega) (by omega)⟩⟩, fun t ht => (i2 t ht).trans ?_⟩
        · by_cases e : j = k
          · rw [e]; exact Or.inr (hp.mp h.1)
          · exact h.2 j (by omega) (by omega)
        · rw [Nat.testBit_or, Bool.or_eq_true, tb_ev, hp]
          constructor
          · rintro ((h | h) | ⟨b1, j, b2, b3, b4, b5, b6⟩)
            · exact Or.inl h.2
            · exact Or.inr ⟨ha, k, Nat.le_refl _, by omega, z, h, fun j' c1 c2 => by omega⟩
            · refine Or.inr ⟨ha, j, by omega, by omega, b4, b5, fun j' c1 c2 => ?_⟩
              by_cases e : j' = k
              · rw [e]; exact Or.inr b1
              · exact b6 j' (by omega) c2
          · rintro (h | ⟨_, j, b2, b3, b4, b5, b6⟩)
            · exact Or.inl (Or.inl ⟨ht, h⟩)
            · by_cases e : j = k
              · rw [e] at b5; exact Or.inl (Or.inr b5)
              · exact Or.inr ⟨(b6 k (Nat.le_refl _) (by omega)).resolve_left z, j, by omega, by omega, b4, b5, fun j' c1 c2 => b6 j' (by omega) c2⟩
/-- FIRST of what stands in rule r behind its first d symbols -/
abbrev sfx (f : Nat → Nat) (sy : Nat → Nat → Nat) (r d : Nat) : Nat := ffN f (sy r) (d + 1) (4 - d) 1
theorem sfx_nul {n : Nat} {sy : Nat → Nat → Nat} {f : Nat → Nat} {r d : Nat} (gw : GW n sy) (hr : r < 15) (hd : d ≤ 4) : sfx f sy r d % 2 = 1 ↔ restE f sy r d := by
  unfold sfx
  rw [ff_sem.1]
  constructor
  · rintro ⟨_, h⟩ k h1 h2
    have := lnR_le sy r
    rcases h (k + 1) (by omega) (by omega) with z | z
    · exact absurd z (Nat.ne_of_gt (lnR_nz (by omega) (by omega)))
    · exact z
  · intro h
    refine ⟨by decide, fun j h1 h2 => ?_⟩
    by_cases hj : j ≤ lnR sy r
    · have := h (j - 1) (by omega) (by omega)
      rw [show j - 1 + 1 = j by omega] at this
      exact Or.inr this
    · exact Or.inl (sy_z gw hr (by omega) (by omega))
/-- t can come first behind the first d symbols of rule r -/
theorem sfx_bit {n : Nat} {sy : Nat → Nat → Nat} {f : Nat → Nat} {r d t : Nat} (gw : GW n sy) (hr : r < 15) (hd : d ≤ 4) (ht : t ≠ 0) : (sfx f sy r d).testBit t = true ↔ ∃ j, d ≤ j ∧ j < lnR sy r ∧ (fsT f (sy r (j + 1))).testBit t = true ∧ ∀ j', d ≤ j' → j' < j → fsT f (sy r (j' + 1)) % 2 = 1 := by
  unfold sfx
  rw [(ff_sem.2 t ht)]
  have hl := lnR_le sy r
  constructor
  · rintro (h | ⟨_, j, b2, b3, b4, b5, b6⟩)
    · exfalso
      rw [Nat.testBit_one_eq_true_iff_self_eq_zero] at h
      exact ht h
    · have hj : j ≤ lnR sy r := by
        by_cases c : j ≤ lnR sy r
        · exact c
        · exact absurd (sy_z gw hr (by omega) (by omega)) b4
      refine ⟨j - 1, by omega, by omega, by rw [show j - 1 + 1 = j by omega]; exact b5, fun j' c1 c2 => ?_⟩
      exact (b6 (j' + 1) (by omega) (by omega)).resolve_left (Nat.ne_of_gt (lnR_nz (by omega) (by omega)))
  · rintro ⟨j, b2, b3, b5, b6⟩
    refine Or.inr ⟨by decide, j + 1, by omega, by omega, Nat.ne_of_gt (lnR_nz (by omega) (by omega)), b5, fun j' c1 c2 => Or.inr ?_⟩
    have := b6 (j' - 1) (by omega) (by omega)
    rw [show j' - 1 + 1 = j' by omega] at this
    exact this
/-- what holds of the states: pr s it: the item is in the state; T the targets -/
def LCt (n : Nat) (sy : Nat → Nat → Nat) (T : Nat → Nat → Nat) (S : Nat) (pr : Nat → Nat → Prop) : Prop :=
  (0 < S ∧ S ≤ 50 ∧ ∀ s x, s < S → 1 ≤ x → x < 14 → T s x < S) ∧ (∀ s it, s < S → it < 75 → pr s it → it / 5 < n ∨ it / 5 = 14) ∧ (∀ s, s < S → clS n sy (pr s)) ∧ (pr 0 70 ∧ ∀ s, s < S → pr s 70 → s = 0) ∧
  (∀ s it, s < S → it < 75 → pr s it → bh sy it ≠ 0 → 0 < T s (bh sy it) ∧ pr (T s (bh sy it)) (it + 1)) ∧
  (∀ s x, s < S → 1 ≤ x → x < 14 → 0 < T s x → (∃ it, it < 75 ∧ pr s it ∧ bh sy it = x) ∧ (∀ P : Nat → Prop, (∀ it, it < 75 → pr s it → bh sy it = x → P (it + 1)) → clS n sy P → ∀ it, it < 75 → pr (T s x) it → P it) ∧
    ∀ it, it + 1 < 75 → (it + 1) % 5 ≠ 0 → pr (T s x) (it + 1) → pr s it ∧ bh sy it = x) ∧
  (∀ it, it < 75 → pr 0 it → it % 5 = 0)
theorem lct_of {n : Nat} {sy : Nat → Nat → Nat} (gw : GW n sy) (h0 : 1 ≤ (KS n sy).length ∧ (KS n sy).length ≤ 50 ∧ (KS n sy).getD 0 0 = 0) (h1 : ∀ j, 0 < j → j < (KS n sy).length → (KS n sy).getD j 0 ≠ 0) (h2 : ∀ j, (KS n sy).getD j 0 < 2 ^ 60 ∧ okK n ((KS n sy).getD j 0)) (h3 : ∀ s x, s < (KS n sy).length → 1 ≤ x → x < 14 → nx n sy ((KS n sy).getD s 0) x = 0 ∨ nx n sy ((KS n sy).getD s 0) x ∈ KS n sy) :
    LCt n sy (tg n sy (KS n sy)) (KS n sy).length (fun s it => clP n sy (kst ((KS n sy).getD s 0)) it) := by
  have hn := gw.1
  have hT : ∀ s x, s < (KS n sy).length → 1 ≤ x → x < 14 → nx n sy ((KS n sy).getD s 0) x ≠ 0 → 0 < tg n sy (KS n sy) s x ∧ tg n sy (KS n sy) s x < (KS n sy).length ∧ (KS n sy).getD (tg n sy (KS n sy) s x) 0 = nx n sy ((KS n sy).getD s 0) x := by
    intro s x hs hx1 hx hz
    have hm := (h3 s x hs hx1 hx).resolve_left hz
    have hlt := List.idxOf_lt_length_of_mem hm
    have hg : (KS n sy).getD ((KS n sy).idxOf (nx n sy ((KS n sy).getD s 0) x)) 0 = nx n sy ((KS n sy).getD s 0) x := by
      rw [List.getD_eq_getElem?_getD, List.getElem?_eq_getElem hlt, Option.getD_some]; exact List.getElem_idxOf hlt
    have e : tg n sy (KS n sy) s x = (KS n sy).idxOf (nx n sy ((KS n sy).getD s 0) x) := by unfold tg; rw [if_neg hz]
    rw [e]
    refine ⟨?_, hlt, hg⟩
    rcases Nat.eq_zero_or_pos ((KS n sy).idxOf (nx n sy ((KS n sy).getD s 0) x)) with z | z
    · rw [z, h0.2.2] at hg; exact absurd hg.symm hz
    · exact z
  refine ⟨⟨h0.1, h0.2.1, fun s x hs hx1 hx => ?_⟩, fun s it hs hi hp => clP_ok hn (h2 s).2 hp, fun s hs => clP_cl, ⟨?_, fun s hs hp => ?_⟩, fun s it hs hi hp hb => ?_, fun s x hs hx1 hx hpos => ?_, fun it hi hp => ?_⟩
  · exact tg_lt h0.1 (h3 s x hs hx1 hx)
  · show clP n sy (kst ((KS n sy).getD 0 0)) 70
    rw [h0.2.2]; exact clP_sub (by decide) (Or.inl ⟨rfl, rfl⟩)
  · have := hp (fun j => kst ((KS n sy).getD s 0) j ∨ (j % 5 = 0 ∧ j / 5 < n)) (fun j _ hk => Or.inl hk) (fun j _ _ r hr _ => Or.inr (by omega))
    rcases this with z | z
    · rcases z with z | z
      · rcases Nat.eq_zero_or_pos s with e | e
        · exact e
        · exact absurd z.1 (h1 s e hs)
      · exact absurd (by rw [show kb 70 = 0 from rfl, Nat.and_zero]) z
    · omega
  · have h13 : bh sy it < 14 := by
      unfold bh; split
      · have := gw.le (r := it / 5) (k := it % 5 + 1) (by omega) (by omega); omega
      · decide
    have hz : nx n sy ((KS n sy).getD s 0) (bh sy it) ≠ 0 := fun z => (nx_0 hb).mp z it hi ⟨hp, rfl⟩
    obtain ⟨a, b, c⟩ := hT s (bh sy it) hs (by omega) h13 hz
    have h4 := bh_dot hb
    refine ⟨a, ?_⟩
    show clP n sy (kst ((KS n sy).getD (tg n sy (KS n sy) s (bh sy it)) 0)) (it + 1)
    rw [c]
    exact clP_sub (by omega) ((nx_kst hb hz (by omega)).mpr ⟨it, rfl, hp, rfl⟩)
  · have hx0 : x ≠ 0 := by omega
    have hz : nx n sy ((KS n sy).getD s 0) x ≠ 0 := fun z => by
      unfold tg at hpos; rw [if_pos z] at hpos; omega
    obtain ⟨a, b, c⟩ := hT s x hs hx1 hx hz
    refine ⟨Classical.byContradiction fun h => hz ((nx_0 hx0).mpr (fun j hj hc => h ⟨j, hj, hc.1, hc.2⟩)), fun P hP hcl it hi hp => ?_, fun it hi h5 hp => ?_⟩
    · have hp : clP n sy (kst ((KS n sy).getD (tg n sy (KS n sy) s x) 0)) it := hp
      rw [c] at hp
      refine hp P (fun j hj hk => ?_) hcl
      obtain ⟨m, e, h4, h5⟩ := (nx_kst hx0 hz hj).mp hk
      rw [e]; exact hP m (by omega) h4 h5
    · have hp : clP n sy (kst ((KS n sy).getD (tg n sy (KS n sy) s x) 0)) (it + 1) := hp
      rw [c, clP_ker hi h5] at hp
      obtain ⟨m, e, h4, h6⟩ := (nx_kst hx0 hz hi).mp (Or.inr hp)
      have e : it = m := by omega
      rw [e]; exact ⟨h4, h6⟩
  · have hp : clP n sy (kst ((KS n sy).getD 0 0)) it := hp
    rw [h0.2.2] at hp
    by_cases h5 : it % 5 = 0
    · exact h5
    · rw [clP_ker hi h5, Nat.zero_and] at hp; exact absurd rfl hp
