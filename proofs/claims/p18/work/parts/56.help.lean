/-! ===== small things that stood in the reference's parts ===== -/
theorem lnR_le (sy : Nat → Nat → Nat) (r : Nat) : lnR sy r ≤ 4 := lnS_le _
theorem bh_lt {sy : Nat → Nat → Nat} {it : Nat} (h : it % 5 < lnR sy (it / 5)) : bh sy it = sy (it / 5) (it % 5 + 1) := by
  unfold bh
  rw [if_pos (by have := lnR_le sy (it / 5); omega)]
theorem bh_ge {n : Nat} {sy : Nat → Nat → Nat} {it : Nat} (gw : GW n sy) (hi : it < 75) (h : lnR sy (it / 5) ≤ it % 5) : bh sy it = 0 := by
  unfold bh
  split
  · rename_i h4
    have z := gw.2.2.2.2.1 (it / 5)
    unfold lnR lnS at h
    have h15 : it / 5 < 15 := by omega
    split at h
    · rename_i e; have a := z 1 h15 (by decide) (by decide) e; have b := z 2 h15 (by decide) (by decide) a; have c := z 3 h15 (by decide) (by decide) b
      rcases (show it % 5 = 0 ∨ it % 5 = 1 ∨ it % 5 = 2 ∨ it % 5 = 3 by omega) with q | q | q | q <;> rw [q] <;> assumption
    · split at h
      · rename_i e; have b := z 2 h15 (by decide) (by decide) e; have c := z 3 h15 (by decide) (by decide) b
        rcases (show it % 5 = 1 ∨ it % 5 = 2 ∨ it % 5 = 3 by omega) with q | q | q <;> rw [q] <;> assumption
      · split at h
        · rename_i e; have c := z 3 h15 (by decide) (by decide) e
          rcases (show it % 5 = 2 ∨ it % 5 = 3 by omega) with q | q <;> rw [q] <;> assumption
        · split at h
          · rename_i e
            rcases (show it % 5 = 3 by omega) with q; rw [q]; assumption
          · omega
  · rfl
theorem lnR_nz {sy : Nat → Nat → Nat} {r k : Nat} (h1 : 1 ≤ k) (h : k ≤ lnR sy r) : 0 < sy r k := by
  unfold lnR lnS at h
  split at h
  · omega
  · split at h
    · rcases (show k = 1 by omega) with rfl; omega
    · split at h
      · rcases (show k = 1 ∨ k = 2 by omega) with rfl | rfl <;> omega
      · split at h
        · rcases (show k = 1 ∨ k = 2 ∨ k = 3 by omega) with rfl | rfl | rfl <;> omega
        · rcases (show k = 1 ∨ k = 2 ∨ k = 3 ∨ k = 4 by omega) with rfl | rfl | rfl | rfl <;> omega
theorem od_or (a b : Nat) : (a ||| b) % 2 = 1 ↔ a % 2 = 1 ∨ b % 2 = 1 := by
  rw [← tb0, ← tb0, ← tb0, Nat.testBit_or, Bool.or_eq_true]
theorem sy_z {n : Nat} {sy : Nat → Nat → Nat} (gw : GW n sy) {r k : Nat} (hr : r < 15) (h : lnR sy r < k) (hk : k < 5) : sy r k = 0 := by
  have := bh_ge (it := r * 5 + (k - 1)) gw (by omega) (by rw [show (r * 5 + (k - 1)) / 5 = r by omega, show (r * 5 + (k - 1)) % 5 = k - 1 by omega]; omega)
  unfold bh at this
  rw [if_pos (by omega), show (r * 5 + (k - 1)) / 5 = r by omega, show (r * 5 + (k - 1)) % 5 + 1 = k by omega] at this
  exact this
theorem and_pow {a e : Nat} : a &&& 2 ^ e ≠ 0 ↔ a.testBit e = true := by
  constructor
  · intro hne
    cases hb : a.testBit e
    · exfalso
      apply hne
      apply Nat.eq_of_testBit_eq
      intro k
      rw [Nat.testBit_and, Nat.testBit_two_pow, Nat.zero_testBit]
      by_cases hk : e = k
      · subst hk; rw [hb]; rfl
      · simp [hk]
    · rfl
  · intro hb h0
    have h1 : (a &&& 2 ^ e).testBit e = true := by rw [Nat.testBit_and, Nat.testBit_two_pow, hb]; simp
    rw [h0, Nat.zero_testBit] at h1
    cases h1
theorem nkU_tb {P : Nat → Prop} {sy : Nat → Nat → Nat} {x j : Nat} (hj : (j + 1) % 5 ≠ 0) : ∀ {k : Nat}, (nkU P sy x k) &&& kb (j + 1) ≠ 0 ↔ j < k ∧ P j ∧ bh sy j = x := by
  have ek : kb (j + 1) = 2 ^ ((j + 1) / 5 * 4 + (j + 1) % 5 - 1) := by unfold kb; rw [if_neg hj]
  intro k
  rw [ek, and_pow]
  induction k with
  | zero =>
    show Nat.testBit 0 _ = true ↔ _
    rw [Nat.zero_testBit]
    exact ⟨fun h => (by cases h), fun h => by omega⟩
  | succ k ih =>
    by_cases hp : P k ∧ bh sy k = x
    · rw [nkU_yes hp.1 hp.2, Nat.testBit_or, Bool.or_eq_true, ih]
      by_cases h5 : (k + 1) % 5 = 0
      · have : kb (k + 1) = 0 := by unfold kb; rw [if_pos h5]
        rw [this, Nat.zero_testBit]
        refine ⟨fun h => ?_, fun h => Or.inl ⟨?_, h.2⟩⟩
        · rcases h with h | h
          · exact ⟨by omega, h.2⟩
          · cases h
        · have : j ≠ k := fun e => hj (by rw [e]; exact h5)
          omega
      · have e2 : kb (k + 1) = 2 ^ ((k + 1) / 5 * 4 + (k + 1) % 5 - 1) := by unfold kb; rw [if_neg h5]
        rw [e2, Nat.testBit_two_pow, decide_eq_true_eq]
        refine ⟨fun h => ?_, fun h => ?_⟩
        · rcases h with h | h
          · exact ⟨by omega, h.2⟩
          · have : j = k := by omega
            rw [this]; exact ⟨by omega, hp⟩
        · by_cases e : j = k
          · rw [e]; exact Or.inr rfl
          · exact Or.inl ⟨by omega, h.2⟩
    · rw [nkU_no hp, ih]
      refine ⟨fun h => ⟨by omega, h.2⟩, fun h => ⟨?_, h.2⟩⟩
      have : j ≠ k := fun e => hp (by rw [← e]; exact h.2)
      omega
theorem bh_dot {sy : Nat → Nat → Nat} {it : Nat} (h : bh sy it ≠ 0) : it % 5 < 4 := by
  unfold bh at h
  split at h
  · assumption
  · exact absurd rfl h
/-- items with something before the dot: those of the kernel -/
theorem clP_ker {n : Nat} {sy : Nat → Nat → Nat} {K it : Nat} (hi : it < 75) (h5 : it % 5 ≠ 0) : clP n sy (kst K) it ↔ K &&& kb it ≠ 0 := by
  constructor
  · intro h
    have := h (fun j => kst K j ∨ j % 5 = 0) (fun j _ hk => Or.inl hk) (fun j _ _ r _ _ => Or.inr (by omega))
    rcases this with h | h
    · rcases h with h | h
      · omega
      · exact h
    · exact absurd h h5
  · intro h S h1 _
    exact h1 it hi (Or.inr h)
theorem clP_sub {n : Nat} {sy : Nat → Nat → Nat} {K : Nat → Prop} {it : Nat} (hi : it < 75) (h : K it) : clP n sy K it := fun S h1 _ => h1 it hi h
theorem clP_cl {n : Nat} {sy : Nat → Nat → Nat} {K : Nat → Prop} : clS n sy (clP n sy K) := fun it hi h r hr e S h1 h2 => h2 it hi (h S h1 h2) r hr e
/-- the rules of a state's items are there -/
def okK (n : Nat) (K : Nat) : Prop := ∀ it, it < 75 → kst K it → it / 5 < n ∨ it / 5 = 14
theorem okK_0 {n : Nat} : okK n 0 := by
  intro it hi h
  rcases h with h | h
  · right; omega
  · exact absurd (Nat.zero_and _) h
theorem clP_ok {n : Nat} {sy : Nat → Nat → Nat} {K it : Nat} (hn : n ≤ 14) (hK : okK n K) (h : clP n sy (kst K) it) : it / 5 < n ∨ it / 5 = 14 :=
  h (fun j => j / 5 < n ∨ j / 5 = 14) hK (fun j _ _ r hr _ => Or.inl (by omega))
theorem nx_tb {n : Nat} {sy : Nat → Nat → Nat} {K x j : Nat} (hx : x ≠ 0) (hj : j < 75) : nx n sy K x &&& kb (j + 1) ≠ 0 ↔ clP n sy (kst K) j ∧ bh sy j = x := by
  by_cases h5 : (j + 1) % 5 = 0
  · have : kb (j + 1) = 0 := by unfold kb; rw [if_pos h5]
    rw [this, Nat.and_zero]
    refine ⟨fun h => absurd rfl h, fun h => ?_⟩
    have := bh_dot (sy := sy) (it := j) (by rw [h.2]; exact hx)
    omega
  · unfold nx
    rw [nkU_tb h5]
    exact ⟨fun h => h.2, fun h => ⟨hj, h⟩⟩
theorem kb_0 : kb 0 = 0 := rfl
/-- the kernel of the next state -/
theorem nx_kst {n : Nat} {sy : Nat → Nat → Nat} {K x it : Nat} (hx : x ≠ 0) (h0 : nx n sy K x ≠ 0) (hi : it < 75) : kst (nx n sy K x) it ↔ ∃ j, it = j + 1 ∧ clP n sy (kst K) j ∧ bh sy j = x := by
  constructor
  · intro h
    rcases h with h | h
    · exact absurd h.1 h0
    · cases it with
      | zero => rw [kb_0, Nat.and_zero] at h; exact absurd rfl h
      | succ j => exact ⟨j, rfl, (nx_tb hx (by omega)).mp h⟩
  · rintro ⟨j, rfl, h⟩
    exact Or.inr ((nx_tb hx (by omega)).mpr h)
theorem nx_0 {n : Nat} {sy : Nat → Nat → Nat} {K x : Nat} (hx : x ≠ 0) : nx n sy K x = 0 ↔ ∀ j, j < 75 → ¬ (clP n sy (kst K) j ∧ bh sy j = x) := by
  constructor
  · intro h j hj hc
    have := (nx_tb (n := n) (K := K) hx hj).mpr hc
    rw [h, Nat.zero_and] at this
    exact this rfl
  · intro h
    refine kst_bits (nkU_lt (Nat.le_refl _)) (Nat.two_pow_pos 60) (fun it hi h5 => ?_)
    rw [Nat.zero_and]
    refine ⟨fun h2 => ?_, fun h2 => absurd rfl h2⟩
    cases it with
    | zero => omega
    | succ j => exact absurd ((nx_tb hx (by omega)).mp h2) (h j (by omega))
theorem okK_nx {n : Nat} {sy : Nat → Nat → Nat} {K x : Nat} (hn : n ≤ 14) (hK : okK n K) (hx : x ≠ 0) : okK n (nx n sy K x) := by
  intro it hi h
  by_cases h0 : nx n sy K x = 0
  · rw [h0] at h; exact okK_0 it hi h
  · obtain ⟨j, rfl, h1, h2⟩ := (nx_kst hx h0 hi).mp h
    have := bh_dot (sy := sy) (it := j) (by rw [h2]; exact hx)
    have h3 := clP_ok hn hK h1
    omega
/-- different kernels, different states -/
theorem clP_inj {n : Nat} {sy : Nat → Nat → Nat} {K K' : Nat} (h1 : K < 2 ^ 60) (h2 : K' < 2 ^ 60) (h : ∀ it, it < 75 → (clP n sy (kst K) it ↔ clP n sy (kst K') it)) : K = K' :=
  kst_bits h1 h2 (fun it hi h5 => by rw [← clP_ker (n := n) (sy := sy) hi h5, ← clP_ker (n := n) (sy := sy) hi h5]; exact h it hi)

def restE (f : Nat → Nat) (sy : Nat → Nat → Nat) (r k : Nat) : Prop := ∀ k', k ≤ k' → k' < lnR sy r → fsT f (sy r (k' + 1)) % 2 = 1
/-- links between parents and children -/
def TLK (sy : Nat → Nat → Nat) (md : Nat) (tb : Nat → Bool) (rl : Nat → Nat) (pa : Nat → Option (Nat × Nat)) (ch : Nat → Nat → Nat) : Prop :=
  (∀ j p k, j < md → pa j = some (p, k) → ch p k = j) ∧ ∀ p k, p < md → tb p = false → 1 ≤ k → k ≤ lnR sy (rl p) → pa (ch p k) = some (p, k)
theorem arM_lt {n md : Nat} {sy : Nat → Nat → Nat} {op xp yp : Nat → Nat} {nd : Nat → Int32} {tb : Nat → Bool} {rl : Nat → Nat} {pa : Nat → Option (Nat × Nat)} {ch : Nat → Nat → Nat} {s : Nat} (hw : TW n sy md nd tb rl pa ch) (ev : EV n sy op xp yp) (hs : s < 3 * md) (hb : tb (s / 3) = false) : (2 ≤ opS op rl (sCx pa s) → arS xp rl ch (sCx pa s) < 3 * md) ∧ (3 ≤ opS op rl (sCx pa s) → arS yp rl ch (sCx pa s) < 3 * md) := by
  cases hc : sCx pa s with
  | none => exact ⟨fun z => absurd z (by show ¬ 2 ≤ 0; decide), fun z => absurd z (by show ¬ 3 ≤ 0; decide)⟩
  | some v =>
    obtain ⟨c, p⟩ := v
    obtain ⟨h1, h2, h3⟩ := sCx_ok hw hs hb hc
    have hr := ((hw.2 c h1).2.1 h2).2.1
    obtain ⟨e1, e2, -⟩ := ev (rl c) p hr h3
    exact ⟨fun z => sSl_lt hw h1 h2 (e1 z), fun z => sSl_lt hw h1 h2 (e2 z)⟩
theorem ex_mem {μ : xMeth} {pc : Nat} {L : xLoc} {st : List Value} {n g : Nat} {i i' : Nat → Nat → Int32} {q : Nat → Nat → Int64} {r : Nat → Nat → Value} {K : Nat × Nat} {Q : xRes → xMem → Prop} (h : i = i') (k : Wx μ pc L st (n, g, i', q, r) K Q) : Wx μ pc L st (n, g, i, q, r) K Q := by rw [h]; exact k
