/-! ===== mathematics: the tree of a run ===== -/
/-- which child of the handle a node is, or 0 -/
def fdK (sn : Nat → Nat) (hb j : Nat) : Nat → Nat
  | 0 => 0
  | k + 1 => if sn (hb + k) = j then k + 1 else fdK sn hb j k
theorem fdK_0 {sn : Nat → Nat} {hb j : Nat} : ∀ {d : Nat}, fdK sn hb j d = 0 → ∀ k, 1 ≤ k → k ≤ d → sn (hb + k - 1) ≠ j
  | 0, _, _, _, _ => by omega
  | d + 1, h, k, a, b => by
    have h : (if sn (hb + d) = j then d + 1 else fdK sn hb j d) = 0 := h
    by_cases c : sn (hb + d) = j
    · rw [if_pos c] at h; omega
    · rw [if_neg c] at h
      by_cases e : k = d + 1
      · subst e; exact c
      · exact fdK_0 h k a (by omega)
theorem fdK_s {sn : Nat → Nat} {hb j : Nat} : ∀ {d : Nat}, fdK sn hb j d ≠ 0 → 1 ≤ fdK sn hb j d ∧ fdK sn hb j d ≤ d ∧ sn (hb + fdK sn hb j d - 1) = j
  | 0, h => absurd rfl h
  | d + 1, h => by
    by_cases c : sn (hb + d) = j
    · have e : fdK sn hb j (d + 1) = d + 1 := if_pos c
      rw [e]; exact ⟨by omega, Nat.le_refl _, c⟩
    · have e : fdK sn hb j (d + 1) = fdK sn hb j d := if_neg c
      rw [e] at h ⊢
      obtain ⟨a, b, c⟩ := fdK_s h
      exact ⟨a, by omega, c⟩
section S87
variable {n S nt : Nat} {sy : Nat → Nat → Nat} {T G : Nat → Nat → Nat} {D : Nat → Nat → Int32} {pr : Nat → Nat → Prop} {TT : Nat → Nat}
/-- what holds of nodes made and the stack of nodes -/
def TRI (n : Nat) (sy : Nat → Nat → Nat) (nt h md : Nat) (sn X : Nat → Nat) (nd tk : Nat → Int32) (tb : Nat → Bool) (rl : Nat → Nat) (pa : Nat → Option (Nat × Nat)) (ch : Nat → Nat → Nat) : Prop :=
  TW n sy md nd tb rl pa ch ∧ TLK sy md tb rl pa ch ∧ TSY sy md tb rl ch ∧ (∀ j, j < md → tb j = true → ∃ b, b < nt ∧ tk j = nI b) ∧
  (∀ j, 1 ≤ j → j < h → sn j < md ∧ pa (sn j) = none ∧ (8 ≤ X j → tb (sn j) = false ∧ sy (rl (sn j)) 0 = X j) ∧ (X j < 8 → tb (sn j) = true)) ∧ ∀ j j', 1 ≤ j → j < j' → j' < h → sn j ≠ sn j'
theorem tri_shift {h md nx x : Nat} {sn X : Nat → Nat} {nd tk : Nat → Int32} {tb : Nat → Bool} {rl : Nat → Nat} {pa : Nat → Option (Nat × Nat)} {ch : Nat → Nat → Nat} (hh : 1 ≤ h) (hmd : md < 150) (hx : x < 8) (hnx : nx < nt) (t : TRI n sy nt h md sn X nd tk tb rl pa ch) :
    TRI n sy nt (h + 1) (md + 1) (upN sn h md) (upN X h x) (rnN nd md (nI x) (-1)) (upd tk md (nI nx)) (fun j => if j = md then true else tb j) rl (fun j => if j = md then none else pa j) ch := by
  obtain ⟨⟨-, tw⟩, tl, ts, tt, sk, si⟩ := t
  obtain ⟨r0, r1, r2, r3⟩ := rnN_0 (nd := nd) (md := md) (x := nI x) (y := -1)
  refine ⟨⟨by omega, fun j hj => ?_⟩, ⟨fun j p k hj hp => ?_, fun p k hp hb k1 kl => ?_⟩, fun p k hp hb k1 kl => ?_, fun j hj hb => ?_, fun j j1 j2 => ?_, fun j j' a b c => ?_⟩
  · dsimp only
    by_cases e : j = md
    · subst e
      rw [if_pos rfl, if_pos rfl]
      exact ⟨fun _ => r1, fun z => (by cases z), fun _ => ⟨r2, r3⟩, fun p k z => (by cases z)⟩
    · rw [if_neg e, if_neg e, rnN_c (by decide) e, rnN_c (by decide) e, rnN_c (by decide) e]
      obtain ⟨a, b, c, d⟩ := tw j (by omega)
      refine ⟨a, fun z => ⟨(b z).1, (b z).2.1, fun k k1 kl => ?_⟩, c, fun p k z => ?_⟩
      · have hl := lnR_le sy (rl j)
        rw [rnN_c (by omega) e]
        obtain ⟨b1, b2⟩ := (b z).2.2 k k1 kl
        exact ⟨b1, by omega⟩
      · obtain ⟨d1, d2, d3, d4, d5, d6⟩ := d p k z
        exact ⟨d1, d2, by omega, by rw [if_neg (by omega)]; exact d4, d5, d6⟩
  · dsimp only at hp
    by_cases e : j = md
    · rw [if_pos e] at hp; cases hp
    · rw [if_neg e] at hp; exact tl.1 j p k (by omega) hp
  · dsimp only at hb ⊢
    by_cases e : p = md
    · rw [if_pos e] at hb; cases hb
    · rw [if_neg e] at hb
      have := (((tw p (by omega)).2.1 hb).2.2 k k1 kl).2
      rw [if_neg (by omega)]
      exact tl.2 p k (by omega) hb k1 kl
  · dsimp only at hb ⊢
    by_cases e : p = md
    · rw [if_pos e] at hb; cases hb
    · rw [if_neg e] at hb
      obtain ⟨a, b, c⟩ := ts p k (by omega) hb k1 kl
      rw [if_neg (by omega)]
      exact ⟨a, b, c⟩
  · dsimp only at hb
    by_cases e : j = md
    · exact ⟨nx, hnx, by rw [e]; simp [upd]⟩
    · rw [if_neg e] at hb
      obtain ⟨b, b1, b2⟩ := tt j (by omega) hb
      exact ⟨b, b1, by unfold upd; rw [if_neg e]; exact b2⟩
  · dsimp only
    by_cases e : j = h
    · subst e
      rw [upN_at, upN_at, if_pos rfl, if_pos rfl]
      exact ⟨by omega, rfl, fun z => by omega, fun _ => rfl⟩
    · rw [upN_ne _ _ e, upN_ne _ _ e]
      obtain ⟨a, b, c, d⟩ := sk j j1 (by omega)
      rw [if_neg (by omega), if_neg (by omega)]
      exact ⟨by omega, b, c, d⟩
  · by_cases e : j' = h
    · subst e
      rw [upN_at, upN_ne _ _ (by omega)]
      have := (sk j a (by omega)).1
      omega
    · rw [upN_ne _ _ e, upN_ne _ _ (by omega)]
      exact si j j' a b (by omega)
theorem tri_reduce (gw : GW n sy) {h hb md r : Nat} {sn X : Nat → Nat} {nd tk : Nat → Int32} {tb : Nat → Bool} {rl : Nat → Nat} {pa : Nat → Option (Nat × Nat)} {ch : Nat → Nat → Nat} (hh : 1 ≤ hb) (eh : h = hb + lnR sy r) (hmd : md < 150) (hr : r < n) (hX : ∀ k, 1 ≤ k → k ≤ lnR sy r → X (hb + k - 1) = sy r k) (t : TRI n sy nt h md sn X nd tk tb rl pa ch) :
    TRI n sy nt (hb + 1) (md + 1) (upN sn hb md) (upN X hb (sy r 0)) (chN sn hb md (lnR sy r) 1 (rnN nd md (nI (sy r 0)) (nI r))) (upd tk md (-1)) (fun j => if j = md then false else tb j) (upN rl md r) (fun j => if j = md then none else if fdK sn hb j (lnR sy r) = 0 then pa j else some (md, fdK sn hb j (lnR sy r))) (fun j k => if j = md then sn (hb + k - 1) else ch j k) := by
  obtain ⟨⟨-, tw⟩, tl, ts, tt, sk, si⟩ := t
  have hn := gw.1
  have hl := lnR_le sy r
  have hlf := gw.2.2.1 r hr
  obtain ⟨r0, r1, r2, r3⟩ := rnN_0 (nd := nd) (md := md) (x := nI (sy r 0)) (y := nI r)
  have snl : ∀ k, 1 ≤ k → k ≤ lnR sy r → sn (hb + k - 1) < md := fun k k1 kl => (sk (hb + k - 1) (by omega) (by omega)).1
  have sni : ∀ k k', 1 ≤ k → k < k' → k' ≤ lnR sy r → sn (hb + k - 1) ≠ sn (hb + k' - 1) := fun k k' a b c => si _ _ (by omega) (by omega) (by omega)
  have sne : ∀ k k', 1 ≤ k → k ≤ lnR sy r → 1 ≤ k' → k' ≤ lnR sy r → sn (hb + k - 1) = sn (hb + k' - 1) → k = k' := fun k k' a b c d e => by
    by_cases h1 : k < k'
    · exact absurd e (sni k k' a h1 d)
    · by_cases h2 : k' < k
      · exact absurd e.symm (sni k' k c h2 b)
      · omega
  -- facts of other nodes
  have oth : ∀ j c, j ≠ md → c < 8 → (fdK sn hb j (lnR sy r) = 0 ∨ (c ≠ 2 ∧ c ≠ 3)) → chN sn hb md (lnR sy r) 1 (rnN nd md (nI (sy r 0)) (nI r)) (j * 8 + c) = nd (j * 8 + c) := fun j c hj hc ho => by
    rw [chN_oth hc (Nat.le_refl _) (by omega) (fun k a b => ⟨fun z => absurd z hj, fun z => ho.elim (fun y => absurd z.symm (fdK_0 y k a (by omega))) id⟩)]
    exact rnN_c hc hj
  have own : ∀ c, c < 4 → chN sn hb md (lnR sy r) 1 (rnN nd md (nI (sy r 0)) (nI r)) (md * 8 + c) = rnN nd md (nI (sy r 0)) (nI r) (md * 8 + c) := fun c hc => chN_oth (by omega) (Nat.le_refl _) (by omega) (fun k a b => ⟨fun _ => by omega, fun z => by have := snl k a (by omega); omega⟩)
  have par := chN_par (sn := sn) (hb := hb) (md := md) (d := lnR sy r) (k := 1) (nd := rnN nd md (nI (sy r 0)) (nI r)) (Nat.le_refl _) (by omega) (fun k k' a b c => sni k k' a b (by omega)) (fun k a b => by have := snl k a (by omega); omega)
  have fdN : ∀ j, j ≠ md → fdK sn hb j (lnR sy r) ≠ 0 → pa j = none ∧ j < md := fun j _ hf => by
    obtain ⟨f1, f2, f3⟩ := fdK_s hf
    obtain ⟨a, b, -⟩ := sk (hb + fdK sn hb j (lnR sy r) - 1) (by omega) (by omega)
    rw [f3] at a b
    exact ⟨b, a⟩
  refine ⟨⟨by omega, fun j hj => ?_⟩, ⟨fun j p k hj hp => ?_, fun p k hp hbb k1 kl => ?_⟩, fun p k hp hbb k1 kl => ?_, fun j hj hbb => ?_, fun j j1 j2 => ?_, fun j j' a b c => ?_⟩
  · dsimp only
    by_cases e : j = md
    · rw [e, if_pos rfl, if_pos rfl, upN_at]
      refine ⟨fun z => (by cases z), fun _ => ⟨?_, hr, fun k k1 kl => ?_⟩, fun _ => ⟨?_, ?_⟩, fun p k z => (by cases z)⟩
      · rw [own 1 (by decide)]; exact r1
      · rw [if_pos rfl]
        exact ⟨chN_own (Nat.le_refl _) (by omega) (fun k a b => by have := snl k a (by omega); omega) k k1 (by omega), by have := snl k k1 kl; omega⟩
      · rw [own 2 (by decide)]; exact r2
      · rw [own 3 (by decide)]; exact r3
    · rw [if_neg e, if_neg e, upN_ne _ _ e, oth j 1 e (by decide) (Or.inr (by decide))]
      obtain ⟨a, b, c, d⟩ := tw j (by omega)
      refine ⟨a, fun z => ⟨(b z).1, (b z).2.1, fun k k1 kl => ?_⟩, fun z => ?_, fun p k z => ?_⟩
      · have hl2 := lnR_le sy (rl j)
        rw [oth j (4 + k - 1) e (by omega) (Or.inr (by omega)), if_neg e]
        obtain ⟨b1, b2⟩ := (b z).2.2 k k1 kl
        exact ⟨b1, by omega⟩
      · by_cases f : fdK sn hb j (lnR sy r) = 0
        · rw [if_pos f] at z
          rw [oth j 2 e (by decide) (Or.inl f), oth j 3 e (by decide) (Or.inl f)]
          exact c z
        · rw [if_neg f] at z; cases z
      · by_cases f : fdK sn hb j (lnR sy r) = 0
        · rw [if_pos f] at z
          rw [oth j 2 e (by decide) (Or.inl f), oth j 3 e (by decide) (Or.inl f)]
          obtain ⟨d1, d2, d3, d4, d5, d6⟩ := d p k z
          exact ⟨d1, d2, by omega, by rw [if_neg (by omega)]; exact d4, d5, by rw [upN_ne _ _ (by omega)]; exact d6⟩
        · rw [if_neg f] at z
          obtain ⟨f1, f2, f3⟩ := fdK_s f
          have e1 : p = md := by cases z; rfl
          have e2 : k = fdK sn hb j (lnR sy r) := by cases z; rfl
          obtain ⟨p1, p2⟩ := par _ f1 (by omega)
          rw [f3] at p1 p2
          rw [e1, e2, upN_at, if_pos rfl]
          exact ⟨p1, p2, by omega, rfl, f1, f2⟩
  · dsimp only at hp ⊢
    by_cases e : j = md
    · rw [if_pos e] at hp; cases hp
    · rw [if_neg e] at hp
      by_cases f : fdK sn hb j (lnR sy r) = 0
      · rw [if_pos f] at hp
        have := ((tw j (by omega)).2.2.2 p k hp).2.2.1
        rw [if_neg (by omega)]
        exact tl.1 j p k (by omega) hp
      · rw [if_neg f] at hp
        obtain ⟨f1, f2, f3⟩ := fdK_s f
        have e1 : p = md := by cases hp; rfl
        have e2 : k = fdK sn hb j (lnR sy r) := by cases hp; rfl
        rw [e1, e2, if_pos rfl]; exact f3
  · dsimp only at hbb ⊢
    by_cases e : p = md
    · rw [e, upN_at] at kl
      have hs := snl k k1 kl
      rw [e, if_pos rfl, if_neg (by omega)]
      have hf : fdK sn hb (sn (hb + k - 1)) (lnR sy r) ≠ 0 := fun z => fdK_0 z k k1 kl rfl
      obtain ⟨f1, f2, f3⟩ := fdK_s hf
      rw [if_neg hf, sne _ _ f1 f2 k1 kl f3]
    · rw [if_neg e] at hbb
      rw [upN_ne _ _ e] at kl
      have hc := (((tw p (by omega)).2.1 hbb).2.2 k k1 kl).2
      have hpa := tl.2 p k (by omega) hbb k1 kl
      rw [if_neg e, if_neg (by omega)]
      have hf : fdK sn hb (ch p k) (lnR sy r) = 0 := Classical.byContradiction fun z => by
        have := (fdN (ch p k) (by omega) z).1
        rw [hpa] at this; cases this
      rw [if_pos hf]; exact hpa
  · dsimp only at hbb ⊢
    by_cases e : p = md
    · rw [e, upN_at] at kl
      have hs := snl k k1 kl
      obtain ⟨-, -, s3, s4⟩ := sk (hb + k - 1) (by omega) (by omega)
      rw [hX k k1 kl] at s3 s4
      rw [e, upN_at, if_pos rfl, if_neg (by omega), upN_ne _ _ (by omega)]
      exact ⟨hs, s3, s4⟩
    · rw [if_neg e] at hbb
      rw [upN_ne _ _ e] at kl ⊢
      obtain ⟨a, b, c⟩ := ts p k (by omega) hbb k1 kl
      rw [if_neg e, if_neg (by omega), upN_ne _ _ (by omega)]
      exact ⟨a, b, c⟩
  · dsimp only at hbb
    by_cases e : j = md
    · rw [if_pos e] at hbb; cases hbb
    · rw [if_neg e] at hbb
      obtain ⟨b, b1, b2⟩ := tt j (by omega) hbb
      exact ⟨b, b1, by unfold upd; rw [if_neg e]; exact b2⟩
  · dsimp only
    by_cases e : j = hb
    · rw [e, upN_at, upN_at, if_pos rfl, if_pos rfl, upN_at]
      exact ⟨by omega, rfl, fun _ => ⟨rfl, rfl⟩, fun z => by omega⟩
    · rw [upN_ne _ _ e, upN_ne _ _ e]
      obtain ⟨a, b, c, d⟩ := sk j j1 (by omega)
      have hf : fdK sn hb (sn j) (lnR sy r) = 0 := Classical.byContradiction fun z => by
        obtain ⟨f1, f2, f3⟩ := fdK_s z
        exact si j _ j1 (show j < hb + fdK sn hb (sn j) (lnR sy r) - 1 by omega) (by omega) f3.symm
      rw [if_neg (by omega), if_pos hf, if_neg (by omega), upN_ne _ _ (by omega)]
      exact ⟨by omega, b, c, d⟩
  · by_cases e : j' = hb
    · rw [e, upN_at, upN_ne _ _ (by omega)]
      have := (sk j a (by omega)).1
      omega
    · rw [upN_ne _ _ e, upN_ne _ _ (by omega)]
      exact si j j' a b (by omega)
/-- what comes out of a run -/
def OUT (n : Nat) (sy : Nat → Nat → Nat) (nt : Nat) (o : Int32) (md : Nat) (nd tk : Nat → Int32) : Prop := (o = -1 ∨ o = -2 ∨ ∃ k, k ≤ nt ∧ o = nI k) ∧ ∃ tb rl pa ch, TW n sy md nd tb rl pa ch ∧ TLK sy md tb rl pa ch ∧ TSY sy md tb rl ch ∧ ∀ j, j < md → tb j = true → ∃ b, b < nt ∧ tk j = nI b
end S87
