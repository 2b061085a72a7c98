/-! ===== mathematics: a run over a table without conflicts comes out, and leaves a tree ===== -/
theorem rcF_is {P : Nat → Prop} : ∀ {k : Nat}, (rcF P k).1 ≠ 0 → P (rcF P k).2 ∧ (rcF P k).2 < k
  | 0, h => absurd rfl h
  | k + 1, h => by
    by_cases c : P k
    · rw [rcF_yes c]; exact ⟨c, by show k < k + 1; omega⟩
    · rw [rcF_no c] at h ⊢
      have := rcF_is h
      exact ⟨this.1, by omega⟩
theorem cjF_0 {D : Nat → Int32} : ∀ {k : Nat}, cjF D k = 0 → ∀ j, j < k → D j ≠ nI 1001
  | 0, _, _, h => by omega
  | k + 1, h, j, hj => by
    rw [cjF_s] at h
    by_cases c : D k = nI 1001
    · rw [if_pos c] at h; omega
    · rw [if_neg c] at h
      by_cases e : j = k
      · rw [e]; exact c
      · exact cjF_0 h j (by omega)
section S86
variable {n S nt : Nat} {sy : Nat → Nat → Nat} {T G : Nat → Nat → Nat} {D : Nat → Nat → Int32} {pr : Nat → Nat → Prop} {TT : Nat → Nat}
/-- .. a state in which a rule begins is left by its left side -/
theorem dot0 (gw : GW n sy) (lc : LCt n sy T S pr) (h00 : ∀ P : Nat → Prop, P 70 → clS n sy P → ∀ it, it < 75 → pr 0 it → P it) {p r : Nat} (hp : p < S) (hk : p = 0 ∨ ∃ s x, s < S ∧ 1 ≤ x ∧ x < 14 ∧ 0 < T s x ∧ p = T s x) (hr : r < n) (h : pr p (r * 5)) : 0 < T p (sy r 0) := by
  have hn := gw.1
  have hlf := gw.2.2.1 r hr
  have key : ∃ it, it < 75 ∧ pr p it ∧ bh sy it = sy r 0 := by
    have cl : clS n sy (fun it => pr p it ∧ (it % 5 = 0 → it / 5 < n → ∃ it', it' < 75 ∧ pr p it' ∧ bh sy it' = sy (it / 5) 0)) := fun it hi ih r hr e => ⟨lc.2.2.1 p hp it hi ih.1 r hr e, fun _ _ => ⟨it, hi, ih.1, by rw [show r * 5 / 5 = r by omega]; exact e.symm⟩⟩
    have : (fun it => pr p it ∧ (it % 5 = 0 → it / 5 < n → ∃ it', it' < 75 ∧ pr p it' ∧ bh sy it' = sy (it / 5) 0)) (r * 5) := by
      rcases hk with hk | ⟨s, x, h1, h2, h3, h4, h5⟩
      · refine h00 _ ⟨by rw [hk]; exact lc.2.2.2.1.1, fun _ h => by omega⟩ cl (r * 5) (by omega) (by rw [← hk]; exact h)
      · refine (lc.2.2.2.2.2.1 s x h1 h2 h3 h4).2.1 _ (fun it hi hpi hb => ?_) cl (r * 5) (by omega) (by rw [← h5]; exact h)
        have hd := bh_dot (sy := sy) (it := it) (by omega)
        have := (lc.2.2.2.2.1 s it h1 hi hpi (by omega)).2
        rw [hb, ← h5] at this
        exact ⟨this, fun z => by omega⟩
    have := this.2 (by omega) (by omega)
    rw [show r * 5 / 5 = r by omega] at this
    exact this
  obtain ⟨it, h1, h2, h3⟩ := key
  have := (lc.2.2.2.2.1 p it hp h1 h2 (by omega)).1
  rw [h3] at this; exact this
/-- the stack: states, and the symbols between them -/
def STK (T : Nat → Nat → Nat) (S h : Nat) (ss X : Nat → Nat) : Prop := 1 ≤ h ∧ ss 0 = 0 ∧ 0 < S ∧ ∀ j, 1 ≤ j → j < h → 1 ≤ X j ∧ X j < 14 ∧ 0 < T (ss (j - 1)) (X j) ∧ ss j = T (ss (j - 1)) (X j) ∧ ss (j - 1) < S ∧ ss j < S
theorem STK.lt {h : Nat} {ss X : Nat → Nat} (st : STK T S h ss X) {j : Nat} (hj : j < h) : ss j < S := by
  by_cases e : j = 0
  · rw [e, st.2.1]; exact st.2.2.1
  · exact (st.2.2.2 j (by omega) hj).2.2.2.2.2
theorem STK.via {h : Nat} {ss X : Nat → Nat} (st : STK T S h ss X) {j : Nat} (hj : j < h) : ss j = 0 ∨ ∃ s x, s < S ∧ 1 ≤ x ∧ x < 14 ∧ 0 < T s x ∧ ss j = T s x := by
  by_cases e : j = 0
  · left; rw [e]; exact st.2.1
  · obtain ⟨a, b, c, d, f, -⟩ := st.2.2.2 j (by omega) hj
    exact Or.inr ⟨_, _, f, a, b, c, d⟩
theorem STK.push {h x : Nat} {ss X : Nat → Nat} (st : STK T S h ss X) (hx : 1 ≤ x ∧ x < 14) (hp : 0 < T (ss (h - 1)) x) (hS : T (ss (h - 1)) x < S) : STK T S (h + 1) (upN ss h (T (ss (h - 1)) x)) (upN X h x) := by
  have h1 := st.1
  have hl := st.lt (j := h - 1) (by omega)
  refine ⟨by omega, by rw [upN_ne _ _ (by omega)]; exact st.2.1, st.2.2.1, fun j j1 j2 => ?_⟩
  by_cases e : j = h
  · subst e
    rw [upN_at, upN_at, upN_ne _ _ (show j - 1 ≠ j by omega)]
    exact ⟨hx.1, hx.2, hp, rfl, hl, hS⟩
  · rw [upN_ne _ _ e, upN_ne _ _ e, upN_ne _ _ (show j - 1 ≠ h by omega)]
    exact st.2.2.2 j j1 (by omega)
theorem STK.cut {h h' : Nat} {ss X : Nat → Nat} (st : STK T S h ss X) (h1 : 1 ≤ h') (hle : h' ≤ h) : STK T S h' ss X := ⟨h1, st.2.1, st.2.2.1, fun j j1 j2 => st.2.2.2 j j1 (by omega)⟩
/-- what a rule at its end says of the stack -/
theorem STK.back (gw : GW n sy) (lc : LCt n sy T S pr) {h r : Nat} {ss X : Nat → Nat} (st : STK T S h ss X) (hr : r < n) (hp : pr (ss (h - 1)) (r * 5 + lnR sy r)) : ∀ m, m ≤ lnR sy r → m + 1 ≤ h ∧ pr (ss (h - 1 - m)) (r * 5 + (lnR sy r - m)) ∧ ∀ k, lnR sy r - m < k → k ≤ lnR sy r → X (h - 1 - (lnR sy r - k)) = sy r k
  | 0, _ => ⟨st.1, hp, fun k a b => by omega⟩
  | m + 1, hm => by
    have hn := gw.1
    have hl := lnR_le sy r
    obtain ⟨a, b, c⟩ := STK.back gw lc st hr hp m (by omega)
    have hj : m + 2 ≤ h := by
      by_cases e : h = m + 1
      · have h0 : ss (h - 1 - m) = 0 := by rw [show h - 1 - m = 0 by omega]; exact st.2.1
        rw [h0] at b
        have := lc.2.2.2.2.2.2 _ (by omega) b
        omega
      · omega
    obtain ⟨s1, s2, s3, s4, s5, s6⟩ := st.2.2.2 (h - 1 - m) (by omega) (by omega)
    have b2 : pr (T (ss (h - 1 - m - 1)) (X (h - 1 - m))) (r * 5 + (lnR sy r - (m + 1)) + 1) := by
      rw [← s4, show r * 5 + (lnR sy r - (m + 1)) + 1 = r * 5 + (lnR sy r - m) by omega]; exact b
    obtain ⟨p1, p2⟩ := (lc.2.2.2.2.2.1 _ _ s5 s1 s2 s3).2.2 _ (by omega) (by omega) b2
    have hbh := (bh_at gw (show r < 15 by omega) (show lnR sy r - (m + 1) < lnR sy r by omega)).1
    rw [hbh, show lnR sy r - (m + 1) + 1 = lnR sy r - m by omega] at p2
    refine ⟨hj, by rw [show h - 1 - (m + 1) = h - 1 - m - 1 by omega]; exact p1, fun k k1 k2 => ?_⟩
    by_cases e : k = lnR sy r - m
    · rw [e, show h - 1 - (lnR sy r - (lnR sy r - m)) = h - 1 - m by omega]; exact p2.symm
    · exact c k (by omega) k2
end S86
/-! facts of nodes -/
theorem rnN_c {nd : Nat → Int32} {md j c : Nat} {x y : Int32} (hc : c < 8) (h : j ≠ md) : rnN nd md x y (j * 8 + c) = nd (j * 8 + c) := by
  unfold rnN upd
  rw [if_neg (by omega), if_neg (by omega), if_neg (by omega), if_neg (by omega)]
theorem rnN_0 {nd : Nat → Int32} {md : Nat} {x y : Int32} : rnN nd md x y (md * 8 + 0) = x ∧ rnN nd md x y (md * 8 + 1) = y ∧ rnN nd md x y (md * 8 + 2) = -1 ∧ rnN nd md x y (md * 8 + 3) = nI 0 := by
  unfold rnN upd
  refine ⟨?_, ?_, ?_, ?_⟩
  · rw [if_neg (by omega), if_neg (by omega), if_neg (by omega), if_pos rfl]
  · rw [if_neg (by omega), if_neg (by omega), if_pos rfl]
  · rw [if_neg (by omega), if_pos rfl]
  · rw [if_pos rfl]
theorem scN_c {nd : Nat → Int32} {a k x j c : Nat} (hc : c < 8) (h1 : j = a → c ≠ 4 + k - 1) (h2 : j = x → c ≠ 2 ∧ c ≠ 3) (hk : 1 ≤ k ∧ k ≤ 4) : scN nd a k x (j * 8 + c) = nd (j * 8 + c) := by
  unfold scN upd
  rw [if_neg (by intro e; have hz : j = x := (by omega); have := h2 hz; omega), if_neg (by intro e; have hz : j = x := (by omega); have := h2 hz; omega), if_neg (by intro e; have hz : j = a := (by omega); have := h1 hz; omega)]
theorem chN_oth {sn : Nat → Nat} {hb md j c : Nat} (hc : c < 8) : ∀ {d k : Nat} {nd : Nat → Int32}, 1 ≤ k → k + d ≤ 5 → (∀ k', k ≤ k' → k' < k + d → (j = md → c ≠ 4 + k' - 1) ∧ (j = sn (hb + k' - 1) → c ≠ 2 ∧ c ≠ 3)) → chN sn hb md d k nd (j * 8 + c) = nd (j * 8 + c)
  | 0, _, _, _, _, _ => rfl
  | d + 1, k, nd, h1, h5, h => by
    show chN sn hb md d (k + 1) (scN nd md k (sn (hb + k - 1))) (j * 8 + c) = _
    rw [chN_oth hc (by omega) (by omega) (fun k' a b => h k' (by omega) (by omega))]
    exact scN_c hc (h k (by omega) (by omega)).1 (h k (by omega) (by omega)).2 (by omega)
theorem chN_own {sn : Nat → Nat} {hb md : Nat} : ∀ {d k : Nat} {nd : Nat → Int32}, 1 ≤ k → k + d ≤ 5 → (∀ k', k ≤ k' → k' < k + d → sn (hb + k' - 1) ≠ md) → ∀ k', k ≤ k' → k' < k + d → chN sn hb md d k nd (md * 8 + (4 + k' - 1)) = nI (sn (hb + k' - 1))
  | 0, _, _, _, _, _, _, _, _ => by omega
  | d + 1, k, nd, h1, h5, h, k', a, b => by
    show chN sn hb md d (k + 1) (scN nd md k (sn (hb + k - 1))) _ = _
    by_cases e : k' = k
    · subst e
      rw [chN_oth (by omega) (by omega) (by omega) (fun k'' a b => ⟨fun _ => by omega, fun z => absurd z.symm (h k'' (by omega) (by omega))⟩)]
      have := h k' (by omega) (by omega)
      unfold scN upd
      rw [if_neg (by omega), if_neg (by omega), if_pos rfl]
    · exact chN_own (by omega) (by omega) (fun k'' a b => h k'' (by omega) (by omega)) k' (by omega) (by omega)
theorem chN_par {sn : Nat → Nat} {hb md : Nat} : ∀ {d k : Nat} {nd : Nat → Int32}, 1 ≤ k → k + d ≤ 5 → (∀ k' k'', k ≤ k' → k' < k'' → k'' < k + d → sn (hb + k' - 1) ≠ sn (hb + k'' - 1)) → (∀ k', k ≤ k' → k' < k + d → sn (hb + k' - 1) ≠ md) → ∀ k', k ≤ k' → k' < k + d → chN sn hb md d k nd (sn (hb + k' - 1) * 8 + 2) = nI md ∧ chN sn hb md d k nd (sn (hb + k' - 1) * 8 + 3) = nI k'
  | 0, _, _, _, _, _, _, _, _, _ => by omega
  | d + 1, k, nd, h1, h5, h, hm, k', a, b => by
    show chN sn hb md d (k + 1) (scN nd md k (sn (hb + k - 1))) _ = _ ∧ chN sn hb md d (k + 1) (scN nd md k (sn (hb + k - 1))) _ = _
    by_cases e : k' = k
    · subst e
      have hx : ∀ k'', k' + 1 ≤ k'' → k'' < k' + 1 + d → (sn (hb + k' - 1) = sn (hb + k'' - 1) → False) := fun k'' a b => h k' k'' (Nat.le_refl _) (by omega) (by omega)
      have hm' := hm k' (Nat.le_refl _) (by omega)
      rw [chN_oth (by omega) (by omega) (by omega) (fun k'' a b => ⟨fun z => absurd z hm', fun z => absurd z (hx k'' a b)⟩), chN_oth (by omega) (by omega) (by omega) (fun k'' a b => ⟨fun z => absurd z hm', fun z => absurd z (hx k'' a b)⟩)]
      unfold scN upd
      constructor
      · rw [if_neg (by omega), if_pos rfl]
      · rw [if_pos rfl]
    · exact chN_par (by omega) (by omega) (fun a b c d e => h a b (by omega) d (by omega)) (fun a b c => hm a (by omega) (by omega)) k' (by omega) (by omega)
