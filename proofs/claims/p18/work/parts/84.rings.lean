/-! ===== mathematics: rings by unions of ways are rings by a choice of ways ===== -/
/-- a way of at least one step -/
def TC (R : Nat → Nat → Prop) (a b : Nat) : Prop := ∀ P : Nat → Prop, (∀ b, R a b → P b) → (∀ b c, P b → R b c → P c) → P b
theorem TC.base {R : Nat → Nat → Prop} {a b : Nat} (h : R a b) : TC R a b := fun _ h1 _ => h1 b h
theorem TC.step {R : Nat → Nat → Prop} {a b c : Nat} (h : TC R a b) (h2 : R b c) : TC R a c := fun P h1 hs => hs b c (h P h1 hs) h2
theorem TC.trans {R : Nat → Nat → Prop} {a b c : Nat} (h : TC R a b) (h2 : TC R b c) : TC R a c := h2 (fun c => TC R a c) (fun c hc => h.step hc) (fun b c hb hc => hb.step hc)
theorem TC.mono {R R' : Nat → Nat → Prop} (hR : ∀ a b, R a b → R' a b) {a b : Nat} (h : TC R a b) : TC R' a b := h (fun b => TC R' a b) (fun b hb => .base (hR _ _ hb)) (fun b c hb hc => hb.step (hR _ _ hc))
theorem TC.split {R : Nat → Nat → Prop} {U : Nat → Prop} {v a b : Nat} (h : TC (fun a b => R a b ∨ (U a ∧ b = v)) a b) : TC R a b ∨ ∃ u, U u ∧ (a = u ∨ TC R a u) ∧ (b = v ∨ TC R v b) := by
  refine h (fun b => TC R a b ∨ ∃ u, U u ∧ (a = u ∨ TC R a u) ∧ (b = v ∨ TC R v b)) (fun b hb => ?_) (fun b c ih hb => ?_)
  · rcases hb with hb | ⟨hb, e⟩
    · exact Or.inl (.base hb)
    · exact Or.inr ⟨a, hb, Or.inl rfl, Or.inl e⟩
  · rcases hb with hb | ⟨hb, e⟩
    · rcases ih with ih | ⟨u, h1, h2, h3⟩
      · exact Or.inl (ih.step hb)
      · refine Or.inr ⟨u, h1, h2, Or.inr ?_⟩
        rcases h3 with h3 | h3
        · rw [h3] at hb; exact .base hb
        · exact h3.step hb
    · rcases ih with ih | ⟨u, h1, h2, h3⟩
      · exact Or.inr ⟨b, hb, Or.inr ih, Or.inl e⟩
      · exact Or.inr ⟨u, h1, h2, Or.inl e⟩
theorem TC.join {R : Nat → Nat → Prop} {u v a b : Nat} (huv : R u v) (h2 : a = u ∨ TC R a u) (h3 : b = v ∨ TC R v b) : TC R a b := by
  have h1 : TC R a v := by
    rcases h2 with h2 | h2
    · rw [h2]; exact .base huv
    · exact h2.step huv
  rcases h3 with h3 | h3
  · rw [h3]; exact h1
  · exact h1.trans h3
theorem psN_tb {t : Nat} {H : Nat → Nat} {p u : Nat} : (psN t H p).testBit u = true ↔ (H p).testBit u = true ∨ ((H p).testBit t = true ∧ (H t).testBit u = true) := by
  unfold psN
  by_cases c : (H p).testBit t = true
  · rw [if_pos c, Nat.testBit_or, Bool.or_eq_true]
    exact ⟨fun h => h.imp id (fun h => ⟨c, h⟩), fun h => h.imp id (fun h => h.2)⟩
  · rw [if_neg c]
    exact ⟨Or.inl, fun h => h.elim id (fun h => absurd h.1 c)⟩
theorem wsN_sub {H : Nat → Nat} {p u : Nat} (h : (H p).testBit u = true) : ∀ k, (wsN H k p).testBit u = true
  | 0 => h
  | k + 1 => psN_tb.mpr (Or.inl (wsN_sub h k))
theorem wsN_tc {H : Nat → Nat} : ∀ {k p u : Nat}, (wsN H k p).testBit u = true → TC (fun a b => (H a).testBit b = true) p u
  | 0, _, _, h => .base h
  | k + 1, p, u, h => by
    rcases psN_tb.mp h with h | ⟨h, h2⟩
    · exact wsN_tc h
    · exact (wsN_tc h).trans (wsN_tc h2)
theorem wsN_tr {H : Nat → Nat} : ∀ {k p t u : Nat}, t < k → (wsN H k p).testBit t = true → (wsN H k t).testBit u = true → (wsN H k p).testBit u = true
  | 0, _, _, _, h, _, _ => by omega
  | k + 1, p, t, u, h, h1, h2 => by
    have h1 := psN_tb.mp h1
    have h2 := psN_tb.mp h2
    refine psN_tb.mpr ?_
    by_cases e : t = k
    · subst e
      have h1 : (wsN H t p).testBit t = true := h1.elim id (fun z => z.1)
      have h2 : (wsN H t t).testBit u = true := h2.elim id (fun z => z.2)
      exact Or.inr ⟨h1, h2⟩
    · have htk : t < k := by omega
      rcases h1 with a | ⟨a, b⟩
      · rcases h2 with c | ⟨c, d⟩
        · exact Or.inl (wsN_tr htk a c)
        · exact Or.inr ⟨wsN_tr htk a c, d⟩
      · rcases h2 with c | ⟨c, d⟩
        · exact Or.inr ⟨a, wsN_tr htk b c⟩
        · exact Or.inr ⟨a, d⟩
theorem lt15_of {a t : Nat} (h : a < 2 ^ 15) (ht : a.testBit t = true) : t < 15 := by
  by_cases c : t < 15
  · exact c
  · have := Nat.testBit_lt_two_pow (x := a) (i := t) (Nat.lt_of_lt_of_le h (Nat.pow_le_pow_right (by decide) (by omega)))
    rw [this] at ht; cases ht
theorem ws_iff {H : Nat → Nat} (hH : ∀ p, p < 15 → H p < 2 ^ 15) {p t : Nat} (hp : p < 15) : (wsN H 15 p).testBit t = true ↔ TC (fun a b => (H a).testBit b = true) p t := by
  refine ⟨wsN_tc, fun h => ?_⟩
  refine (h (fun t => (wsN H 15 p).testBit t = true ∧ t < 15) (fun b hb => ⟨wsN_sub hb 15, lt15_of (hH p hp) hb⟩) (fun b c ih hb => ?_)).1
  exact ⟨wsN_tr ih.2 ih.1 (wsN_sub hb 15), lt15_of (hH b ih.2) hb⟩
/-- what hangs on what, the children's bits by m -/
def Eg (op xp yp : Nat → Nat) (r ln : Nat) (m : Nat → Nat) (a b : Nat) : Prop := (eqm op xp yp (r * 15 + a)).testBit b = true ∨ (3 ≤ a ∧ a / 3 < ln + 1 ∧ a % 3 < 2 ∧ (m (a / 3)).testBit (a % 3) = true ∧ b = a / 3 * 3 + 2)
theorem hgQ_tb {op xp yp m : Nat → Nat} {r ln a b : Nat} : (hgQ op xp yp m r (ln + 1) a).testBit b = true ↔ Eg op xp yp r ln m a b := by
  unfold hgQ Eg
  rw [Nat.testBit_or, Bool.or_eq_true]
  refine or_congr Iff.rfl ?_
  by_cases c : 3 ≤ a ∧ a / 3 < ln + 1 ∧ a % 3 < 2 ∧ (m (a / 3)).testBit (a % 3) = true
  · rw [if_pos c, Nat.testBit_two_pow, decide_eq_true_eq]
    exact ⟨fun h => ⟨c.1, c.2.1, c.2.2.1, c.2.2.2, h.symm⟩, fun h => h.2.2.2.2.symm⟩
  · rw [if_neg c, Nat.zero_testBit]
    exact ⟨fun h => (by cases h), fun h => absurd ⟨h.1, h.2.1, h.2.2.1, h.2.2.2.1⟩ c⟩
theorem hgW_iff {sy : Nat → Nat → Nat} {op xp yp m : Nat → Nat} {r p t : Nat} (es : ESw op xp yp) (hp : p < 15) : (hgW sy op xp yp m r p).testBit t = true ↔ TC (Eg op xp yp r (lnR sy r) m) p t := by
  have h := ws_iff (H := hgQ op xp yp m r (lnR sy r + 1)) (fun p hp => hgQ_lt es hp) (t := t) hp
  have e : (fun a b => (hgQ op xp yp m r (lnR sy r + 1) a).testBit b = true) = Eg op xp yp r (lnR sy r) m := by
    funext a b; exact propext hgQ_tb
  rw [e] at h; exact h
theorem Eg_mono {op xp yp m m' : Nat → Nat} {r ln : Nat} (h : ∀ k t, 1 ≤ k → k ≤ ln → t < 2 → (m k).testBit t = true → (m' k).testBit t = true) : ∀ a b, Eg op xp yp r ln m a b → Eg op xp yp r ln m' a b := fun a b hE => hE.imp id fun z => ⟨z.1, z.2.1, z.2.2.1, h _ _ (by omega) (by omega) z.2.2.1 z.2.2.2.1, z.2.2.2.2⟩
/-- one child's bits can be put down to one of its ways -/
theorem Eg_pick {op xp yp m : Nat → Nat} {r ln k a b : Nat} {Ws : Nat → Prop} (hk : 1 ≤ k) (h0 : ∃ w, Ws w) (h1 : ∀ t, t < 2 → (m k).testBit t = true → ∃ w, Ws w ∧ w.testBit t = true) (h : TC (Eg op xp yp r ln m) a b) : ∃ w, Ws w ∧ TC (Eg op xp yp r ln (upN m k w)) a b := by
  by_cases hln : k ≤ ln
  · have hs : TC (fun a b => Eg op xp yp r ln (upN m k 0) a b ∨ (((a = 3 * k ∧ (m k).testBit 0 = true) ∨ (a = 3 * k + 1 ∧ (m k).testBit 1 = true)) ∧ b = 3 * k + 2)) a b := h.mono fun a b hE => by
      rcases hE with hE | ⟨e1, e2, e3, e4, e5⟩
      · exact Or.inl (Or.inl hE)
      · by_cases c : a / 3 = k
        · refine Or.inr ⟨?_, by omega⟩
          rcases (show a % 3 = 0 ∨ a % 3 = 1 by omega) with z | z
          · rw [c, z] at e4; exact Or.inl ⟨by omega, e4⟩
          · rw [c, z] at e4; exact Or.inr ⟨by omega, e4⟩
        · exact Or.inl (Or.inr ⟨e1, e2, e3, by rw [upN_ne _ _ c]; exact e4, e5⟩)
    have hm : ∀ w, ∀ a b, Eg op xp yp r ln (upN m k 0) a b → Eg op xp yp r ln (upN m k w) a b := fun w => Eg_mono fun k' t a b c d => by
      by_cases e : k' = k
      · rw [e, upN_at, Nat.zero_testBit] at d; cases d
      · rw [upN_ne _ _ e] at d ⊢; exact d
    rcases hs.split with h2 | ⟨u, hu, h3, h4⟩
    · obtain ⟨w, hw⟩ := h0
      exact ⟨w, hw, h2.mono (hm w)⟩
    · have key : ∃ w, Ws w ∧ Eg op xp yp r ln (upN m k w) u (3 * k + 2) := by
        rcases hu with ⟨e, hb⟩ | ⟨e, hb⟩
        · obtain ⟨w, hw, hw2⟩ := h1 0 (by decide) hb
          refine ⟨w, hw, Or.inr ⟨by omega, by omega, by omega, ?_, by omega⟩⟩
          rw [show u / 3 = k by omega, show u % 3 = 0 by omega, upN_at]; exact hw2
        · obtain ⟨w, hw, hw2⟩ := h1 1 (by decide) hb
          refine ⟨w, hw, Or.inr ⟨by omega, by omega, by omega, ?_, by omega⟩⟩
          rw [show u / 3 = k by omega, show u % 3 = 1 by omega, upN_at]; exact hw2
      obtain ⟨w, hw, hw2⟩ := key
      exact ⟨w, hw, TC.join hw2 (h3.imp id (fun z => z.mono (hm w))) (h4.imp id (fun z => z.mono (hm w)))⟩
  · obtain ⟨w, hw⟩ := h0
    refine ⟨w, hw, h.mono (Eg_mono fun k' t a b c d => ?_)⟩
    rw [upN_ne _ _ (by omega)]; exact d
theorem pkC_of {w1 w2 w3 w4 : Nat} (h1 : w1 < 4) (h2 : w2 < 4) (h3 : w3 < 4) (h4 : w4 < 4) : w1 + 4 * w2 + 16 * w3 + 64 * w4 < 256 ∧ pkC (w1 + 4 * w2 + 16 * w3 + 64 * w4) 1 = w1 ∧ pkC (w1 + 4 * w2 + 16 * w3 + 64 * w4) 2 = w2 ∧ pkC (w1 + 4 * w2 + 16 * w3 + 64 * w4) 3 = w3 ∧ pkC (w1 + 4 * w2 + 16 * w3 + 64 * w4) 4 = w4 := by
  have e : ∀ a, a &&& 3 = a % 4 := fun a => Nat.and_two_pow_sub_one_eq_mod a 2
  unfold pkC
  rw [e, e, e, e]
  have p0 : 2 ^ (2 * (1 - 1)) = 1 := rfl
  have p1 : 2 ^ (2 * (2 - 1)) = 4 := rfl
  have p2 : 2 ^ (2 * (3 - 1)) = 16 := rfl
  have p3 : 2 ^ (2 * (4 - 1)) = 64 := rfl
  rw [p0, p1, p2, p3]
  omega
/-- .. and so for all children -/
theorem Eg_all {op xp yp m : Nat → Nat} {r ln a b : Nat} {Ws : Nat → Nat → Prop} (h4 : ∀ k w, Ws k w → w < 4) (h0 : ∀ k, 1 ≤ k → k ≤ 4 → ∃ w, Ws k w) (h1 : ∀ k t, 1 ≤ k → k ≤ 4 → t < 2 → (m k).testBit t = true → ∃ w, Ws k w ∧ w.testBit t = true) (hln : ln ≤ 4) (h : TC (Eg op xp yp r ln m) a b) :
    ∃ c, c < 256 ∧ (∀ k, 1 ≤ k → k ≤ 4 → Ws k (pkC c k)) ∧ TC (Eg op xp yp r ln (pkC c)) a b := by
  obtain ⟨w1, q1, t1⟩ := Eg_pick (k := 1) (by decide) (h0 1 (by decide) (by decide)) (fun t ht z => h1 1 t (by decide) (by decide) ht z) h
  obtain ⟨w2, q2, t2⟩ := Eg_pick (k := 2) (by decide) (h0 2 (by decide) (by decide)) (fun t ht z => h1 2 t (by decide) (by decide) ht (by rw [upN_ne _ _ (by decide)] at z; exact z)) t1
  obtain ⟨w3, q3, t3⟩ := Eg_pick (k := 3) (by decide) (h0 3 (by decide) (by decide)) (fun t ht z => h1 3 t (by decide) (by decide) ht (by rw [upN_ne _ _ (by decide), upN_ne _ _ (by decide)] at z; exact z)) t2
  obtain ⟨w4, q4, t4⟩ := Eg_pick (k := 4) (by decide) (h0 4 (by decide) (by decide)) (fun t ht z => h1 4 t (by decide) (by decide) ht (by rw [upN_ne _ _ (by decide), upN_ne _ _ (by decide), upN_ne _ _ (by decide)] at z; exact z)) t3
  obtain ⟨c0, c1, c2, c3, c4⟩ := pkC_of (h4 _ _ q1) (h4 _ _ q2) (h4 _ _ q3) (h4 _ _ q4)
  refine ⟨_, c0, fun k k1 k4 => ?_, t4.mono (Eg_mono fun k t k1 kl _ z => ?_)⟩
  · rcases (show k = 1 ∨ k = 2 ∨ k = 3 ∨ k = 4 by omega) with rfl | rfl | rfl | rfl
    · rw [c1]; exact q1
    · rw [c2]; exact q2
    · rw [c3]; exact q3
    · rw [c4]; exact q4
  · rcases (show k = 1 ∨ k = 2 ∨ k = 3 ∨ k = 4 by omega) with rfl | rfl | rfl | rfl
    · rw [c1]; simpa [upN] using z
    · rw [c2]; simpa [upN] using z
    · rw [c3]; simpa [upN] using z
    · rw [c4]; simpa [upN] using z
theorem sh1 {a t : Nat} : a / 2 ^ t &&& 1 = if a.testBit t = true then 1 else 0 := by
  by_cases c : a.testBit t = true
  · rw [if_pos c]
    have h1 : a / 2 ^ t &&& 1 ≠ 0 := fun z => tb_shift.mp z c
    have h2 : a / 2 ^ t &&& 1 ≤ 1 := Nat.and_le_right
    omega
  · rw [if_neg c]; exact tb_shift.mpr c
theorem tb_lo {b0 b1 : Nat} (h0 : b0 ≤ 1) (h1 : b1 ≤ 1) : b0 + 2 * b1 < 4 ∧ ((b0 + 2 * b1).testBit 0 = true ↔ b0 = 1) ∧ ((b0 + 2 * b1).testBit 1 = true ↔ b1 = 1) := by
  rcases (show b0 = 0 ∨ b0 = 1 by omega) with rfl | rfl <;> rcases (show b1 = 0 ∨ b1 = 1 by omega) with rfl | rfl <;> decide
section S84
variable {n : Nat} {sy : Nat → Nat → Nat} {op xp yp tr H : Nat → Nat}
/-- no equation stands at a child's synthesized place -/
def EqD (op : Nat → Nat) : Prop := ∀ r k, r < 14 → 1 ≤ k → k ≤ 4 → op (r * 15 + 3 * k) = 0 ∧ op (r * 15 + (3 * k + 1)) = 0
theorem hgB_eq (ed : EqD op) {r : Nat} (hr : r < 14) : hgB sy op xp yp tr r (lnR sy r + 1) = hgQ op xp yp (fun k => tr (sy r k)) r (lnR sy r + 1) := by
  have hl := lnR_le sy r
  funext p
  unfold hgB hgQ
  by_cases c : 3 ≤ p ∧ p / 3 < lnR sy r + 1 ∧ p % 3 < 2
  · have h0 : op (r * 15 + p) = 0 := by
      obtain ⟨e1, e2⟩ := ed r (p / 3) hr (by omega) (by omega)
      rcases (show p = 3 * (p / 3) ∨ p = 3 * (p / 3) + 1 by omega) with z | z
      · rw [z]; exact e1
      · rw [z]; exact e2
    have e0 : eqm op xp yp (r * 15 + p) = 0 := by
      unfold eqm
      rw [if_neg (by omega), if_neg (by omega)]; rfl
    rw [if_pos c, e0, Nat.zero_or]
    by_cases d : (tr (sy r (p / 3))).testBit (p % 3) = true
    · rw [if_pos d, if_pos ⟨c.1, c.2.1, c.2.2, d⟩]
    · rw [if_neg d, if_neg (fun z => d z.2.2.2)]
  · rw [if_neg c, if_neg (fun z => c ⟨z.1, z.2.1, z.2.2.1⟩), Nat.or_zero]
/-- the bits of the ways of a symbol -/
noncomputable def wyU (H : Nat → Nat) (x : Nat) : Nat := if 1 ≤ x ∧ x ≤ 6 then 4 else if 8 ≤ x ∧ x ≤ 13 then bO (fun t => ∃ w, w < 4 ∧ H (4 * x + w) ≠ 0 ∧ (t = 2 ∨ w.testBit t = true)) 3 else 0
theorem wyU_tb {H : Nat → Nat} {x t : Nat} (hx : 8 ≤ x ∧ x ≤ 13) : (wyU H x).testBit t = true ↔ t < 3 ∧ ∃ w, w < 4 ∧ H (4 * x + w) ≠ 0 ∧ (t = 2 ∨ w.testBit t = true) := by
  unfold wyU; rw [if_neg (by omega), if_pos hx, bO_tb]
theorem way_nvT {sy : Nat → Nat → Nat} {W : Nat → Nat} {r : Nat} : ∃ w, w < 4 ∧ wayR sy W r = 4 * sy r 0 + w ∧ (w.testBit 0 = true ↔ (W 0).testBit 2 = true) ∧ (w.testBit 1 = true ↔ (W 1).testBit 2 = true) := by
  have h0 : W 0 / 2 ^ 2 &&& 1 ≤ 1 := Nat.and_le_right
  have h1 : W 1 / 2 ^ 2 &&& 1 ≤ 1 := Nat.and_le_right
  obtain ⟨a, b, c⟩ := tb_lo h0 h1
  refine ⟨_, a, by unfold wayR; omega, b.trans ?_, c.trans ?_⟩
  · rw [sh1]; split
    · rename_i z; exact ⟨fun _ => z, fun _ => rfl⟩
    · rename_i z; exact ⟨fun y => by omega, fun y => absurd y z⟩
  · rw [sh1]; split
    · rename_i z; exact ⟨fun _ => z, fun _ => rfl⟩
    · rename_i z; exact ⟨fun y => by omega, fun y => absurd y z⟩
/-- a choice for a rule all of whose children have a way -/
theorem pick_of (gw : GW n sy) {r a b : Nat} (hr : r < n) (hm : mkT sy (wyU H) r) (h : TC (Eg op xp yp r (lnR sy r) (fun k => wyU H (sy r k))) a b) : ∃ c, c < 256 ∧ posP sy H r c ∧ TC (Eg op xp yp r (lnR sy r) (pkC c)) a b := by
  have hn := gw.1
  have hl := lnR_le sy r
  obtain ⟨Ws, hWs⟩ : ∃ Ws : Nat → Nat → Prop, Ws = fun k w => w < 4 ∧ (¬ ntB (sy r k) = 0 → H (4 * sy r k + w) ≠ 0) ∧ (ntB (sy r k) = 0 → w = 0) := ⟨_, rfl⟩
  have hW : ∀ k w, Ws k w ↔ w < 4 ∧ (¬ ntB (sy r k) = 0 → H (4 * sy r k + w) ≠ 0) ∧ (ntB (sy r k) = 0 → w = 0) := fun k w => by rw [hWs]
  have H0 : ∀ k, 1 ≤ k → k ≤ 4 → ∃ w, Ws k w := fun k k1 k4 => by
    by_cases c : ntB (sy r k) = 0
    · exact ⟨0, (hW _ _).mpr ⟨by decide, fun z => absurd c z, fun _ => rfl⟩⟩
    · have h8 := ntB_1 c
      have hk : k ≤ lnR sy r := by
        by_cases z : k ≤ lnR sy r
        · exact z
        · have := sy_z gw (show r < 15 by omega) (show lnR sy r < k by omega) (by omega); omega
      obtain ⟨t, ht⟩ := Nat.exists_testBit_of_ne_zero (hm k k1 hk)
      obtain ⟨-, w, w1, w2, -⟩ := (wyU_tb h8).mp ht
      exact ⟨w, (hW _ _).mpr ⟨w1, fun _ => w2, fun z => absurd z c⟩⟩
  have H1 : ∀ k t, 1 ≤ k → k ≤ 4 → t < 2 → (wyU H (sy r k)).testBit t = true → ∃ w, Ws k w ∧ w.testBit t = true := fun k t k1 k4 ht hb => by
    by_cases c : ntB (sy r k) = 0
    · exfalso
      unfold wyU at hb
      by_cases z : 1 ≤ sy r k ∧ sy r k ≤ 6
      · rw [if_pos z] at hb
        rcases (show t = 0 ∨ t = 1 by omega) with rfl | rfl <;> exact absurd hb (by decide)
      · rw [if_neg z, if_neg (fun y => ntB_2 y c), Nat.zero_testBit] at hb; cases hb
    · have h8 := ntB_1 c
      obtain ⟨-, w, w1, w2, w3⟩ := (wyU_tb h8).mp hb
      exact ⟨w, (hW _ _).mpr ⟨w1, fun _ => w2, fun z => absurd z c⟩, w3.resolve_left (by omega)⟩
  obtain ⟨c, c1, c2, c3⟩ := Eg_all (m := fun k => wyU H (sy r k)) (Ws := Ws) (fun k w hw => ((hW k w).mp hw).1) H0 H1 hl h
  exact ⟨c, c1, fun k k1 k4 => ((hW _ _).mp (c2 k k1 k4)).2, c3⟩
theorem nvT_tb {x : Nat} {W : Nat → Nat} {t : Nat} : (nvT x W).testBit t = true ↔ x.testBit t = true ∨ t = 2 ∨ (t = 0 ∧ (W 0).testBit 2 = true) ∨ (t = 1 ∧ (W 1).testBit 2 = true) := by
  unfold nvT
  rw [Nat.testBit_or, Nat.testBit_or, Nat.testBit_or, Bool.or_eq_true, Bool.or_eq_true, Bool.or_eq_true, show (4 : Nat) = 2 ^ 2 from rfl, Nat.testBit_two_pow, decide_eq_true_eq]
  have e0 : (if (W 0).testBit 2 = true then 1 else 0 : Nat).testBit t = true ↔ t = 0 ∧ (W 0).testBit 2 = true := by
    split
    · rename_i z; rw [Nat.testBit_one_eq_true_iff_self_eq_zero]; exact ⟨fun y => ⟨y, z⟩, fun y => y.1⟩
    · rename_i z; rw [Nat.zero_testBit]; exact ⟨fun y => (by cases y), fun y => absurd y.2 z⟩
  have e1 : (if (W 1).testBit 2 = true then 2 else 0 : Nat).testBit t = true ↔ t = 1 ∧ (W 1).testBit 2 = true := by
    split
    · rename_i z; rw [show (2 : Nat) = 2 ^ 1 from rfl, Nat.testBit_two_pow, decide_eq_true_eq]; exact ⟨fun y => ⟨y.symm, z⟩, fun y => y.1.symm⟩
    · rename_i z; rw [Nat.zero_testBit]; exact ⟨fun y => (by cases y), fun y => absurd y.2 z⟩
  rw [e0, e1]
  constructor
  · rintro (((h | h) | h) | h)
    · exact Or.inl h
    · exact Or.inr (Or.inl h.symm)
    · exact Or.inr (Or.inr (Or.inl h))
    · exact Or.inr (Or.inr (Or.inr h))
  · rintro (h | h | h | h)
    · exact Or.inl (Or.inl (Or.inl h))
    · exact Or.inl (Or.inl (Or.inr h.symm))
    · exact Or.inl (Or.inr h)
    · exact Or.inr h
/-- the class's bits are those of the ways -/
theorem tr_wyU (gw : GW n sy) (es : ESw op xp yp) (ed : EqD op) (cT : clT n sy op xp yp tr) (lT : leT n sy op xp yp tr) (cH : ∀ r c, r < n → c < 256 → clHc sy op xp yp H r c) (lH : leH n sy op xp yp H) : ∀ x, sub (tr x) (wyU H x) ∧ (1 ≤ x → x ≤ 13 → x ≠ 7 → sub (wyU H x) (tr x)) := by
  have hn := gw.1
  have h1 : ∀ x, sub (tr x) (wyU H x) := by
    refine lT _ ⟨fun s s1 s6 => by unfold wyU; rw [if_pos ⟨s1, s6⟩]; exact sub_rf, fun r hr hm t ht => ?_⟩
    have h8 := gw.2.2.1 r hr
    rw [show hgR sy op xp yp (wyU H) r = hgW sy op xp yp (fun k => wyU H (sy r k)) r by show wsN _ 15 = wsN _ 15; rw [hgB_eq ed (by omega)]] at ht
    rcases nvT_tb.mp ht with ht | ht | ⟨t0, ht⟩ | ⟨t1, ht⟩
    · exact ht
    · -- some way
      rw [wyU_tb h8]
      refine ⟨by omega, ?_⟩
      obtain ⟨c, c1, c2, -⟩ := pick_of (op := fun _ => 2) (xp := fun _ => 2) (yp := fun _ => 2) (a := 0) (b := 2) gw hr hm (.base (Or.inl (by unfold eqm; show (4 ||| 0 : Nat).testBit 2 = true; decide)))
      obtain ⟨w, w1, w2, -⟩ := way_nvT (sy := sy) (W := hgW sy op xp yp (pkC c) r) (r := r)
      exact ⟨w, w1, by rw [← w2]; exact cH r c hr c1 c2, Or.inl ht⟩
    · rw [wyU_tb h8]
      refine ⟨by omega, ?_⟩
      obtain ⟨c, c1, c2, c3⟩ := pick_of gw hr hm ((hgW_iff es (by decide)).mp ht)
      obtain ⟨w, w1, w2, w3, -⟩ := way_nvT (sy := sy) (W := hgW sy op xp yp (pkC c) r) (r := r)
      exact ⟨w, w1, by rw [← w2]; exact cH r c hr c1 c2, Or.inr (by rw [t0]; exact w3.mpr ((hgW_iff es (by decide)).mpr c3))⟩
    · rw [wyU_tb h8]
      refine ⟨by omega, ?_⟩
      obtain ⟨c, c1, c2, c3⟩ := pick_of gw hr hm ((hgW_iff es (by decide)).mp ht)
      obtain ⟨w, w1, w2, -, w3⟩ := way_nvT (sy := sy) (W := hgW sy op xp yp (pkC c) r) (r := r)
      exact ⟨w, w1, by rw [← w2]; exact cH r c hr c1 c2, Or.inr (by rw [t1]; exact w3.mpr ((hgW_iff es (by decide)).mpr c3))⟩
  refine fun x => ⟨h1 x, fun x1 x13 x7 => ?_⟩
  by_cases x6 : x ≤ 6
  · unfold wyU; rw [if_pos ⟨x1, x6⟩]; exact cT.1 x x1 x6
  · -- every way lies in tr
    obtain ⟨G, hGd⟩ : ∃ G : Nat → Nat, G = fun j => bO (fun _ => (tr (j / 4)).testBit 2 = true ∧ ∀ t, t < 2 → (j % 4).testBit t = true → (tr (j / 4)).testBit t = true) 1 := ⟨_, rfl⟩
    have hG : ∀ x w, w < 4 → (G (4 * x + w) ≠ 0 ↔ (tr x).testBit 2 = true ∧ ∀ t, t < 2 → w.testBit t = true → (tr x).testBit t = true) := fun x w hw => by
      rw [hGd]; dsimp only
      rw [show (4 * x + w) / 4 = x by omega, show (4 * x + w) % 4 = w by omega]
      constructor
      · intro h
        obtain ⟨t, ht⟩ := Nat.exists_testBit_of_ne_zero h
        exact (bO_tb.mp ht).2
      · intro h z
        have := bO_tb (P := fun _ => (tr x).testBit 2 = true ∧ ∀ t, t < 2 → w.testBit t = true → (tr x).testBit t = true) (N := 1) (t := 0) |>.mpr ⟨by decide, h⟩
        rw [z, Nat.zero_testBit] at this; cases this
    have hcl : ∀ r c, r < n → c < 256 → clHc sy op xp yp G r c := fun r c hr hc hp => by
      have h8 := gw.2.2.1 r hr
      have hl := lnR_le sy r
      have hch : ∀ k, 1 ≤ k → k ≤ lnR sy r → tr (sy r k) ≠ 0 ∧ ∀ t, t < 2 → (pkC c k).testBit t = true → (tr (sy r k)).testBit t = true := fun k k1 kl => by
        by_cases z : ntB (sy r k) = 0
        · have hk := gw.2.1 r k (by omega) k1 (by omega)
          have hz := lnR_nz (sy := sy) (r := r) k1 kl
          have h6 : 1 ≤ sy r k ∧ sy r k ≤ 6 := by
            rcases hk with hk | hk | hk
            · omega
            · exact hk
            · exact absurd z (ntB_2 hk)
          refine ⟨fun e => ?_, fun t ht hb => ?_⟩
          · have := cT.1 _ h6.1 h6.2 2 (by decide)
            rw [e, Nat.zero_testBit] at this; cases this
          · rw [(hp k k1 (by omega)).2 z, Nat.zero_testBit] at hb; cases hb
        · have := (hG _ _ (pkC_lt c k)).mp ((hp k k1 (by omega)).1 z)
          exact ⟨fun e => by rw [e, Nat.zero_testBit] at this; exact absurd this.1 (by decide), this.2⟩
      have hm : mkT sy tr r := fun k k1 kl => (hch k k1 kl).1
      have hs := cT.2 r hr hm
      rw [show hgR sy op xp yp tr r = hgW sy op xp yp (fun k => tr (sy r k)) r by show wsN _ 15 = wsN _ 15; rw [hgB_eq ed (by omega)]] at hs
      have hE : ∀ a b, Eg op xp yp r (lnR sy r) (pkC c) a b → Eg op xp yp r (lnR sy r) (fun k => tr (sy r k)) a b := Eg_mono fun k t k1 kl ht hb => (hch k k1 kl).2 t ht hb
      obtain ⟨w, w1, w2, w3, w4⟩ := way_nvT (sy := sy) (W := hgW sy op xp yp (pkC c) r) (r := r)
      rw [w2, hG _ _ w1]
      refine ⟨hs 2 (nvT_tb.mpr (Or.inr (Or.inl rfl))), fun t ht hb => ?_⟩
      rcases (show t = 0 ∨ t = 1 by omega) with rfl | rfl
      · exact hs 0 (nvT_tb.mpr (Or.inr (Or.inr (Or.inl ⟨rfl, (hgW_iff es (by decide)).mpr (((hgW_iff es (by decide)).mp (w3.mp hb)).mono hE)⟩))))
      · exact hs 1 (nvT_tb.mpr (Or.inr (Or.inr (Or.inr ⟨rfl, (hgW_iff es (by decide)).mpr (((hgW_iff es (by decide)).mp (w4.mp hb)).mono hE)⟩))))
    intro t ht
    obtain ⟨t3, w, w1, w2, w3⟩ := (wyU_tb (by omega)).mp ht
    obtain ⟨g1, g2⟩ := (hG x w w1).mp (lH G hcl _ w2)
    rcases (show t = 2 ∨ t < 2 by omega) with z | z
    · rw [z]; exact g1
    · exact g2 t z (w3.resolve_left (by omega))
/-- rings are told alike -/
theorem ring_eq (gw : GW n sy) (es : ESw op xp yp) (ed : EqD op) (cT : clT n sy op xp yp tr) (lT : leT n sy op xp yp tr) (cH : ∀ r c, r < n → c < 256 → clHc sy op xp yp H r c) (lH : leH n sy op xp yp H) : slA n sy op xp yp tr ↔ slC sy op xp yp H n := by
  have hn := gw.1
  have hw := tr_wyU gw es ed cT lT cH lH
  have ew : ∀ r, r < n → ∀ k, 1 ≤ k → k ≤ lnR sy r → tr (sy r k) = wyU H (sy r k) := fun r hr k k1 kl => by
    have hl := lnR_le sy r
    have hz := lnR_nz (sy := sy) (r := r) k1 kl
    exact sub_eq (hw _).1 ((hw _).2 hz (gw.le (by omega) (by omega)) (gw.ne7 (by omega) (by omega)))
  have eR : ∀ r, r < n → hgR sy op xp yp tr r = hgW sy op xp yp (fun k => tr (sy r k)) r := fun r hr => by show wsN _ 15 = wsN _ 15; rw [hgB_eq ed (by omega)]
  constructor
  · rintro ⟨r, hr, hm, p, hp, hb⟩
    rw [eR r hr] at hb
    have h1 := (hgW_iff es hp).mp hb
    have hm2 : mkT sy (wyU H) r := fun k k1 kl => by rw [← ew r hr k k1 kl]; exact hm k k1 kl
    obtain ⟨c, c1, c2, c3⟩ := pick_of gw hr hm2 (h1.mono (Eg_mono fun k t k1 kl _ hb => by rw [← ew r hr k k1 kl]; exact hb))
    exact ⟨r, c, hr, c1, c2, p, hp, (hgW_iff es hp).mpr c3⟩
  · rintro ⟨r, c, hr, hc, hP, p, hp, hb⟩
    have hl := lnR_le sy r
    have hch : ∀ k, 1 ≤ k → k ≤ lnR sy r → tr (sy r k) ≠ 0 ∧ ∀ t, t < 2 → (pkC c k).testBit t = true → (tr (sy r k)).testBit t = true := fun k k1 kl => by
      rw [ew r hr k k1 kl]
      have hz := lnR_nz (sy := sy) (r := r) k1 kl
      by_cases z : ntB (sy r k) = 0
      · have hk := gw.2.1 r k (by omega) k1 (by omega)
        have h6 : 1 ≤ sy r k ∧ sy r k ≤ 6 := by
          rcases hk with hk | hk | hk
          · omega
          · exact hk
          · exact absurd z (ntB_2 hk)
        refine ⟨by unfold wyU; rw [if_pos h6]; decide, fun t ht hb => ?_⟩
        rw [(hP k k1 (by omega)).2 z, Nat.zero_testBit] at hb; cases hb
      · have h8 := ntB_1 z
        have hne := (hP k k1 (by omega)).1 z
        refine ⟨fun e => ?_, fun t ht hb => (wyU_tb h8).mpr ⟨by omega, _, pkC_lt c k, hne, Or.inr hb⟩⟩
        have := (wyU_tb (t := 2) h8).mpr ⟨by decide, _, pkC_lt c k, hne, Or.inl rfl⟩
        rw [e, Nat.zero_testBit] at this; cases this
    refine ⟨r, hr, fun k k1 kl => (hch k k1 kl).1, p, hp, ?_⟩
    rw [eR r hr]
    exact (hgW_iff es hp).mpr (((hgW_iff es hp).mp hb).mono (Eg_mono fun k t k1 kl ht hb => (hch k k1 kl).2 t ht hb))
end S84
