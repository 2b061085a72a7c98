/-! ===== mathematics: without rings a tree's attributes can be worked out ===== -/
noncomputable def cnt (P : Nat → Prop) : Nat → Nat
  | 0 => 0
  | N + 1 => @ite Nat (P N) (Classical.propDecidable _) (cnt P N + 1) (cnt P N)
theorem cnt_y {P : Nat → Prop} {N : Nat} (h : P N) : cnt P (N + 1) = cnt P N + 1 := by
  show @ite Nat (P N) (Classical.propDecidable _) (cnt P N + 1) (cnt P N) = _; rw [if_pos h]
theorem cnt_n {P : Nat → Prop} {N : Nat} (h : ¬ P N) : cnt P (N + 1) = cnt P N := by
  show @ite Nat (P N) (Classical.propDecidable _) (cnt P N + 1) (cnt P N) = _; rw [if_neg h]
theorem cnt_le {P P' : Nat → Prop} : ∀ {N : Nat}, (∀ x, x < N → P x → P' x) → cnt P N ≤ cnt P' N
  | 0, _ => Nat.le_refl _
  | N + 1, h => by
    have ih := cnt_le (P := P) (P' := P') (N := N) (fun x hx => h x (by omega))
    by_cases c : P N
    · rw [cnt_y c, cnt_y (h N (by omega) c)]; omega
    · rw [cnt_n c]
      by_cases c' : P' N
      · rw [cnt_y c']; omega
      · rw [cnt_n c']; exact ih
theorem cnt_lt {P P' : Nat → Prop} : ∀ {N : Nat}, (∀ x, x < N → P x → P' x) → (∃ x, x < N ∧ P' x ∧ ¬ P x) → cnt P N < cnt P' N
  | 0, _, h => by obtain ⟨x, h, _⟩ := h; omega
  | N + 1, h, ⟨x, hx, h1, h2⟩ => by
    by_cases e : x = N
    · subst e
      rw [cnt_n h2, cnt_y h1]
      have := cnt_le (P := P) (P' := P') (N := x) (fun y hy => h y (by omega))
      omega
    · have ih := cnt_lt (P := P) (P' := P') (N := N) (fun x hx => h x (by omega)) ⟨x, by omega, h1, h2⟩
      by_cases c : P N
      · rw [cnt_y c, cnt_y (h N (by omega) c)]; omega
      · rw [cnt_n c]
        by_cases c' : P' N
        · rw [cnt_y c']; omega
        · rw [cnt_n c']; exact ih
theorem cnt_T : ∀ {N : Nat}, cnt (fun _ => True) N = N
  | 0 => rfl
  | N + 1 => by rw [cnt_y trivial, cnt_T]
/-- how many can be reached -/
noncomputable def rkR (R : Nat → Nat → Prop) (N a : Nat) : Nat := cnt (fun b => TC R a b) N
theorem rkR_dec {R : Nat → Nat → Prop} {N a b : Nat} (h : R a b) (hb : b < N) (hc : ¬ TC R b b) : rkR R N b < rkR R N a := cnt_lt (fun _ _ hx => (TC.base h).trans hx) ⟨b, hb, .base h, hc⟩
theorem rkR_lt {R : Nat → Nat → Prop} {N a : Nat} (ha : a < N) (hc : ¬ TC R a a) : rkR R N a < N := by
  have := cnt_lt (P := fun b => TC R a b) (P' := fun _ => True) (N := N) (fun _ _ _ => trivial) ⟨a, ha, trivial, hc⟩
  rw [cnt_T] at this; exact this
/-- no endless way starts here -/
def Ac (R : Nat → Nat → Prop) (a : Nat) : Prop := ∀ P : Nat → Prop, (∀ a, (∀ b, R a b → P b) → P a) → P a
theorem Ac.mk {R : Nat → Nat → Prop} {a : Nat} (h : ∀ b, R a b → Ac R b) : Ac R a := fun P hP => hP a fun b hb => h b hb P hP
theorem TC.head {R : Nat → Nat → Prop} {a c : Nat} (h : TC R a c) : ∃ b, R a b ∧ (b = c ∨ TC R b c) := by
  refine h (fun c => ∃ b, R a b ∧ (b = c ∨ TC R b c)) (fun b hb => ⟨b, hb, Or.inl rfl⟩) (fun b c ih hb => ?_)
  obtain ⟨d, h1, h2⟩ := ih
  refine ⟨d, h1, Or.inr ?_⟩
  rcases h2 with h2 | h2
  · rw [h2]; exact .base hb
  · exact h2.step hb
theorem Ac.irr {R : Nat → Nat → Prop} {a : Nat} (h : Ac R a) : ¬ TC R a a := h (fun a => ¬ TC R a a) fun a ih hc => by
  obtain ⟨b, h1, h2⟩ := hc.head
  rcases h2 with h2 | h2
  · subst h2; exact ih b h1 (.base h1)
  · exact ih b h1 (h2.trans (.base h1))
/-- what of a tree hangs on what -/
def Dp (op xp yp : Nat → Nat) (md : Nat) (tb : Nat → Bool) (rl : Nat → Nat) (pa : Nat → Option (Nat × Nat)) (ch : Nat → Nat → Nat) (s s' : Nat) : Prop := s < 3 * md ∧ tb (s / 3) = false ∧ ((2 ≤ opS op rl (sCx pa s) ∧ s' = arS xp rl ch (sCx pa s)) ∨ (3 ≤ opS op rl (sCx pa s) ∧ s' = arS yp rl ch (sCx pa s)))
/-- the symbols of a tree fit -/
def TSY (sy : Nat → Nat → Nat) (md : Nat) (tb : Nat → Bool) (rl : Nat → Nat) (ch : Nat → Nat → Nat) : Prop := ∀ p k, p < md → tb p = false → 1 ≤ k → k ≤ lnR sy (rl p) → ch p k < p ∧ (8 ≤ sy (rl p) k → tb (ch p k) = false ∧ sy (rl (ch p k)) 0 = sy (rl p) k) ∧ (sy (rl p) k < 8 → tb (ch p k) = true)
section S85
variable {n md : Nat} {sy : Nat → Nat → Nat} {op xp yp tr : Nat → Nat} {nd : Nat → Int32} {tb : Nat → Bool} {rl : Nat → Nat} {pa : Nat → Option (Nat × Nat)} {ch : Nat → Nat → Nat}
theorem Eg_x {r ln a : Nat} {m : Nat → Nat} (h : 2 ≤ op (r * 15 + a)) : Eg op xp yp r ln m a (xp (r * 15 + a)) := Or.inl (by
  unfold eqm
  rw [if_pos h, Nat.testBit_or, Nat.testBit_two_pow_self]; rfl)
theorem Eg_y {r ln a : Nat} {m : Nat → Nat} (h : 3 ≤ op (r * 15 + a)) : Eg op xp yp r ln m a (yp (r * 15 + a)) := Or.inl (by
  unfold eqm
  rw [if_pos h, Nat.testBit_or, Nat.testBit_two_pow_self, Bool.or_true])
/-- within one rule -/
theorem ac_loc (gw : GW n sy) (es : ESw op xp yp) (ev : EV n sy op xp yp) (hw : TW n sy md nd tb rl pa ch) (tl : TLK sy md tb rl pa ch) {v : Nat} (hv : v < md) (hb : tb v = false)
    (hac : ∀ p, p < 15 → ¬ TC (Eg op xp yp (rl v) (lnR sy (rl v)) (fun k => tr (sy (rl v) k))) p p)
    (hB : ∀ k t, 1 ≤ k → k ≤ lnR sy (rl v) → t < 2 → ((tr (sy (rl v) k)).testBit t ≠ true → Ac (Dp op xp yp md tb rl pa ch) (ch v k * 3 + t)) ∧ (Ac (Dp op xp yp md tb rl pa ch) (ch v k * 3 + 2) → Ac (Dp op xp yp md tb rl pa ch) (ch v k * 3 + t))) :
    ∀ N a, rkR (Eg op xp yp (rl v) (lnR sy (rl v)) (fun k => tr (sy (rl v) k))) 15 a < N → a < 15 → a / 3 ≤ lnR sy (rl v) → a ≠ 2 → (¬ TC (Eg op xp yp (rl v) (lnR sy (rl v)) (fun k => tr (sy (rl v) k))) a 2 ∨ Ac (Dp op xp yp md tb rl pa ch) (v * 3 + 2)) → Ac (Dp op xp yp md tb rl pa ch) (sSl ch v a) := by
  have hn := gw.1
  have hl := lnR_le sy (rl v)
  have hrn := ((hw.2 v hv).2.1 hb).2.1
  intro N
  induction N with
  | zero => intro a h; omega
  | succ N ih =>
    intro a ha ha15 hal ha2 hor
    have next : ∀ b, Eg op xp yp (rl v) (lnR sy (rl v)) (fun k => tr (sy (rl v) k)) a b → b < 15 → b / 3 ≤ lnR sy (rl v) → Ac (Dp op xp yp md tb rl pa ch) (sSl ch v b) := fun b hE hb15 hbl => by
      by_cases e : b = 2
      · subst e
        have h2 : sSl ch v 2 = v * 3 + 2 := by unfold sSl; rw [if_pos (by decide)]
        rw [h2]
        exact hor.resolve_left (fun z => z (.base hE))
      · have := rkR_dec hE hb15 (hac b hb15)
        exact ih b (by omega) hb15 hbl e (hor.imp (fun z y => z ((TC.base hE).trans y)) id)
    by_cases c : 3 ≤ a ∧ a % 3 < 2
    · -- a child's own
      have es1 : sSl ch v a = ch v (a / 3) * 3 + a % 3 := by unfold sSl; rw [if_neg (by omega)]
      rw [es1]
      obtain ⟨b1, b2⟩ := hB (a / 3) (a % 3) (by omega) hal c.2
      by_cases d : (tr (sy (rl v) (a / 3))).testBit (a % 3) = true
      · have hE : Eg op xp yp (rl v) (lnR sy (rl v)) (fun k => tr (sy (rl v) k)) a (a / 3 * 3 + 2) := Or.inr ⟨c.1, by omega, c.2, d, rfl⟩
        have h2 := next _ hE (by omega) (by omega)
        have es2 : sSl ch v (a / 3 * 3 + 2) = ch v (a / 3) * 3 + 2 := by
          unfold sSl
          rw [if_neg (by omega), show (a / 3 * 3 + 2) / 3 = a / 3 by omega, show (a / 3 * 3 + 2) % 3 = 2 by omega]
        rw [es2] at h2
        exact b2 h2
      · exact b1 d
    · -- told by the rule itself
      have hcx : ∀ s', Dp op xp yp md tb rl pa ch (sSl ch v a) s' → sCx pa (sSl ch v a) = some (v, a) := fun s' hD => by
        by_cases d : a < 3
        · have es1 : sSl ch v a = v * 3 + a := by unfold sSl; rw [if_pos (by omega)]; omega
          rw [es1]; unfold sCx
          rw [if_neg (by omega), show (v * 3 + a) / 3 = v by omega, show (v * 3 + a) % 3 = a by omega]
        · have es1 : sSl ch v a = ch v (a / 3) * 3 + 2 := by unfold sSl; rw [if_neg (by omega)]; omega
          have hp := tl.2 v (a / 3) hv hb (by omega) hal
          rw [es1]; unfold sCx
          rw [if_pos (by omega), show (ch v (a / 3) * 3 + 2) / 3 = ch v (a / 3) by omega, hp]
          show some (v, a / 3 * 3 + 2) = _
          rw [show a / 3 * 3 + 2 = a by omega]
      refine .mk fun s' hD => ?_
      have hc := hcx s' hD
      obtain ⟨-, -, hD⟩ := hD
      rw [hc] at hD
      obtain ⟨e1, e2, -⟩ := ev (rl v) a hrn ha15
      rcases hD with ⟨o, e⟩ | ⟨o, e⟩
      · rw [e]; exact next _ (Eg_x o) (es.2.1 _ o) (e1 o)
      · rw [e]; exact next _ (Eg_y o) (es.2.2 _ o) (e2 o)
/-- no ring: nothing of a tree hangs on itself -/
theorem ac_all (gw : GW n sy) (es : ESw op xp yp) (ed : EqD op) (ev : EV n sy op xp yp) (cT : clT n sy op xp yp tr) (hs : ¬ slA n sy op xp yp tr) (hw : TW n sy md nd tb rl pa ch) (tl : TLK sy md tb rl pa ch) (ts : TSY sy md tb rl ch) :
    ∀ s, s < 3 * md → Ac (Dp op xp yp md tb rl pa ch) s := by
  have hn := gw.1
  have eR : ∀ r, r < n → hgR sy op xp yp tr r = hgW sy op xp yp (fun k => tr (sy r k)) r := fun r hr => by show wsN _ 15 = wsN _ 15; rw [hgB_eq ed (by omega)]
  have tok : ∀ v t, tb v = true → t < 3 → Ac (Dp op xp yp md tb rl pa ch) (v * 3 + t) := fun v t h ht => .mk fun s' hD => by
    have h2 := hD.2.1
    rw [show (v * 3 + t) / 3 = v by omega, h] at h2; cases h2
  -- every rule of the tree is made
  have made : ∀ N v, v < N → v < md → tb v = false → mkT sy tr (rl v) := by
    intro N
    induction N with
    | zero => intro v h; omega
    | succ N ih =>
      intro v hvN hv hb k k1 kl
      have hl := lnR_le sy (rl v)
      have hrn := ((hw.2 v hv).2.1 hb).2.1
      have hz := lnR_nz (sy := sy) (r := rl v) k1 kl
      have h2 := gw.2.1 (rl v) k (by omega) k1 (by omega)
      obtain ⟨t1, t2, t3⟩ := ts v k hv hb k1 kl
      intro e
      have : (tr (sy (rl v) k)).testBit 2 = true := by
        rcases h2 with h2 | h2 | h2
        · omega
        · exact cT.1 _ h2.1 h2.2 2 (by decide)
        · obtain ⟨a, b⟩ := t2 h2.1
          have hc : ch v k < md := by omega
          have hrc := ((hw.2 _ hc).2.1 a).2.1
          rw [← b]
          exact cT.2 _ hrc (ih _ (by omega) hc a) 2 (nvT_tb.mpr (Or.inr (Or.inl rfl)))
      rw [e, Nat.zero_testBit] at this; cases this
  have hac : ∀ v, v < md → tb v = false → ∀ p, p < 15 → ¬ TC (Eg op xp yp (rl v) (lnR sy (rl v)) (fun k => tr (sy (rl v) k))) p p := fun v hv hb p hp hc => by
    have hrn := ((hw.2 v hv).2.1 hb).2.1
    refine hs ⟨rl v, hrn, made (v + 1) v (by omega) hv hb, p, hp, ?_⟩
    rw [eR _ hrn]
    exact (hgW_iff es hp).mpr hc
  -- from below
  have BOT : ∀ N v, v < N → v < md → tb v = false → ∀ t, t < 2 → ((tr (sy (rl v) 0)).testBit t ≠ true → Ac (Dp op xp yp md tb rl pa ch) (v * 3 + t)) ∧ (Ac (Dp op xp yp md tb rl pa ch) (v * 3 + 2) → Ac (Dp op xp yp md tb rl pa ch) (v * 3 + t)) := by
    intro N
    induction N with
    | zero => intro v h; omega
    | succ N ih =>
      intro v hvN hv hb t ht
      have hl := lnR_le sy (rl v)
      have hrn := ((hw.2 v hv).2.1 hb).2.1
      have hB : ∀ k t, 1 ≤ k → k ≤ lnR sy (rl v) → t < 2 → ((tr (sy (rl v) k)).testBit t ≠ true → Ac (Dp op xp yp md tb rl pa ch) (ch v k * 3 + t)) ∧ (Ac (Dp op xp yp md tb rl pa ch) (ch v k * 3 + 2) → Ac (Dp op xp yp md tb rl pa ch) (ch v k * 3 + t)) := fun k t k1 kl ht => by
        obtain ⟨t1, t2, t3⟩ := ts v k hv hb k1 kl
        by_cases c : 8 ≤ sy (rl v) k
        · obtain ⟨a, b⟩ := t2 c
          have := ih (ch v k) (by omega) (by omega) a t ht
          rw [b] at this; exact this
        · have := tok (ch v k) t (t3 (by omega)) (by omega)
          exact ⟨fun _ => this, fun _ => this⟩
      have hL := ac_loc gw es ev hw tl hv hb (hac v hv hb) hB _ t (Nat.lt_succ_self _) (by omega) (by omega) (by omega)
      have es1 : sSl ch v t = v * 3 + t := by unfold sSl; rw [if_pos (by omega)]; omega
      rw [es1] at hL
      refine ⟨fun h => hL (Or.inl fun hc => h ?_), fun h => hL (Or.inr h)⟩
      have h2 := cT.2 _ hrn (made (v + 1) v (by omega) hv hb)
      rw [eR _ hrn] at h2
      refine h2 t (nvT_tb.mpr ?_)
      have h3 := (hgW_iff es (show t < 15 by omega)).mpr hc
      rcases (show t = 0 ∨ t = 1 by omega) with rfl | rfl
      · exact Or.inr (Or.inr (Or.inl ⟨rfl, h3⟩))
      · exact Or.inr (Or.inr (Or.inr ⟨rfl, h3⟩))
  -- from above
  have TOP : ∀ N v, md ≤ v + N → v < md → Ac (Dp op xp yp md tb rl pa ch) (v * 3 + 2) := by
    intro N
    induction N with
    | zero => intro v h; omega
    | succ N ih =>
      intro v hvN hv
      cases hp : pa v with
      | none =>
        refine .mk fun s' hD => ?_
        have hc : sCx pa (v * 3 + 2) = none := by
          unfold sCx
          rw [if_pos (by omega), show (v * 3 + 2) / 3 = v by omega, hp]
        obtain ⟨-, -, hD⟩ := hD
        rw [hc] at hD
        rcases hD with ⟨o, -⟩ | ⟨o, -⟩
        · exact absurd o (by show ¬ 2 ≤ 0; decide)
        · exact absurd o (by show ¬ 3 ≤ 0; decide)
      | some w =>
        obtain ⟨c, k⟩ := w
        obtain ⟨-, -, hc, hcb, k1, kl⟩ := (hw.2 v hv).2.2.2 c k hp
        have hch := tl.1 v c k hv hp
        obtain ⟨t1, t2, t3⟩ := ts c k hc hcb k1 kl
        have hl := lnR_le sy (rl c)
        have hB : ∀ k t, 1 ≤ k → k ≤ lnR sy (rl c) → t < 2 → ((tr (sy (rl c) k)).testBit t ≠ true → Ac (Dp op xp yp md tb rl pa ch) (ch c k * 3 + t)) ∧ (Ac (Dp op xp yp md tb rl pa ch) (ch c k * 3 + 2) → Ac (Dp op xp yp md tb rl pa ch) (ch c k * 3 + t)) := fun k t k1 kl ht => by
          obtain ⟨t1, t2, t3⟩ := ts c k hc hcb k1 kl
          by_cases z : 8 ≤ sy (rl c) k
          · obtain ⟨a, b⟩ := t2 z
            have := BOT _ (ch c k) (Nat.lt_succ_self _) (by omega) a t ht
            rw [b] at this; exact this
          · have := tok (ch c k) t (t3 (by omega)) (by omega)
            exact ⟨fun _ => this, fun _ => this⟩
        have hL := ac_loc gw es ev hw tl hc hcb (hac c hc hcb) hB _ (k * 3 + 2) (Nat.lt_succ_self _) (by omega) (by omega) (by omega) (Or.inr (ih c (by omega) hc))
        have es1 : sSl ch c (k * 3 + 2) = v * 3 + 2 := by
          unfold sSl
          rw [if_neg (by omega), show (k * 3 + 2) / 3 = k by omega, show (k * 3 + 2) % 3 = 2 by omega, hch]
        rw [es1] at hL; exact hL
  intro s hs
  have e : s = s / 3 * 3 + s % 3 := by omega
  have hv : s / 3 < md := by omega
  have h2 := TOP md (s / 3) (by omega) hv
  rw [e]
  by_cases c : s % 3 = 2
  · rw [c]; exact h2
  · cases hb : tb (s / 3) with
    | true => exact tok _ _ hb (by omega)
    | false => exact (BOT _ (s / 3) (Nat.lt_succ_self _) hv hb (s % 3) (by omega)).2 h2
theorem ac_of (gw : GW n sy) (es : ESw op xp yp) (ed : EqD op) (ev : EV n sy op xp yp) (cT : clT n sy op xp yp tr) (hs : ¬ slA n sy op xp yp tr) (hw : TW n sy md nd tb rl pa ch) (tl : TLK sy md tb rl pa ch) (ts : TSY sy md tb rl ch) : ∃ rk, AC md tb rl pa ch op xp yp rk := by
  have ha := ac_all gw es ed ev cT hs hw tl ts
  have hmd := hw.1
  refine ⟨rkR (Dp op xp yp md tb rl pa ch) (3 * md), fun s hs => Nat.lt_of_lt_of_le (rkR_lt hs (ha s hs).irr) (by omega), fun s hs hb => ?_⟩
  obtain ⟨l1, l2⟩ := arM_lt hw ev hs hb
  exact ⟨fun o => rkR_dec ⟨hs, hb, Or.inl ⟨o, rfl⟩⟩ (l1 o) (ha _ (l1 o)).irr, fun o => rkR_dec ⟨hs, hb, Or.inr ⟨o, rfl⟩⟩ (l2 o) (ha _ (l2 o)).irr⟩
/-- the values, worked out in f rounds -/
def vlF (op xp yp : Nat → Nat) (tb : Nat → Bool) (rl : Nat → Nat) (pa : Nat → Option (Nat × Nat)) (ch : Nat → Nat → Nat) (tv : Nat → Int64) : Nat → Nat → Int64
  | 0, _ => 0
  | f + 1, s => if tb (s / 3) = true then tv s else wkS op xp yp rl ch (vlF op xp yp tb rl pa ch tv f) (sCx pa s)
theorem wkS_cg {v v' : Nat → Int64} {o : Option (Nat × Nat)} (h1 : 2 ≤ opS op rl o → v (arS xp rl ch o) = v' (arS xp rl ch o)) (h2 : 3 ≤ opS op rl o → v (arS yp rl ch o) = v' (arS yp rl ch o)) : wkS op xp yp rl ch v o = wkS op xp yp rl ch v' o := by
  unfold wkS
  by_cases c0 : opS op rl o = 0
  · rw [if_pos c0, if_pos c0]
  · rw [if_neg c0, if_neg c0]
    by_cases c1 : opS op rl o = 1
    · rw [if_pos c1, if_pos c1]
    · rw [if_neg c1, if_neg c1, h1 (by omega)]
      by_cases c2 : opS op rl o = 2
      · unfold opr; rw [if_pos c2, if_pos c2]
      · rw [h2 (by omega)]
theorem sol_of {rk : Nat → Nat} (ac : AC md tb rl pa ch op xp yp rk) (hw : TW n sy md nd tb rl pa ch) (ev : EV n sy op xp yp) (tv : Nat → Int64) : ∃ val, SOL md tb rl pa ch op xp yp val ∧ ∀ s, tb (s / 3) = true → val s = tv s := by
  have key : ∀ N s, rk s < N → s < 3 * md → ∀ f f', N ≤ f → N ≤ f' → vlF op xp yp tb rl pa ch tv f s = vlF op xp yp tb rl pa ch tv f' s := by
    intro N
    induction N with
    | zero => intro s h; omega
    | succ N ih =>
      intro s hN hs f f' hf hf'
      obtain ⟨f, rfl⟩ : ∃ m, f = m + 1 := ⟨f - 1, by omega⟩
      obtain ⟨f', rfl⟩ : ∃ m, f' = m + 1 := ⟨f' - 1, by omega⟩
      show (if tb (s / 3) = true then tv s else _) = (if tb (s / 3) = true then tv s else _)
      cases hb : tb (s / 3) with
      | true => rfl
      | false =>
        rw [if_neg (by decide), if_neg (by decide)]
        obtain ⟨l1, l2⟩ := arM_lt hw ev hs hb
        obtain ⟨r1, r2⟩ := ac.2 s hs hb
        exact wkS_cg (fun o => ih _ (by have := r1 o; omega) (l1 o) f f' (by omega) (by omega)) (fun o => ih _ (by have := r2 o; omega) (l2 o) f f' (by omega) (by omega))
  refine ⟨vlF op xp yp tb rl pa ch tv 451, fun s hs hb => ?_, fun s hb => by show (if tb (s / 3) = true then tv s else _) = _; rw [if_pos hb]⟩
  show (if tb (s / 3) = true then tv s else _) = _
  rw [if_neg (by rw [hb]; decide)]
  obtain ⟨l1, l2⟩ := arM_lt hw ev hs hb
  exact wkS_cg (fun o => key 450 _ (ac.1 _ (l1 o)) (l1 o) 450 451 (by omega) (by omega)) (fun o => key 450 _ (ac.1 _ (l2 o)) (l2 o) 450 451 (by omega) (by omega))
end S85
