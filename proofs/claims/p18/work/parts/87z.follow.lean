/-! ===== mathematics: the parser follows what is derived ===== -/
theorem rcF_pos {P : Nat → Prop} : ∀ {k r : Nat}, r < k → P r → (rcF P k).1 ≠ 0
  | 0, _, h, _ => by omega
  | k + 1, r, h, hp => by
    by_cases c : P k
    · rw [rcF_yes c]; show (rcF P k).1 + 1 ≠ 0; omega
    · rw [rcF_no c]
      by_cases e : r = k
      · rw [e] at hp; exact absurd hp c
      · exact rcF_pos (by omega) hp
theorem rcF_one {P : Nat → Prop} : ∀ {k r : Nat}, (rcF P k).1 = 1 → r < k → P r → (rcF P k).2 = r
  | 0, _, _, h, _ => by omega
  | k + 1, r, h1, h, hp => by
    by_cases c : P k
    · rw [rcF_yes c] at h1 ⊢
      have h1 : (rcF P k).1 + 1 = 1 := h1
      show k = r
      by_cases e : r = k
      · exact e.symm
      · exact absurd (by omega) (rcF_pos (P := P) (k := k) (r := r) (by omega) hp)
    · rw [rcF_no c] at h1 ⊢
      by_cases e : r = k
      · rw [e] at hp; exact absurd hp c
      · exact rcF_one h1 (by omega) hp
theorem lvS_0 {lv f : Nat → Nat} (h : ∀ t, lv t = 0) : lvS lv f = 0 := by
  unfold lvS
  rw [h, h, h, h]
  simp
section S87z
variable {n S nt : Nat} {sy : Nat → Nat → Nat} {T G : Nat → Nat → Nat} {D : Nat → Nat → Int32} {pr : Nat → Nat → Prop} {TT fi F lv kd : Nat → Nat}
/-- without levels: a shift that can be is what is left, where there is no conflict -/
theorem dc_shift (hlv : ∀ t, lv t = 0) {s t : Nat} (hc : dcS sy lv kd F T s t ≠ nI 1001) (ht : 1 ≤ t) (hT : 0 < T s t) : dcS sy lv kd F T s t = nI (T s t) := by
  have e : (if t = 0 then 0 else T s t) = T s t := if_neg (by omega)
  unfold dcS at hc ⊢
  rw [e] at hc ⊢
  unfold dcV at hc ⊢
  by_cases c0 : (rcF (redP sy F s t) 15).1 = 0
  · rw [if_pos c0]
  · rw [if_neg c0] at hc
    by_cases c1 : 1 < (rcF (redP sy F s t) 15).1
    · rw [if_pos c1] at hc; exact absurd rfl hc
    · rw [if_neg c1, if_neg (by omega)] at hc
      unfold wgh at hc
      rw [if_pos (Or.inr (hlv t))] at hc
      exact absurd rfl hc
/-- .. and a rule likewise -/
theorem dc_red (hlv : ∀ t, lv t = 0) {s t r : Nat} (hc : dcS sy lv kd F T s t ≠ nI 1001) (hr : r < 15) (h : redP sy F s t r) : dcS sy lv kd F T s t = if r = 14 then nI 1000 else -1 - nI r := by
  unfold dcS at hc ⊢
  unfold dcV at hc ⊢
  have c0 := rcF_pos (k := 15) hr h
  rw [if_neg c0] at hc ⊢
  by_cases c1 : 1 < (rcF (redP sy F s t) 15).1
  · rw [if_pos c1] at hc; exact absurd rfl hc
  · have e2 := rcF_one (P := redP sy F s t) (k := 15) (r := r) (by omega) hr h
    rw [if_neg c1] at hc ⊢
    by_cases s0 : (if t = 0 then 0 else T s t) = 0
    · rw [if_pos s0, e2]
    · rw [if_neg s0] at hc
      unfold wgh at hc
      rw [if_pos (Or.inr (hlv t))] at hc
      exact absurd rfl hc
/-- what waits (σ) fits the h states of the stack -/
def Ctx (n : Nat) (sy : Nat → Nat → Nat) (pr : Nat → Nat → Prop) (F : Nat → Nat) : Nat → (Nat → Nat) → List Nat → Nat → Prop
  | 0, ss, σ, h => ∃ k, k ≤ 1 ∧ h = k + 1 ∧ σ = [sy 0 0].drop k ∧ pr (ss (h - 1)) (70 + k) ∧ (F (ss (h - 1) * 75 + (70 + k)) &&& 127).testBit 0 = true
  | d + 1, ss, σ, h => ∃ r k σ', r < n ∧ k ≤ lnR sy r ∧ σ = (rhL sy r).drop k ++ (20 + r) :: σ' ∧ k + 1 ≤ h ∧ pr (ss (h - 1)) (r * 5 + k) ∧ (∀ f w, Drv n sy f σ' w → (F (ss (h - 1) * 75 + (r * 5 + k)) &&& 127).testBit (hdT w) = true) ∧ Ctx n sy pr F d ss (sy r 0 :: σ') (h - k)
theorem ctx_1 : ∀ {d : Nat} {ss : Nat → Nat} {σ : List Nat} {h : Nat}, Ctx n sy pr F d ss σ h → 1 ≤ h
  | 0, _, _, _, hc => by obtain ⟨k, _, e, _⟩ := hc; omega
  | _ + 1, _, _, _, hc => by obtain ⟨r, k, σ', _, _, _, h1, _⟩ := hc; omega
theorem ctx_cg : ∀ {d : Nat} {ss ss' : Nat → Nat} {σ : List Nat} {h : Nat}, (∀ j, j < h → ss' j = ss j) → Ctx n sy pr F d ss σ h → Ctx n sy pr F d ss' σ h
  | 0, ss, ss', σ, h, e, hc => by
    obtain ⟨k, a, b, c, d, f⟩ := hc
    refine ⟨k, a, b, c, ?_, ?_⟩
    · rw [e _ (by omega)]; exact d
    · rw [e _ (by omega)]; exact f
  | _ + 1, ss, ss', σ, h, e, hc => by
    obtain ⟨r, k, σ', a1, a2, a3, a4, a5, a6, a7⟩ := hc
    refine ⟨r, k, σ', a1, a2, a3, a4, ?_, fun f w hw => ?_, ctx_cg (fun j hj => e j (by omega)) a7⟩
    · rw [e _ (by omega)]; exact a5
    · rw [e _ (by omega)]; exact a6 f w hw
theorem ln14 (gw : GW n sy) (n0 : 0 < n) : lnR sy 14 = 1 := by
  have h3 := gw.2.2.1 0 n0
  have h4 := gw.2.2.2.2.2.2.2.1 n0
  show lnS (sy 14) = 1
  unfold lnS
  rw [if_neg (by omega), if_pos gw.2.2.2.2.2.2.1]
theorem bh70 (gw : GW n sy) (n0 : 0 < n) : bh sy 70 = sy 0 0 := by
  show (if 70 % 5 < 4 then sy (70 / 5) (70 % 5 + 1) else 0) = _
  rw [if_pos (by decide)]
  exact gw.2.2.2.2.2.2.2.1 n0
/-- the item before the symbol that is next -/
theorem ctx_hd (gw : GW n sy) (n0 : 0 < n) (hf : isF n sy fi) {d h e : Nat} {ss : Nat → Nat} {σ : List Nat} (he : e < 20) (hc : Ctx n sy pr F d ss (e :: σ) h) :
    ∃ it, it < 75 ∧ pr (ss (h - 1)) it ∧ bh sy it = e ∧ syO e ∧ ∀ f w, Drv n sy f σ w → (giv fi sy it (F (ss (h - 1) * 75 + it) &&& 127)).testBit (hdT w) = true := by
  have hn := gw.1
  cases d with
  | zero =>
    obtain ⟨k, a, b, c, d, f⟩ := hc
    have hk : k = 0 := by
      by_cases z : k = 0
      · exact z
      · have : k = 1 := by omega
        subst this; cases c
    subst hk
    have c1 : e = sy 0 0 := by simpa using congrArg List.head? c
    have c2 : σ = [] := by simpa using congrArg List.tail c
    subst c1 c2
    have h3 := gw.2.2.1 0 n0
    refine ⟨70, by decide, d, bh70 gw n0, Or.inr h3, fun g w hw => ?_⟩
    rw [drv_nil hw]
    show Nat.testBit _ 0 = true
    rw [giv_tb gw (by decide) (by decide)]
    right
    refine ⟨fun k' h1 h2 => ?_, ?_⟩
    · have h2 : k' < lnR sy 14 := h2
      rw [ln14 gw n0] at h2
      have h1 : 1 ≤ k' := h1
      omega
    · exact f
  | succ d =>
    obtain ⟨r, k, σ', a1, a2, a3, a4, a5, a6, a7⟩ := hc
    have hl4 := lnR_le sy r
    by_cases hk : k < lnR sy r
    · rw [rhL_drop hk, List.cons_append] at a3
      have c1 : e = sy r (k + 1) := by simpa using congrArg List.head? a3
      have c2 : σ = (rhL sy r).drop (k + 1) ++ (20 + r) :: σ' := by simpa using congrArg List.tail a3
      obtain ⟨b1, b2, b3, b4⟩ := bh_at gw (show r < 15 by omega) hk
      refine ⟨r * 5 + k, by omega, a5, by rw [b1, c1], rhL_ok gw (show r < 15 by omega) (by rw [c1]; exact List.mem_of_getElem? (rhL_get hk)), fun f w hw => ?_⟩
      rw [c2] at hw
      refine giv_has gw hf (by omega) hk (fun f' w' hw' => ?_) hw
      cases f' with
      | zero => exact absurd hw'.1 (by simp)
      | succ f' =>
        rcases hw' with ⟨z1, z2, _⟩ | ⟨_, w3, rfl, hw'⟩
        · omega
        · rw [hdT_rl (by omega)]
          exact a6 f' w3 hw'
    · have : k = lnR sy r := by omega
      subst this
      rw [rhL_end, List.nil_append] at a3
      have c1 : e = 20 + r := by simpa using congrArg List.head? a3
      omega
/-- the symbol is gone by -/
theorem ctx_adv (gw : GW n sy) (n0 : 0 < n) (lc : LCt n sy T S pr) (cl : CLa n sy fi T S F) (hF1 : ∀ s it, s < S → it < 75 → pr s it → F (s * 75 + it) ≠ 0) {d h e : Nat} {ss : Nat → Nat} {σ : List Nat} (hs : ss (h - 1) < S) (he : e < 20) (hc : Ctx n sy pr F d ss (e :: σ) h) : Ctx n sy pr F d (upN ss h (T (ss (h - 1)) e)) σ (h + 1) := by
  have hn := gw.1
  have up1 : upN ss h (T (ss (h - 1)) e) (h + 1 - 1) = T (ss (h - 1)) e := by rw [show h + 1 - 1 = h by omega]; exact upN_at _ _ _
  have mv : ∀ it, it < 75 → pr (ss (h - 1)) it → bh sy it = e → e ≠ 0 → pr (T (ss (h - 1)) e) (it + 1) ∧ ∀ t, (F (ss (h - 1) * 75 + it) &&& 127).testBit t = true → (F (T (ss (h - 1)) e * 75 + (it + 1)) &&& 127).testBit t = true := fun it hi hp hb h0 => by
    have p2 := (lc.2.2.2.2.1 _ it hs hi hp (by rw [hb]; exact h0)).2
    have c2 := (cl _ it hs hi (hF1 _ it hs hi hp) (by rw [hb]; exact h0)).1
    rw [hb] at p2 c2
    refine ⟨p2, fun t ht => ?_⟩
    have h7 : t < 7 := lt7_of (Nat.lt_of_le_of_lt Nat.and_le_right (by decide)) ht
    rw [tb127 h7]; exact c2 t ht
  cases d with
  | zero =>
    obtain ⟨k, a, b, c, d, f⟩ := hc
    have hk : k = 0 := by
      by_cases z : k = 0
      · exact z
      · have : k = 1 := by omega
        subst this; cases c
    subst hk
    have c1 : e = sy 0 0 := by simpa using congrArg List.head? c
    have c2 : σ = [] := by simpa using congrArg List.tail c
    subst c2
    have h3 := gw.2.2.1 0 n0
    obtain ⟨m1, m2⟩ := mv 70 (by decide) d (by rw [bh70 gw n0, c1]) (by omega)
    exact ⟨1, Nat.le_refl _, by omega, rfl, by rw [up1]; exact m1, by rw [up1]; exact m2 0 f⟩
  | succ d =>
    obtain ⟨r, k, σ', a1, a2, a3, a4, a5, a6, a7⟩ := hc
    have hl4 := lnR_le sy r
    by_cases hk : k < lnR sy r
    · rw [rhL_drop hk, List.cons_append] at a3
      have c1 : e = sy r (k + 1) := by simpa using congrArg List.head? a3
      have c2 : σ = (rhL sy r).drop (k + 1) ++ (20 + r) :: σ' := by simpa using congrArg List.tail a3
      obtain ⟨b1, b2, b3, b4⟩ := bh_at gw (show r < 15 by omega) hk
      obtain ⟨m1, m2⟩ := mv (r * 5 + k) (by omega) a5 (by rw [b1, c1]) (by omega)
      refine ⟨r, k + 1, σ', a1, hk, c2, by omega, by rw [up1]; exact m1, fun f w hw => by rw [up1]; exact m2 _ (a6 f w hw), ?_⟩
      rw [show h + 1 - (k + 1) = h - k by omega]
      exact ctx_cg (fun j hj => upN_ne _ _ (by omega)) a7
    · have : k = lnR sy r := by omega
      subst this
      rw [rhL_end, List.nil_append] at a3
      have c1 : e = 20 + r := by simpa using congrArg List.head? a3
      omega
/-- a rule is put in the place of its left side -/
theorem ctx_exp (gw : GW n sy) (n0 : 0 < n) (lc : LCt n sy T S pr) (hf : isF n sy fi) (cl : CLa n sy fi T S F) (hF1 : ∀ s it, s < S → it < 75 → pr s it → F (s * 75 + it) ≠ 0) {d h e r : Nat} {ss : Nat → Nat} {σ : List Nat} (hs : ss (h - 1) < S) (h8 : 8 ≤ e) (he : e < 20) (hr : r < n) (hre : sy r 0 = e) (hc : Ctx n sy pr F d ss (e :: σ) h) : Ctx n sy pr F (d + 1) ss (rhL sy r ++ (20 + r) :: σ) h := by
  obtain ⟨it, h1, h2, h3, h4, h5⟩ := ctx_hd gw n0 hf he hc
  have c2 := (cl _ it hs h1 (hF1 _ it hs h1 h2) (by omega)).2 (by omega) r hr (by omega)
  refine ⟨r, 0, σ, hr, Nat.zero_le _, rfl, ctx_1 hc, lc.2.2.1 _ hs it h1 h2 r hr (by omega), fun f w hw => ?_, ?_⟩
  · have ht := h5 f w hw
    have h7 : hdT w < 7 := lt7_of (giv_lt hf.2.2 (Nat.lt_of_le_of_lt Nat.and_le_right (by decide))) ht
    rw [tb127 h7, Nat.add_zero]
    exact c2 _ ht
  · rw [hre]; exact hc
end S87z
