/-! ===== mathematics: .. and so the parse of what was derived makes its nodes ===== -/
theorem red_nz {r : Nat} (h : r < 14) : (-1 : Int32) - nI r ≠ nI 1000 ∧ (-1 : Int32) - nI r ≠ nI 0 := by
  have h2 : ∀ r : Fin 14, (-1 : Int32) - nI r.val ≠ nI 1000 ∧ (-1 : Int32) - nI r.val ≠ nI 0 := by decide +kernel
  exact h2 ⟨r, h⟩
/-- facts of nodes as they are to be -/
def FCT (sy : Nat → Nat → Nat) (w : List Nat) (nd : Nat → Int32) : Prop := ∀ (j e : Nat), w[j]? = some e → (e < 8 → nd (j * 8 + 0) = nI e ∧ nd (j * 8 + 1) = -1) ∧ (8 ≤ e → nd (j * 8 + 0) = nI (sy (e - 20) 0) ∧ nd (j * 8 + 1) = nI (e - 20))
theorem fct_put {sy : Nat → Nat → Nat} {w0 : List Nat} {nd : Nat → Int32} {md e : Nat} {x y : Int32} (h : FCT sy w0 nd) (hl : w0.length = md) (he : (e < 8 → x = nI e ∧ y = -1) ∧ (8 ≤ e → x = nI (sy (e - 20) 0) ∧ y = nI (e - 20))) : FCT sy (w0 ++ [e]) (rnN nd md x y) := by
  intro j a ha
  rw [List.getElem?_append] at ha
  by_cases c : j < w0.length
  · rw [if_pos c] at ha
    rw [rnN_c (by decide) (by omega), rnN_c (by decide) (by omega)]
    exact h j a ha
  · rw [if_neg c] at ha
    have hj : j = md := by
      by_cases z : j - w0.length = 0
      · omega
      · exfalso
        have := (List.getElem?_eq_some_iff.mp ha).1
        simp at this
        omega
    subst hj
    rw [hl, Nat.sub_self] at ha
    have ea : e = a := by simpa using ha
    subst ea
    obtain ⟨r0, r1, -⟩ := rnN_0 (nd := nd) (md := j) (x := x) (y := y)
    rw [r0, r1]
    exact he
theorem fct_ch {sy : Nat → Nat → Nat} {w : List Nat} {nd : Nat → Int32} {sn : Nat → Nat} {hb md d : Nat} (hd : d ≤ 4) (h : FCT sy w nd) : FCT sy w (chN sn hb md d 1 nd) := by
  intro j a ha
  have e : ∀ c, c < 2 → chN sn hb md d 1 nd (j * 8 + c) = nd (j * 8 + c) := fun c hc => chN_oth (by omega) (Nat.le_refl _) (by omega) (fun k' a b => ⟨fun _ => by omega, fun _ => by omega⟩)
  rw [e 0 (by decide), e 1 (by decide)]
  exact h j a ha
/-- what the run leaves -/
def RES (n : Nat) (sy : Nat → Nat → Nat) (nt : Nat) (wt : List Nat) (o : Int32) (md : Nat) (nd tk : Nat → Int32) : Prop :=
  o = -1 ∧ md = wt.length ∧ FCT sy wt nd ∧ nd ((md - 1) * 8 + 2) = -1 ∧ ∃ tb rl pa ch, TW n sy md nd tb rl pa ch ∧ ∀ j, j < md → tb j = true → ∃ b, b < nt ∧ tk j = nI b
theorem tkA_hd {nt nx : Nat} {TT : Nat → Nat} {w : List Nat} (ht : ∀ (j x : Nat), (tks w)[j]? = some x → TT (nx + j) = x) (hn : nx + (tks w).length = nt) : tkA nt TT nx = hdT w := by
  unfold tkA hdT
  cases e : tks w with
  | nil => rw [e] at hn; rw [if_neg (by simp at hn; omega)]; rfl
  | cons x l =>
    rw [e] at hn ht
    have h0 := ht 0 x rfl
    rw [if_pos (by simp at hn; omega)]
    exact h0
section S87zz
variable {n S nt : Nat} {sy : Nat → Nat → Nat} {T G : Nat → Nat → Nat} {D : Nat → Nat → Int32} {pr : Nat → Nat → Prop} {TT fi F lv kd : Nat → Nat}
theorem fol (gw : GW n sy) (n0 : 0 < n) (lc : LCt n sy T S pr) (hf : isF n sy fi) (cl : CLa n sy fi T S F) (hF1 : ∀ s it, s < S → it < 75 → pr s it → F (s * 75 + it) ≠ 0) (hlv : ∀ t, lv t = 0)
    (noc : ∀ s t, s < S → t < 7 → dcS sy lv kd F T s t ≠ nI 1001) (hD : ∀ s t, s < S → t < 7 → D s t = dcS sy lv kd F T s t) (hG : ∀ s x, s < S → 8 ≤ x → x < 14 → G s x = T s x) {wt : List Nat} (hwt : wt.length ≤ 150) :
    ∀ f σ w d w0 fu nx h md ss sn nd tk X tb rl pa ch, Drv n sy f σ w → Ctx n sy pr F d ss σ h → STK T S h ss X → TRI n sy nt h md sn X nd tk tb rl pa ch → FCT sy w0 nd → w0.length = md → w0 ++ w = wt → fu + md = 150 →
      (∀ (j x : Nat), (tks w)[j]? = some x → TT (nx + j) = x) → nx + (tks w).length = nt → (2 ≤ h → sn (h - 1) + 1 = md) → LrP D G n sy nt TT (RES n sy nt wt) fu nx h md ss sn nd tk := by
  have hn := gw.1
  have hS50 := lc.1.2.1
  have fin : ∀ d w0 fu nx h md ss sn nd tk X tb rl pa ch, Ctx n sy pr F d ss [] h → STK T S h ss X → TRI n sy nt h md sn X nd tk tb rl pa ch → FCT sy w0 nd → w0.length = md → w0 = wt → nx = nt → (2 ≤ h → sn (h - 1) + 1 = md) → LrP D G n sy nt TT (RES n sy nt wt) fu nx h md ss sn nd tk := by
    intro d w0 fu nx h md ss sn nd tk X tb rl pa ch hc st tr hfc hl hw hx htop
    cases d with
    | succ d =>
      obtain ⟨r, k, σ', _, _, a3, _⟩ := hc
      exact absurd a3.symm (by simp)
    | zero =>
      obtain ⟨k, a, b, c, p1, p2⟩ := hc
      have hk : k = 1 := by
        by_cases z : k = 0
        · subst z; cases c
        · omega
      subst hk
      subst b
      have hs := st.lt (j := 1) (by omega)
      have ht : tkA nt TT nx = 0 := by unfold tkA; rw [if_neg (by omega)]
      have hd : D (ss 1) 0 = nI 1000 := by
        rw [hD _ _ hs (by decide), dc_red hlv (noc _ _ hs (by decide)) (r := 14) (by decide) (by
          unfold redP
          rw [ln14 gw n0]
          exact p2), if_pos rfl]
      obtain ⟨t1, t2, t3, t4, t5, -⟩ := tr
      obtain ⟨s1, s2, -⟩ := t5 1 (Nat.le_refl _) (by omega)
      have htop := htop (by omega)
      have htop : sn 1 + 1 = md := htop
      have res : RES n sy nt wt (-1) md nd tk := by
        refine ⟨rfl, by rw [← hw, hl], by rw [← hw]; exact hfc, ?_, tb, rl, pa, ch, t1, t4⟩
        have := ((t1.2 (sn 1) s1).2.2.1 s2).1
        rw [show md - 1 = sn 1 by omega]; exact this
      have hd2 : D (ss (2 - 1)) (tkA nt TT nx) = nI 1000 := by rw [ht]; exact hd
      cases fu with
      | zero => unfold LrP; rw [if_pos hd2]; exact res
      | succ fu => unfold LrP; rw [if_pos hd2]; exact res
  intro f
  induction f with
  | zero =>
    intro σ w d w0 fu nx h md ss sn nd tk X tb rl pa ch hdv hc st tr hfc hl hw hfu htk hnx htop
    obtain ⟨rfl, rfl⟩ := hdv
    exact fin d w0 fu nx h md ss sn nd tk X tb rl pa ch hc st tr hfc hl (by simpa using hw) (by simpa [tks] using hnx) htop
  | succ f ih =>
    intro σ w d w0 fu nx h md ss sn nd tk X tb rl pa ch hdv hc st tr hfc hl hw hfu htk hnx htop
    cases σ with
    | nil =>
      have e := drv_nil hdv
      subst e
      exact fin d w0 fu nx h md ss sn nd tk X tb rl pa ch hc st tr hfc hl (by simpa using hw) (by simpa [tks] using hnx) htop
    | cons e σ =>
      have hh := st.1
      have hs := st.lt (j := h - 1) (by omega)
      rcases hdv with ⟨h8, h20, r, hr, hre, hdv⟩ | ⟨he, w', rfl, hdv⟩
      · exact ih _ w (d + 1) w0 fu nx h md ss sn nd tk X tb rl pa ch hdv (ctx_exp gw n0 lc hf cl hF1 hs h8 h20 hr hre hc) st tr hfc hl hw hfu htk hnx htop
      · have hlen : md + (w'.length + 1) = wt.length := by rw [← hw, List.length_append, List.length_cons, hl]
        have hta := tkA_hd htk hnx
        cases fu with
        | zero => omega
        | succ fu =>
          have hw2 : (w0 ++ [e]) ++ w' = wt := by rw [List.append_assoc]; exact hw
          have hl2 : (w0 ++ [e]).length = md + 1 := by rw [List.length_append, hl]; rfl
          by_cases e8 : e < 8
          · -- shift
            obtain ⟨it, i1, i2, i3, i4, -⟩ := ctx_hd gw n0 hf (show e < 20 by omega) hc
            have e16 : 1 ≤ e ∧ e ≤ 6 := by unfold syO at i4; omega
            rw [hdT_tm e8] at hta
            have hpos := (lc.2.2.2.2.1 _ it hs i1 i2 (by omega)).1
            rw [i3] at hpos
            have hTS := lc.1.2.2 (ss (h - 1)) e hs e16.1 (by omega)
            have hd : D (ss (h - 1)) e = nI (T (ss (h - 1)) e) := by rw [hD _ _ hs (by omega)]; exact dc_shift hlv (noc _ _ hs (by omega)) e16.1 hpos
            have htk2 := htk
            rw [tks_tm e8] at hnx htk2
            have hlt : nx < nt := by rw [List.length_cons] at hnx; omega
            have key := ih σ w' d (w0 ++ [e]) fu (nx + 1) (h + 1) (md + 1) _ (upN sn h md) _ (upd tk md (nI nx)) _ _ _ _ _ hdv (ctx_adv gw n0 lc cl hF1 hs (by omega) hc) (st.push ⟨e16.1, by omega⟩ hpos hTS) (tri_shift hh (by omega) e8 hlt tr)
              (fct_put hfc hl ⟨fun _ => ⟨rfl, rfl⟩, fun z => by omega⟩) hl2 hw2 (by omega) (fun j x hj => by
                have := htk2 (j + 1) x (by simpa using hj)
                rw [show nx + 1 + j = nx + (j + 1) by omega]; exact this) (by rw [List.length_cons] at hnx; omega) (fun _ => by rw [show h + 1 - 1 = h by omega, upN_at])
            unfold LrP
            rw [hta, hd, if_neg (fun z => by have := (nI_eq (by omega) (by decide)).mp z; omega), if_neg (fun z => by have := (nI_eq (by omega) (by decide)).mp z; omega)]
            exact Or.inl ⟨_, rfl, hpos, by omega, hlt, key⟩
          · -- reduce
            have e20 : 20 ≤ e := by omega
            rw [hdT_rl e8] at hta
            cases d with
            | zero =>
              exfalso
              obtain ⟨k, a, b, c, -⟩ := hc
              by_cases z : k = 0
              · subst z
                have c1 : e = sy 0 0 := by simpa using congrArg List.head? c
                have := (gw.2.2.1 0 n0).2
                omega
              · have : k = 1 := by omega
                subst this; cases c
            | succ d =>
              obtain ⟨r, k, σ', a1, a2, a3, a4, a5, a6, a7⟩ := hc
              have hl4 := lnR_le sy r
              by_cases hk : k < lnR sy r
              · exfalso
                rw [rhL_drop hk, List.cons_append] at a3
                have c1 : e = sy r (k + 1) := by simpa using congrArg List.head? a3
                have := gw.le (r := r) (k := k + 1) (by omega) (by omega)
                omega
              · have ek : k = lnR sy r := by omega
                subst ek
                rw [rhL_end, List.nil_append] at a3
                have c1 : e = 20 + r := by simpa using congrArg List.head? a3
                have c2 : σ = σ' := by simpa using congrArg List.tail a3
                subst c1 c2
                have hbit := a6 f w' hdv
                have h7 : hdT w' < 7 := lt7_of (Nat.lt_of_le_of_lt Nat.and_le_right (by decide)) hbit
                have hd : D (ss (h - 1)) (hdT w') = -1 - nI r := by
                  rw [hD _ _ hs h7, dc_red hlv (noc _ _ hs h7) (r := r) (by omega) hbit, if_neg (by omega)]
                have hlf := gw.2.2.1 r a1
                have hb1 : 1 ≤ h - lnR sy r := by omega
                have hcut : STK T S (h - lnR sy r) ss X := st.cut hb1 (by omega)
                have hs2 := hcut.lt (j := h - lnR sy r - 1) (by omega)
                obtain ⟨it, i1, i2, i3, -, -⟩ := ctx_hd gw n0 hf (show sy r 0 < 20 by omega) a7
                have hpos := (lc.2.2.2.2.1 _ it hs2 i1 i2 (by omega)).1
                rw [i3] at hpos
                have hTS := lc.1.2.2 (ss (h - lnR sy r - 1)) (sy r 0) hs2 (by omega) (by omega)
                have hGe := hG (ss (h - lnR sy r - 1)) (sy r 0) hs2 hlf.1 (by omega)
                obtain ⟨-, -, b3⟩ := st.back gw lc a1 a5 (lnR sy r) (Nat.le_refl _)
                rw [tks_rl e8] at hnx htk
                have key := ih σ w' d (w0 ++ [20 + r]) fu nx (h - lnR sy r + 1) (md + 1) _ (upN sn (h - lnR sy r) md) _ (upd tk md (-1)) _ _ _ _ _ hdv (ctx_adv gw n0 lc cl hF1 hs2 (by omega) a7) (hcut.push ⟨by omega, by omega⟩ hpos hTS)
                  (tri_reduce gw (h := h) (hb := h - lnR sy r) hb1 (by omega) (by omega) a1 (fun k k1 kl => by
                    have := b3 k (by omega) kl
                    rw [show h - lnR sy r + k - 1 = h - 1 - (lnR sy r - k) by omega]; exact this) tr)
                  (fct_ch hl4 (fct_put hfc hl ⟨fun z => by omega, fun _ => ⟨by rw [show 20 + r - 20 = r by omega], by rw [show 20 + r - 20 = r by omega]⟩⟩)) hl2 hw2 (by omega) htk hnx (fun _ => by rw [show h - lnR sy r + 1 - 1 = h - lnR sy r by omega, upN_at])
                unfold LrP
                rw [hta, hd, if_neg (red_nz (by omega)).1, if_neg (red_nz (by omega)).2]
                refine Or.inr ⟨r, h - lnR sy r, rfl, a1, by omega, hb1, by rw [hGe]; omega, ?_⟩
                rw [hGe]; exact key
/-- .. from the beginning -/
theorem fol_run (gw : GW n sy) (n0 : 0 < n) (lc : LCt n sy T S pr) (hf : isF n sy fi) (cl : CLa n sy fi T S F) (hF1 : ∀ s it, s < S → it < 75 → pr s it → F (s * 75 + it) ≠ 0) (hF2 : (F 70).testBit 0 = true) (hlv : ∀ t, lv t = 0)
    (noc : ∀ s t, s < S → t < 7 → dcS sy lv kd F T s t ≠ nI 1001) (hD : ∀ s t, s < S → t < 7 → D s t = dcS sy lv kd F T s t) (hG : ∀ s x, s < S → 8 ≤ x → x < 14 → G s x = T s x) {w : List Nat} (hwt : w.length ≤ 150) {f : Nat} (hdv : Drv n sy f [sy 0 0] w)
    (htk : ∀ (j x : Nat), (tks w)[j]? = some x → TT j = x) (hnt : (tks w).length = nt) {ss sn : Nat → Nat} {nd tk : Nat → Int32} : LrP D G n sy nt TT (RES n sy nt w) 150 0 1 0 (upN ss 0 0) sn nd tk :=
  fol gw n0 lc hf cl hF1 hlv noc hD hG hwt f [sy 0 0] w 0 [] 150 0 1 0 (upN ss 0 0) sn nd tk (fun _ => 0) (fun _ => false) (fun _ => 0) (fun _ => none) (fun _ _ => 0) hdv
    ⟨0, by decide, rfl, rfl, by rw [show (1 - 1 : Nat) = 0 from rfl, upN_at]; exact lc.2.2.2.1.1, by rw [show (1 - 1 : Nat) = 0 from rfl, upN_at, tb127 (by decide), Nat.zero_mul, Nat.zero_add]; exact hF2⟩
    ⟨Nat.le_refl _, upN_at _ _ _, lc.1.1, fun j a b => by omega⟩
    ⟨⟨by omega, fun j hj => by omega⟩, ⟨fun j p k hj => by omega, fun p k hp => by omega⟩, fun p k hp => by omega, fun j hj => by omega, fun j a b => by omega, fun j j' a b c => by omega⟩
    (fun j e h => by simp at h) rfl rfl (by omega) (fun j x hj => by rw [Nat.zero_add]; exact htk j x hj) (by rw [Nat.zero_add]; exact hnt) (fun h => by omega)
end S87zz
