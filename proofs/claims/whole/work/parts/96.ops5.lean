/-! ===== the law: parse ===== -/
/-- attributes are told by the tree alone -/
theorem val_uniq {n md : Nat} {sy : Nat → Nat → Nat} {op xp yp : Nat → Nat} {nd : Nat → Int32} {tb tb' : Nat → Bool} {rl rl' : Nat → Nat} {pa pa' : Nat → Option (Nat × Nat)} {ch ch' : Nat → Nat → Nat} {rk : Nat → Nat} {val val' : Nat → Int64} (hn : n ≤ 14) (ev : EV n sy op xp yp) (tw : TW n sy md nd tb rl pa ch) (tw' : TW n sy md nd tb' rl' pa' ch') (ac : AC md tb rl pa ch op xp yp rk) (sol : SOL md tb rl pa ch op xp yp val) (sol' : SOL md tb' rl' pa' ch' op xp yp val') (ht : ∀ s, s < 3 * md → tb (s / 3) = true → tb' (s / 3) = true → val s = val' s) : ∀ s, s < 3 * md → val s = val' s := by
  have hmd := tw.1
  have e1 : ∀ j, j < md → tb' j = tb j := fun j hj => by
    obtain ⟨a1, a2, -, -⟩ := tw.2 j hj
    obtain ⟨b1, b2, -, -⟩ := tw'.2 j hj
    cases h : tb j with
    | true =>
      cases h' : tb' j with
      | true => rfl
      | false =>
        have := a1 h
        obtain ⟨c1, c2, -⟩ := b2 h'
        rw [c1] at this
        exact (nI_ne1 (by omega) this).elim
    | false =>
      cases h' : tb' j with
      | false => rfl
      | true =>
        have := b1 h'
        obtain ⟨c1, c2, -⟩ := a2 h
        rw [c1] at this
        exact (nI_ne1 (by omega) this).elim
  have e2 : ∀ j, j < md → tb j = false → rl' j = rl j := fun j hj hb => by
    obtain ⟨a1, a2, -⟩ := (tw.2 j hj).2.1 hb
    obtain ⟨b1, b2, -⟩ := (tw'.2 j hj).2.1 (by rw [e1 j hj]; exact hb)
    rw [a1] at b1
    exact ((nI_eq (by omega) (by omega)).mp b1).symm
  have e4 : ∀ j k, j < md → tb j = false → 1 ≤ k → k ≤ lnR sy (rl j) → ch' j k = ch j k := fun j k hj hb k1 kl => by
    obtain ⟨a1, a2⟩ := ((tw.2 j hj).2.1 hb).2.2 k k1 kl
    obtain ⟨b1, b2⟩ := ((tw'.2 j hj).2.1 (by rw [e1 j hj]; exact hb)).2.2 k k1 (by rw [e2 j hj hb]; exact kl)
    rw [a1] at b1
    exact ((nI_eq (by omega) (by omega)).mp b1).symm
  have e3 : ∀ j, j < md → pa' j = pa j := fun j hj => by
    obtain ⟨-, -, a3, a4⟩ := tw.2 j hj
    obtain ⟨-, -, b3, b4⟩ := tw'.2 j hj
    cases h : pa j with
    | none =>
      cases h' : pa' j with
      | none => rfl
      | some w =>
        obtain ⟨p, k⟩ := w
        obtain ⟨c1, -, c3, -⟩ := b4 p k h'
        rw [(a3 h).1] at c1
        exact (nI_ne1 (by omega) c1.symm).elim
    | some w =>
      obtain ⟨p, k⟩ := w
      obtain ⟨d1, d2, d3, -, -, d6⟩ := a4 p k h
      have hl := lnR_le sy (rl p)
      cases h' : pa' j with
      | none =>
        rw [(b3 h').1] at d1
        exact (nI_ne1 (by omega) d1.symm).elim
      | some w' =>
        obtain ⟨p', k'⟩ := w'
        obtain ⟨c1, c2, c3, -, -, c6⟩ := b4 p' k' h'
        have hl' := lnR_le sy (rl' p')
        rw [d1] at c1
        rw [d2] at c2
        rw [(nI_eq (by omega) (by omega)).mp c1, (nI_eq (by omega) (by omega)).mp c2]
  have key : ∀ N s, rk s < N → s < 3 * md → val s = val' s := by
    intro N
    induction N with
    | zero => intro s h; omega
    | succ N ih =>
      intro s hN hs
      have hj : s / 3 < md := by omega
      cases hb : tb (s / 3) with
      | true => exact ht s hs hb (by rw [e1 _ hj]; exact hb)
      | false =>
        rw [sol s hs hb, sol' s hs (by rw [e1 _ hj]; exact hb)]
        have ec : sCx pa' s = sCx pa s := by unfold sCx; rw [e3 _ hj]
        obtain ⟨l1, l2⟩ := arM_lt tw ev hs hb
        obtain ⟨r1, r2⟩ := ac.2 s hs hb
        rw [ec]
        cases hc : sCx pa s with
        | none => rfl
        | some w =>
          obtain ⟨c, p⟩ := w
          obtain ⟨h1, h2, h3⟩ := sCx_ok tw hs hb hc
          have hr := ((tw.2 c h1).2.1 h2).2.1
          obtain ⟨v1, v2, v3⟩ := ev (rl c) p hr h3
          rw [hc] at l1 l2 r1 r2
          have er := e2 c h1 h2
          have o1 : opS op rl' (some (c, p)) = opS op rl (some (c, p)) := by show op (rl' c * 15 + p) = op (rl c * 15 + p); rw [er]
          have n1 : nmS xp rl' (some (c, p)) = nmS xp rl (some (c, p)) := by show xp (rl' c * 15 + p) = xp (rl c * 15 + p); rw [er]
          have sl : ∀ x, x / 3 ≤ lnR sy (rl c) → sSl ch' c x = sSl ch c x := fun x hx => by
            unfold sSl
            by_cases z : x / 3 = 0
            · rw [if_pos z, if_pos z]
            · rw [if_neg z, if_neg z, e4 c (x / 3) h1 h2 (by omega) hx]
          have ax : 2 ≤ opS op rl (some (c, p)) → val (arS xp rl ch (some (c, p))) = val' (arS xp rl' ch' (some (c, p))) := fun o => by
            have e : arS xp rl' ch' (some (c, p)) = arS xp rl ch (some (c, p)) := by
              show sSl ch' c (xp (rl' c * 15 + p)) = sSl ch c (xp (rl c * 15 + p))
              rw [er]; exact sl _ (v1 o)
            rw [e]; exact ih _ (by have := r1 o; omega) (l1 o)
          have ay : 3 ≤ opS op rl (some (c, p)) → val (arS yp rl ch (some (c, p))) = val' (arS yp rl' ch' (some (c, p))) := fun o => by
            have e : arS yp rl' ch' (some (c, p)) = arS yp rl ch (some (c, p)) := by
              show sSl ch' c (yp (rl' c * 15 + p)) = sSl ch c (yp (rl c * 15 + p))
              rw [er]; exact sl _ (v2 o)
            rw [e]; exact ih _ (by have := r2 o; omega) (l2 o)
          unfold wkS
          rw [o1, n1]
          by_cases c0 : opS op rl (some (c, p)) = 0
          · rw [if_pos c0, if_pos c0]
          · rw [if_neg c0, if_neg c0]
            by_cases c1 : opS op rl (some (c, p)) = 1
            · rw [if_pos c1, if_pos c1]
            · rw [if_neg c1, if_neg c1, ax (by omega)]
              by_cases c2 : opS op rl (some (c, p)) = 2
              · unfold opr; rw [if_pos c2, if_pos c2]
              · rw [ay (by omega)]
  exact fun s hs => key _ s (Nat.lt_succ_self _) hs
theorem pt_uniq {n nt md : Nat} {sy : Nat → Nat → Nat} {op xp yp : Nat → Nat} {vl vl' nd tk : Nat → Int32} {val val' : Nat → Int64} (hn : n ≤ 14) (ev : EV n sy op xp yp) (h : PT n sy op xp yp nt vl md nd tk val) (h' : PT2 n sy op xp yp nt vl' md nd tk val') (hv : ∀ b, b < nt → vl b = vl' b) : ∀ s, s < 3 * md → val s = val' s := by
  obtain ⟨tb, rl, pa, ch, rk, a1, a2, a3, a4⟩ := h
  obtain ⟨tb', rl', pa', ch', rk', b1, -, -, b3, b4⟩ := h'
  refine val_uniq hn ev a1 b1 a2 a3 b3 (fun s hs hb hb' => ?_)
  have hj : s / 3 < md := by omega
  obtain ⟨b, c1, c2, c3, c4, c5⟩ := b4 _ hj hb'
  obtain ⟨d3, d4, d5⟩ := (a4 _ hj hb).2 b c1 c2
  rcases (show s = s / 3 * 3 ∨ s = s / 3 * 3 + 1 ∨ s = s / 3 * 3 + 2 by omega) with z | z | z
  · rw [z, d3, c3, hv b c1]
  · rw [z, d4, c4]
  · rw [z, d5, c5]
theorem PT2.vl {n nt md : Nat} {sy : Nat → Nat → Nat} {op xp yp : Nat → Nat} {vl vl' nd tk : Nat → Int32} {val : Nat → Int64} (h : PT2 n sy op xp yp nt vl md nd tk val) (hv : ∀ b, b < nt → vl b = vl' b) : PT2 n sy op xp yp nt vl' md nd tk val := by
  obtain ⟨tb', rl', pa', ch', rk', b1, b2, b22, b3, b4⟩ := h
  refine ⟨tb', rl', pa', ch', rk', b1, b2, b22, b3, fun j hj hb => ?_⟩
  obtain ⟨b, c1, c2, c3, c4, c5⟩ := b4 j hj hb
  exact ⟨b, c1, c2, by rw [← hv b c1]; exact c3, c4, c5⟩
theorem red_lt {r : Nat} (h : r < 14) : (-1 : Int32) - nI r < 0 := by
  have h2 : ∀ r : Fin 14, (-1 : Int32) - nI r.val < 0 := by decide +kernel
  exact h2 ⟨r, h⟩
/-- what both parsers need -/
theorem parse_key {i : Nat → Nat → Int32} {n nt b : Nat} {sy : Nat → Nat → Nat} {op xp yp lv kd : Nat → Nat} (F0 : Nat → Int32) (gw : GW n sy) (es : ESw op xp yp) (ed : EqD op) (ev : EV n sy op xp yp) (bD : b = 1 → ∃ S T pr F E fl tr, IvD i n sy op xp yp lv kd S T pr F E fl tr) (hnt : nt ≤ 40) {TT : Nat → Nat} (hTT : ∀ j, j < nt → 1 ≤ TT j ∧ TT j ≤ 6) :
    ∃ (S cj fl : Nat) (D : Nat → Nat → Int32) (G : Nat → Nat → Nat) (o : Int32) (md : Nat) (nd tk : Nat → Int32), (b = 1 → i 16 7 = nI cj ∧ cj < 4096) ∧ (b = 1 → i 56 12 = nI cj ∧ cj < 4096) ∧ (b = 1 → i 27 3 = nI fl ∧ fl < 2) ∧ (b = 1 → i 56 10 = nI fl ∧ fl < 2) ∧
      (b = 1 → ∀ s x, s < 50 → x < 7 → i 26 (s * 7 + x) = D s x) ∧ (b = 1 → ∀ s x, s < 50 → 8 ≤ x → x < 14 → i 24 (s * 14 + x) = nI (G s x)) ∧ (b = 1 → S ≤ 50 ∧ 0 < S) ∧ (b = 1 → ∀ s x, s < S → x < 7 → i 73 (7 * s + x) = D s x) ∧ (b = 1 → ∀ s x, s < S → 8 ≤ x → x < 14 → i 67 (14 * s + x) = nI (G s x) ∧ G s x < S) ∧ (b = 1 → ∀ s x k, s < S → x < 7 → D s x = nI k → 0 < k → k < 50 → k < S) ∧
      (b = 1 → cj = 0 → fl = 0 → LrP D G n sy nt TT (fun a b c d => a = o ∧ b = md ∧ c = nd ∧ d = tk) 150 0 1 0 (upN (fun _ => 0) 0 0) (fun _ => 0) F0 (fun _ => 0)) ∧ (o = -1 ∨ o = -2 ∨ ∃ k, k ≤ nt ∧ o = nI k) ∧ (o = -1 → ∃ val, PT n sy op xp yp nt (i 36) md nd tk val ∧ PT2 n sy op xp yp nt (i 36) md nd tk val) := by
  have hn := gw.1
  by_cases b1 : b = 1
  · obtain ⟨S, T, pr, F, E, fl, tr, n0, ⟨⟨lc, h00⟩, t2, t3, t4, t5, t6, t7, t8, t9, hred, t11, t12, t13⟩, ⟨f1, f2, f3⟩, f4, f5⟩ := bD b1
    have hS := lc.1.2.1
    have cjl := cjF_le (D := DcA sy lv kd F T) (k := 7 * S)
    obtain ⟨G, hGd⟩ : ∃ G : Nat → Nat → Nat, G = fun s x => if s < S ∧ 1 ≤ x ∧ x < 14 then T s x else Classical.choose (nI_any (i 24 (s * 14 + x))) := ⟨_, rfl⟩
    have hG1 : ∀ s x, s < S → 1 ≤ x → x < 14 → G s x = T s x := fun s x hs h1 hx => by rw [hGd]; exact if_pos ⟨hs, h1, hx⟩
    have hG2 : ∀ s x, 1 ≤ x → x < 14 → i 24 (s * 14 + x) = nI (G s x) := fun s x h1 hx => by
      by_cases c : s < S
      · rw [hG1 s x c h1 hx]; exact (t4 s x c h1 hx).1
      · rw [hGd]; dsimp only
        rw [if_neg (fun z => c z.1)]
        exact Classical.choose_spec (nI_any (i 24 (s * 14 + x)))
    have hDv : ∀ s x, s < S → x < 7 → i 26 (s * 7 + x) = dcS sy lv kd F T s x := fun s x hs hx => by
      rw [(t11 (s * 7 + x) (by omega)).1]
      show dcS sy lv kd F T ((s * 7 + x) / 7) ((s * 7 + x) % 7) = _
      rw [show (s * 7 + x) / 7 = s by omega, show (s * 7 + x) % 7 = x by omega]
    have hDS : ∀ s x k, s < S → x < 7 → i 26 (s * 7 + x) = nI k → 0 < k → k < 50 → k < S := fun s x k hs hx h k0 k50 => by
      rw [hDv s x hs hx] at h
      by_cases hc : dcS sy lv kd F T s x = nI 1001
      · rw [hc] at h; have := (nI_eq (by decide) (by omega)).mp h; omega
      · rcases dec_of (S := S) hn (fun r hr h => hred s x r hs hx hr h) hc with z | z | ⟨z1, z2, z3⟩ | ⟨r, hr, z, -⟩
        · rw [z] at h; have := (nI_eq (by decide) (by omega)).mp h; omega
        · rw [z] at h; have := (nI_eq (by decide) (by omega)).mp h; omega
        · have hTS := lc.1.2.2 s x hs z1 (by omega)
          rw [z3] at h; have := (nI_eq (by omega) (by omega)).mp h; omega
        · exact (nI_pos (n := k) (by omega) (show nI k < 0 by rw [← h, z]; exact red_lt (by omega))).elim
    have base : ∃ (o : Int32) (md : Nat) (nd tk : Nat → Int32), (cjF (DcA sy lv kd F T) (7 * S) = 0 → fl = 0 → LrP (fun s x => i 26 (s * 7 + x)) G n sy nt TT (fun a b c d => a = o ∧ b = md ∧ c = nd ∧ d = tk) 150 0 1 0 (upN (fun _ => 0) 0 0) (fun _ => 0) F0 (fun _ => 0)) ∧ (o = -1 ∨ o = -2 ∨ ∃ k, k ≤ nt ∧ o = nI k) ∧ (o = -1 → ∃ val, PT n sy op xp yp nt (i 36) md nd tk val ∧ PT2 n sy op xp yp nt (i 36) md nd tk val) := by
      by_cases good : cjF (DcA sy lv kd F T) (7 * S) = 0 ∧ fl = 0
      · obtain ⟨g1, g2⟩ := good
        obtain ⟨o, md, nd, tk, h1, h2⟩ := lr_run (D := fun s x => i 26 (s * 7 + x)) (G := G) (ss := fun _ => 0) (sn := fun _ => 0) (nd := F0) (tk := fun _ => 0) gw lc h00 hTT (fun s x hs hx => by
          have hc := cjF_0 g1 (s * 7 + x) (by omega)
          have hd := hDv s x hs hx
          rw [← (t11 (s * 7 + x) (by omega)).1, hd] at hc
          show i 26 (s * 7 + x) = _ ∨ i 26 (s * 7 + x) = _ ∨ _ ∨ _
          rw [hd]
          exact dec_of (S := S) hn (fun r hr h => hred s x r hs hx hr h) hc) (fun s x hs h8 hx => hG1 s x hs (by omega) hx)
        have hns : ¬ slA n sy op xp yp tr := fun z => by have := f4.mpr z; omega
        exact ⟨o, md, nd, tk, fun _ _ => h2, h1.1, fun _ => out_tree gw es ed ev f5 hns hnt h1⟩
      · exact ⟨-2, 0, fun _ => 0, fun _ => 0, fun a b => absurd ⟨a, b⟩ good, Or.inr (Or.inl rfl), fun z => absurd z (by decide)⟩
    obtain ⟨o, md, nd, tk, h1, h2, h3⟩ := base
    refine ⟨S, cjF (DcA sy lv kd F T) (7 * S), fl, fun s x => i 26 (s * 7 + x), G, o, md, nd, tk, fun _ => ⟨t12, by omega⟩, fun _ => ⟨t13, by omega⟩, fun _ => ⟨f1, f3⟩, fun _ => ⟨f2, f3⟩, fun _ s x _ _ => rfl, fun _ s x _ h8 hx => hG2 s x (by omega) hx, fun _ => ⟨hS, lc.1.1⟩, fun _ s x hs hx => ?_, fun _ s x hs h8 hx => ⟨?_, ?_⟩, fun _ => hDS, fun _ => h1, h2, h3⟩
    · obtain ⟨z1, z2⟩ := t11 (s * 7 + x) (by omega)
      show _ = i 26 (s * 7 + x)
      rw [z1, show 7 * s + x = s * 7 + x by omega, z2]
    · rw [hG1 s x hs (by omega) hx]; exact (t4 s x hs (by omega) hx).2
    · rw [hG1 s x hs (by omega) hx]; exact lc.1.2.2 s x hs (by omega) hx
  · exact ⟨0, 0, 0, fun _ _ => 0, fun _ _ => 0, -2, 0, fun _ => 0, fun _ => 0, fun z => absurd z b1, fun z => absurd z b1, fun z => absurd z b1, fun z => absurd z b1, fun z => absurd z b1, fun z => absurd z b1, fun z => absurd z b1, fun z => absurd z b1, fun z => absurd z b1, fun z => absurd z b1, fun z => absurd z b1, Or.inr (Or.inl rfl), fun z => absurd z (by decide)⟩

