/-! ===== mathematics: a grammar without equations has no rings, and its trees' attributes are none ===== -/
theorem eqm_0 {op xp yp : Nat → Nat} (h : ∀ j, op j = 0) (j : Nat) : eqm op xp yp j = 0 := by
  unfold eqm
  rw [h j, if_neg (by decide), if_neg (by decide)]; rfl
theorem slA_0 {n : Nat} {sy : Nat → Nat → Nat} {op xp yp tr : Nat → Nat} (hop : ∀ j, op j = 0) : ¬ slA n sy op xp yp tr := by
  rintro ⟨r, hr, mk, p, hp, hb⟩
  have key : ∀ a b, (hgB sy op xp yp tr r (lnR sy r + 1) a).testBit b = true → a % 3 < 2 ∧ b % 3 = 2 := fun a b h => by
    unfold hgB at h
    by_cases c : 3 ≤ a ∧ a / 3 < lnR sy r + 1 ∧ a % 3 < 2
    · rw [if_pos c] at h
      refine ⟨c.2.2, ?_⟩
      by_cases d : (tr (sy r (a / 3))).testBit (a % 3) = true
      · rw [if_pos d, Nat.testBit_two_pow] at h
        have := of_decide_eq_true h
        omega
      · rw [if_neg d, Nat.zero_testBit] at h; cases h
    · rw [if_neg c, eqm_0 hop, Nat.zero_testBit] at h; cases h
  have h1 : TC (fun a b => (hgB sy op xp yp tr r (lnR sy r + 1) a).testBit b = true) p p := wsN_tc hb
  obtain ⟨b, h2, h3⟩ := h1.head
  have k1 := key _ _ h2
  rcases h3 with rfl | h3
  · omega
  · obtain ⟨c, h4, -⟩ := h3.head
    have k2 := key _ _ h4
    omega
theorem opS_0 {op rl : Nat → Nat} (h : ∀ j, op j = 0) (o : Option (Nat × Nat)) : opS op rl o = 0 := by
  cases o with
  | none => rfl
  | some w => obtain ⟨c, p⟩ := w; exact h _
theorem AC_0 {md : Nat} {tb : Nat → Bool} {rl : Nat → Nat} {pa : Nat → Option (Nat × Nat)} {ch : Nat → Nat → Nat} {op xp yp : Nat → Nat} (h : ∀ j, op j = 0) : AC md tb rl pa ch op xp yp (fun _ => 0) :=
  ⟨fun s _ => (by show 0 < 450; decide), fun s _ _ => ⟨fun z => by rw [opS_0 h] at z; omega, fun z => by rw [opS_0 h] at z; omega⟩⟩
/-- what the parser's tree must be so that its attributes can be worked out -/
theorem PT_0 {n nt md : Nat} {sy : Nat → Nat → Nat} {op xp yp : Nat → Nat} {vl nd tk : Nat → Int32} {tb : Nat → Bool} {rl : Nat → Nat} {pa : Nat → Option (Nat × Nat)} {ch : Nat → Nat → Nat} (hop : ∀ j, op j = 0) (ev : EV n sy op xp yp) (hnt : nt ≤ 40) (tw : TW n sy md nd tb rl pa ch) (tt : ∀ j, j < md → tb j = true → ∃ b, b < nt ∧ tk j = nI b) : ∃ val, PT n sy op xp yp nt vl md nd tk val := by
  obtain ⟨bk, hbk⟩ : ∃ bk : Nat → Nat, ∀ j, j < md → tb j = true → bk j < nt ∧ tk j = nI (bk j) := by
    refine ⟨fun j => if h : j < md ∧ tb j = true then Classical.choose (tt j h.1 h.2) else 0, fun j hj hb => ?_⟩
    dsimp only
    rw [dif_pos ⟨hj, hb⟩]
    exact Classical.choose_spec (tt j hj hb)
  obtain ⟨val, sol, vt⟩ := sol_of (AC_0 (md := md) (tb := tb) (rl := rl) (pa := pa) (ch := ch) (xp := xp) (yp := yp) hop) tw ev (fun s => if s % 3 = 0 then (vl (bk (s / 3))).toInt64 else if s % 3 = 1 then (nI (bk (s / 3))).toInt64 else 0)
  have hv : ∀ j, tb j = true → val (j * 3) = (vl (bk j)).toInt64 ∧ val (j * 3 + 1) = (nI (bk j)).toInt64 ∧ val (j * 3 + 2) = 0 := fun j hb => by
    refine ⟨?_, ?_, ?_⟩
    · rw [vt _ (by rw [show j * 3 / 3 = j by omega]; exact hb), if_pos (by omega), show j * 3 / 3 = j by omega]
    · rw [vt _ (by rw [show (j * 3 + 1) / 3 = j by omega]; exact hb), if_neg (by omega), if_pos (by omega), show (j * 3 + 1) / 3 = j by omega]
    · rw [vt _ (by rw [show (j * 3 + 2) / 3 = j by omega]; exact hb), if_neg (by omega), if_neg (by omega)]
  refine ⟨val, tb, rl, pa, ch, _, tw, AC_0 hop, sol, fun j hj hb => ⟨by rw [(tw.2 j hj).1 hb]; decide, fun b hb2 he => ?_⟩⟩
  obtain ⟨k1, k2⟩ := hbk j hj hb
  rw [k2] at he
  have := (nI_eq (by omega) (by omega)).mp he
  rw [← this]; exact hv j hb
