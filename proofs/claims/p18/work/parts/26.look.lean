/-! ===== States.spreadLookaheads ===== -/
/-- item it of state s has given what it has -/
def CL (n : Nat) (sy : Nat → Nat → Nat) (fi : Nat → Nat) (T : Nat → Nat → Nat) (F : Nat → Nat) (s it : Nat) : Prop := F (s * 75 + it) ≠ 0 → bh sy it ≠ 0 → sub (F (s * 75 + it) &&& 127) (F (T s (bh sy it) * 75 + (it + 1))) ∧ (8 ≤ bh sy it → ∀ r, r < n → sy r 0 = bh sy it → sub (giv fi sy it (F (s * 75 + it) &&& 127)) (F (s * 75 + r * 5)))
def CLa (n : Nat) (sy : Nat → Nat → Nat) (fi : Nat → Nat) (T : Nat → Nat → Nat) (S : Nat) (F : Nat → Nat) : Prop := ∀ s it, s < S → it < 75 → CL n sy fi T F s it
/-- F lies below every closed array over F0 -/
def leL (n : Nat) (sy : Nat → Nat → Nat) (fi : Nat → Nat) (T : Nat → Nat → Nat) (S : Nat) (F0 F : Nat → Nat) : Prop := ∀ G : Nat → Nat, (∀ j, sub (F0 j) (G j)) → (∀ s it, s < S → it < 75 → (F0 (s * 75 + it) ≠ 0 ∨ G (s * 75 + it) ≠ 0) → bh sy it ≠ 0 → sub (G (s * 75 + it) &&& 127) (G (T s (bh sy it) * 75 + (it + 1))) ∧ (8 ≤ bh sy it → ∀ r, r < n → sy r 0 = bh sy it → sub (giv fi sy it (G (s * 75 + it) &&& 127)) (G (s * 75 + r * 5)))) → ∀ j, sub (F j) (G j)
theorem sub_nz {a b : Nat} (h : sub a b) (ha : a ≠ 0) : b ≠ 0 := fun e => by
  have := sub_le h
  omega
theorem sub_and {a b m : Nat} (h : sub a b) : sub (a &&& m) (b &&& m) := fun t ht => by
  rw [Nat.testBit_and, Bool.and_eq_true] at ht ⊢
  exact ⟨h t ht.1, ht.2⟩
theorem giv_mono {fi : Nat → Nat} {sy : Nat → Nat → Nat} {it a b : Nat} (h : sub a b) : sub (giv fi sy it a) (giv fi sy it b) := by
  unfold giv
  split
  · exact sub_or sub_l (sub_tr h sub_r)
  · exact sub_rf
theorem leL_sF {n : Nat} {sy : Nat → Nat → Nat} {fi : Nat → Nat} {T : Nat → Nat → Nat} {S : Nat} {F0 F : Nat → Nat} (h : leL n sy fi T S F0 F) {s it : Nat} (hs : s < S) (hi : it < 75) (hp : F (s * 75 + it) ≠ 0) : leL n sy fi T S F0 (sF n sy fi T s it F) := by
  intro G hG hc j
  have hF := h G hG hc
  unfold sF
  by_cases h0 : bh sy it = 0
  · rw [if_pos h0]; exact hF j
  · rw [if_neg h0]
    have hGp : G (s * 75 + it) ≠ 0 := sub_nz (hF _) hp
    obtain ⟨c1, c2⟩ := hc s it hs hi (Or.inr hGp) h0
    have h1 : ∀ j, sub (sF1 T sy s it F j) (G j) := by
      intro j
      unfold sF1 upN
      split
      · rename_i e; subst e
        exact sub_or (hF _) (sub_tr (sub_and (hF _)) c1)
      · exact hF j
    by_cases h8 : bh sy it < 8
    · rw [if_pos h8]; exact h1 j
    · rw [if_neg h8]
      unfold gv
      split
      · rename_i e
        refine sub_or (h1 j) ?_
        have e2 : j = s * 75 + (j - s * 75) / 5 * 5 := by omega
        have := c2 (by omega) ((j - s * 75) / 5) (by omega) e.2.2.2
        rw [← e2] at this
        exact sub_tr (giv_mono (sub_and (hF _))) this
      · exact h1 j
theorem sF_fix {n : Nat} {sy : Nat → Nat → Nat} {fi : Nat → Nat} {T : Nat → Nat → Nat} {s it : Nat} {F : Nat → Nat} (h : sF n sy fi T s it F = F) : CL n sy fi T F s it := by
  intro hp h0
  unfold sF at h
  rw [if_neg h0] at h
  by_cases h8 : bh sy it < 8
  · rw [if_pos h8] at h
    refine ⟨?_, fun h => by omega⟩
    have := congrFun h (T s (bh sy it) * 75 + (it + 1))
    unfold sF1 at this
    rw [upN_at] at this
    exact sub_of_or this
  · rw [if_neg h8] at h
    have h1 : sF1 T sy s it F = F := by
      funext j
      have a1 := sF1_ge (T := T) (sy := sy) (s := s) (it := it) (F := F) j
      have a2 := gv_ge (n := n) (sy := sy) (x := bh sy it) (s := s) (m := giv fi sy it (F (s * 75 + it) &&& 127)) (F := sF1 T sy s it F) j
      rw [h] at a2
      omega
    rw [h1] at h
    refine ⟨?_, fun _ r hr hx => ?_⟩
    · have := congrFun h1 (T s (bh sy it) * 75 + (it + 1))
      unfold sF1 at this
      rw [upN_at] at this
      exact sub_of_or this
    · exact sub_of_or (gv_fix h hr hx)
theorem sF_lt {n : Nat} {sy : Nat → Nat → Nat} {fi : Nat → Nat} {T : Nat → Nat → Nat} {s it : Nat} {F : Nat → Nat} (hF : ∀ j, j < 3750 → F j < 256) (hfb : ∀ x, fi x < 128) (hT : bh sy it ≠ 0 → T s (bh sy it) * 75 + (it + 1) < 3750) (j : Nat) (hj : j < 3750) : sF n sy fi T s it F j < 256 := by
  unfold sF
  by_cases h0 : bh sy it = 0
  · rw [if_pos h0]; exact hF j hj
  · rw [if_neg h0]
    by_cases h8 : bh sy it < 8
    · rw [if_pos h8]; exact sF1_lt hF (hT h0) j hj
    · rw [if_neg h8]
      exact gv_lt (Nat.lt_trans (giv_lt hfb and127) (by decide)) (sF1_lt hF (hT h0) j hj)
section S26
variable {ζ g : Nat} {i : Nat → Nat → Int32} {q : Nat → Nat → Int64} {t : Bool} {Q : xRes → xMem → Prop} {n : Nat} {sy : Nat → Nat → Nat} {fi : Nat → Nat} {T : Nat → Nat → Nat} {S : Nat}
/-- what stays while lookaheads are spread -/
def lkI (n : Nat) (sy : Nat → Nat → Nat) (fi : Nat → Nat) (T : Nat → Nat → Nat) (S : Nat) (F0 : Nat → Nat) (i i1 : Nat → Nat → Int32) (F : Nat → Nat) : Prop := Fr [22] i i1 ∧ Vw i1 22 3750 F ∧ (∀ j, j < 3750 → F j < 256) ∧ (∀ j, F0 j ≤ F j) ∧ leL n sy fi T S F0 F
/-- the flag of a round: Fr is the array at its beginning, P says which items have been looked at -/
def lkB (n : Nat) (sy : Nat → Nat → Nat) (fi : Nat → Nat) (T : Nat → Nat → Nat) (S : Nat) (b : Nat) (F1 F : Nat → Nat) (P : Nat → Nat → Prop) : Prop := (b = 0 ∧ F = F1 ∧ ∀ s it, s < S → it < 75 → P s it → CL n sy fi T F s it) ∨ (b = 1 ∧ (∀ j, F1 j ≤ F j) ∧ sumN F1 3750 < sumN F 3750)
theorem lkB.weak {b : Nat} {F1 F : Nat → Nat} {P P' : Nat → Nat → Prop} (h : lkB n sy fi T S b F1 F P) (hp : ∀ s it, s < S → it < 75 → P' s it → P s it) : lkB n sy fi T S b F1 F P' := by
  rcases h with ⟨a, c, d⟩ | h
  · exact Or.inl ⟨a, c, fun s it hs hi h => d s it hs hi (hp s it hs hi h)⟩
  · exact Or.inr h
theorem lkB.b {b : Nat} {F1 F : Nat → Nat} {P : Nat → Nat → Prop} (h : lkB n sy fi T S b F1 F P) : b < 2 := by rcases h with ⟨a, _⟩ | ⟨a, _⟩ <;> omega
theorem lp_States_spread_it {s rd : Nat} {F0 F1 : Nat → Nat} (sc : SC i) (gs : GS i n sy) (hs : s < S) (hS : S ≤ 50) (hfi : Vw i 9 14 fi) (hfb : ∀ x, fi x < 128) (hT : ∀ s x, s < S → 1 ≤ x → x < 14 → i 24 (s * 14 + x) = nI (T s x) ∧ T s x < S)
    (hk : ∀ b i1 F, lkI n sy fi T S F0 i i1 F → lkB n sy fi T S b F1 F (fun s' it' => s' < s + 1) → Wx m_States_spreadLookaheads 27 [some (.ref 16), some (.int (nI b)), some (.int (nI rd)), some (.int (nI (s + 1))), none] [] (56 + ζ, g, i1, q, RT t) (0, 0) Q) :
    ∀ d k b i1 F, k + d = 75 → lkI n sy fi T S F0 i i1 F → lkB n sy fi T S b F1 F (fun s' it' => s' < s ∨ s' = s ∧ it' < k) →
      Wx m_States_spreadLookaheads 38 [some (.ref 16), some (.int (nI b)), some (.int (nI rd)), some (.int (nI s)), some (.int (nI k))] [] (56 + ζ, g, i1, q, RT t) (0, 0) Q := by
  intro d
  induction d with
  | zero =>
    intro k b i1 F hkk hI hB
    refine ex_iload dX7_spreadLookaheads_38 rfl ?_
    refine ex_bipush (v := nI 75) dX7_spreadLookaheads_40 (by decide) ?_
    refine ex_icmp_geN (tgt := 76) dX7_spreadLookaheads_42 (by decide) (by omega) (by omega) (fun h42 => ?_) (fun h42 => by omega)
    refine ex_iincN (L' := [some (.ref (16)), some (.int (nI (b))), some (.int (nI (rd))), some (.int (nI (s + 1))), some (.int (nI (k)))]) dX7_spreadLookaheads_76 rfl rfl (by decide) rfl ?_
    refine ex_goto (tgt := 27) dX7_spreadLookaheads_79 (by decide) ?_
    exact ex_less (L' := [some (.ref 16), some (.int (nI b)), some (.int (nI rd)), some (.int (nI (s + 1))), none]) (by simp [xSub]) (hk b i1 F hI (hB.weak (fun s' it' h1 h2 h => by omega)))
  | succ d ih =>
    intro k b i1 F hkk hI hB
    obtain ⟨hf, hV, hF, hge, hle⟩ := hI
    have sc1 := SC_Fr (by decide) hf sc
    have gs1 := gs.fr hf (by decide) (by decide)
    have hfi1 := hfi.fr hf (by decide)
    have hT1 : ∀ s x, s < S → 1 ≤ x → x < 14 → i1 24 (s * 14 + x) = nI (T s x) ∧ T s x < S := fun s x a b c => by rw [hf 24 (by decide)]; exact hT s x a b c
    have hk75 : k < 75 := by omega
    have hFb := hF (s * 75 + k) (by omega)
    by_cases hp : F (s * 75 + k) = 0
    · have hB2 : lkB n sy fi T S b F1 F (fun s' it' => s' < s ∨ s' = s ∧ it' < k + 1) := by
        rcases hB with ⟨a, c, e⟩ | h
        · refine Or.inl ⟨a, c, fun s' it' h1 h2 h3 => ?_⟩
          by_cases h4 : s' = s ∧ it' = k
          · obtain ⟨rfl, rfl⟩ := h4
            exact fun hne => absurd hp hne
          · exact e s' it' h1 h2 (by omega)
        · exact Or.inr h
      refine ex_iload dX7_spreadLookaheads_38 rfl ?_
      refine ex_bipush (v := nI 75) dX7_spreadLookaheads_40 (by decide) ?_
      refine ex_icmp_geN (tgt := 76) dX7_spreadLookaheads_42 (by decide) (by omega) (by omega) (fun h42 => by omega) (fun h42 => ?_)
      refine ex_aload_n (i := 0) dX7_spreadLookaheads_45 rfl rfl ?_
      refine ex_getR (v := .ref (21)) dX7_spreadLookaheads_46 fl_States_32 rfl rfl (l56 (by decide)) rfl ?_
      refine ex_iload_n (i := 3) dX7_spreadLookaheads_49 rfl rfl ?_
      refine ex_iload dX7_spreadLookaheads_50 rfl ?_
      refine ex_cV (ν := m_Grid_get) (a := 21) (ci := 2) (as := [.int (nI (s)), .int (nI (k))]) dX7_spreadLookaheads_52 ln_States_49 mf_Grid_get rfl (l56 (by decide)) rfl rfl np_Grid_get rfl rfl ⟨(Nat.le_of_ble_eq_true rfl), (Nat.le_of_ble_eq_true rfl), (Nat.le_of_ble_eq_true rfl), (Nat.le_of_ble_eq_true rfl)⟩ (by decide) ?_
      refine sp_Grid_get (r := 21) (c := 22) rfl rfl rfl (l56 (by decide)) (l56 (by decide)) (sc_21_0 sc1) (sc_21_1 sc1) rfl (by omega) (by omega) ?_
      refine ⟨_, rfl, ?_⟩
      refine ex_asN (a := F (s * 75 + k)) (hV _ (by omega)) ?_
      refine ex_if_eqN (tgt := 70) dX7_spreadLookaheads_55 (by decide) (by omega) (fun h55 => ?_) (fun h55 => by exact absurd hp h55)
      refine ex_iincN (L' := [some (.ref (16)), some (.int (nI (b))), some (.int (nI (rd))), some (.int (nI (s))), some (.int (nI (k + 1)))]) dX7_spreadLookaheads_70 rfl rfl (by decide) rfl ?_
      refine ex_goto (tgt := 38) dX7_spreadLookaheads_73 (by decide) ?_
      exact ih (k + 1) b i1 F (by omega) ⟨hf, hV, hF, hge, hle⟩ hB2
    · have hTl : bh sy k ≠ 0 → T s (bh sy k) * 75 + (k + 1) < 3750 := fun h => by
        have h1 := bh_le gs.2.2 hk75
        have h2 := (hT s (bh sy k) hs (by omega) (by omega)).2
        have h3 : k % 5 < 4 := by
          by_cases h : k % 5 < 4
          · exact h
          · rename_i h9; exact absurd (by unfold bh; rw [if_neg h]) h9
        omega
      have hF1F : ∀ j, F1 j ≤ F j := by
        rcases hB with ⟨_, c, _⟩ | ⟨_, h, _⟩
        · intro j; rw [c]; exact Nat.le_refl _
        · exact h
      have hsF : sumN F1 3750 ≤ sumN F 3750 := sumN_mono (fun j _ => hF1F j)
      have hstep : ∀ b2 i2, Fr [22] i1 i2 → Vw i2 22 3750 (sF n sy fi T s k F) → grw b2 F (sF n sy fi T s k F) 3750 → lkI n sy fi T S F0 i i2 (sF n sy fi T s k F) ∧ lkB n sy fi T S (if b2 = 0 then b else 1) F1 (sF n sy fi T s k F) (fun s' it' => s' < s ∨ s' = s ∧ it' < k + 1) := by
        intro b2 i2 k1 k2 k3
        refine ⟨⟨hf.tr k1, k2, sF_lt hF hfb hTl, fun j => Nat.le_trans (hge j) ?_, leL_sF hle hs hk75 hp⟩, ?_⟩
        · rcases k3 with ⟨_, e⟩ | ⟨_, e, _⟩
          · rw [e]; exact Nat.le_refl _
          · exact e j
        · rcases k3 with ⟨e0, e⟩ | ⟨e0, e, e2⟩
          · rw [if_pos e0, e]
            rcases hB with ⟨a, c, e5⟩ | h
            · refine Or.inl ⟨a, c, fun s' it' h1 h2 h3 => ?_⟩
              by_cases h4 : s' = s ∧ it' = k
              · obtain ⟨rfl, rfl⟩ := h4
                exact sF_fix e
              · exact e5 s' it' h1 h2 (by omega)
            · exact Or.inr h
          · rw [if_neg (by omega)]
            exact Or.inr ⟨rfl, fun j => Nat.le_trans (hF1F j) (e j), by omega⟩
      refine ex_iload dX7_spreadLookaheads_38 rfl ?_
      refine ex_bipush (v := nI 75) dX7_spreadLookaheads_40 (by decide) ?_
      refine ex_icmp_geN (tgt := 76) dX7_spreadLookaheads_42 (by decide) (by omega) (by omega) (fun h42 => by omega) (fun h42 => ?_)
      refine ex_aload_n (i := 0) dX7_spreadLookaheads_45 rfl rfl ?_
      refine ex_getR (v := .ref (21)) dX7_spreadLookaheads_46 fl_States_32 rfl rfl (l56 (by decide)) rfl ?_
      refine ex_iload_n (i := 3) dX7_spreadLookaheads_49 rfl rfl ?_
      refine ex_iload dX7_spreadLookaheads_50 rfl ?_
      refine ex_cV (ν := m_Grid_get) (a := 21) (ci := 2) (as := [.int (nI (s)), .int (nI (k))]) dX7_spreadLookaheads_52 ln_States_49 mf_Grid_get rfl (l56 (by decide)) rfl rfl np_Grid_get rfl rfl ⟨(Nat.le_of_ble_eq_true rfl), (Nat.le_of_ble_eq_true rfl), (Nat.le_of_ble_eq_true rfl), (Nat.le_of_ble_eq_true rfl)⟩ (by decide) ?_
      refine sp_Grid_get (r := 21) (c := 22) rfl rfl rfl (l56 (by decide)) (l56 (by decide)) (sc_21_0 sc1) (sc_21_1 sc1) rfl (by omega) (by omega) ?_
      refine ⟨_, rfl, ?_⟩
      refine ex_asN (a := F (s * 75 + k)) (hV _ (by omega)) ?_
      refine ex_if_eqN (tgt := 70) dX7_spreadLookaheads_55 (by decide) (by omega) (fun h55 => by exact absurd h55 hp) (fun h55 => ?_)
      refine ex_aload_n (i := 0) dX7_spreadLookaheads_58 rfl rfl ?_
      refine ex_iload_n (i := 3) dX7_spreadLookaheads_59 rfl rfl ?_
      refine ex_iload dX7_spreadLookaheads_60 rfl ?_
      refine ex_cV (ν := m_States_spreadFrom) (a := 16) (ci := 7) (as := [.int (nI (s)), .int (nI (k))]) dX7_spreadLookaheads_62 ln_States_112 mf_States_spreadFrom rfl (l56 (by decide)) rfl rfl np_States_spreadFrom rfl rfl ⟨(Nat.le_of_ble_eq_true rfl), (Nat.le_of_ble_eq_true rfl), (Nat.le_of_ble_eq_true rfl), (Nat.le_of_ble_eq_true rfl)⟩ (by decide) ?_
      refine sp_States_spreadFrom (F := F) (fi := fi) (T := T) (S := S) sc1 gs1 hs hS hk75 hV hF hfi1 hfb hT1 (fun b2 i2 k1 k2 k3 => ?_)
      have hb2 := k3.b
      obtain ⟨g1, g2⟩ := hstep b2 i2 k1 k2 k3
      refine ⟨_, rfl, ?_⟩
      refine ex_if_eqN (tgt := 70) dX7_spreadLookaheads_65 (by decide) (by omega) (fun h65 => ?_) (fun h65 => ?_)
      · refine ex_iincN (L' := [some (.ref (16)), some (.int (nI (b))), some (.int (nI (rd))), some (.int (nI (s))), some (.int (nI (k + 1)))]) dX7_spreadLookaheads_70 rfl rfl (by decide) rfl ?_
        refine ex_goto (tgt := 38) dX7_spreadLookaheads_73 (by decide) ?_
        first
          | (rw [if_pos (by assumption)] at g2; exact ih (k + 1) b i2 _ (by omega) g1 g2)
          | (rw [if_neg (by assumption)] at g2; exact ih (k + 1) 1 i2 _ (by omega) g1 g2)
      · refine ex_iconst (v := nI 1) dX7_spreadLookaheads_68 (by decide) ?_
        refine ex_istore_n (L' := [some (.ref (16)), some (.int (nI (1))), some (.int (nI (rd))), some (.int (nI (s))), some (.int (nI (k)))]) dX7_spreadLookaheads_69 (i := 1) rfl (by decide) rfl ?_
        refine ex_iincN (L' := [some (.ref (16)), some (.int (nI (1))), some (.int (nI (rd))), some (.int (nI (s))), some (.int (nI (k + 1)))]) dX7_spreadLookaheads_70 rfl rfl (by decide) rfl ?_
        refine ex_goto (tgt := 38) dX7_spreadLookaheads_73 (by decide) ?_
        first
          | (rw [if_pos (by assumption)] at g2; exact ih (k + 1) b i2 _ (by omega) g1 g2)
          | (rw [if_neg (by assumption)] at g2; exact ih (k + 1) 1 i2 _ (by omega) g1 g2)
theorem lp_States_spread_s {rd : Nat} {F0 F1 : Nat → Nat} (sc : SC i) (gs : GS i n sy) (hS : S ≤ 50) (h6 : i 16 6 = nI S) (hfi : Vw i 9 14 fi) (hfb : ∀ x, fi x < 128) (hT : ∀ s x, s < S → 1 ≤ x → x < 14 → i 24 (s * 14 + x) = nI (T s x) ∧ T s x < S)
    (hk : ∀ b i1 F, lkI n sy fi T S F0 i i1 F → lkB n sy fi T S b F1 F (fun _ _ => True) → Wx m_States_spreadLookaheads 82 [some (.ref 16), some (.int (nI b)), some (.int (nI rd)), none, none] [] (56 + ζ, g, i1, q, RT t) (0, 0) Q) :
    ∀ d s b i1 F, s + d = S → lkI n sy fi T S F0 i i1 F → lkB n sy fi T S b F1 F (fun s' _ => s' < s) →
      Wx m_States_spreadLookaheads 27 [some (.ref 16), some (.int (nI b)), some (.int (nI rd)), some (.int (nI s)), none] [] (56 + ζ, g, i1, q, RT t) (0, 0) Q := by
  intro d
  induction d with
  | zero =>
    intro s b i1 F hs hI hB
    have h61 : i1 16 6 = nI S := by rw [hI.1 16 (by decide)]; exact h6
    refine ex_iload_n (i := 3) dX7_spreadLookaheads_27 rfl rfl ?_
    refine ex_aload_n (i := 0) dX7_spreadLookaheads_28 rfl rfl ?_
    refine ex_getI dX7_spreadLookaheads_29 fl_States_42 rfl rfl (l56 (by decide)) ?_
    refine ex_asN (a := S) h61 ?_
    refine ex_icmp_geN (tgt := 82) dX7_spreadLookaheads_32 (by decide) (by omega) (by omega) (fun h32 => ?_) (fun h32 => by omega)
    exact ex_less (L' := [some (.ref 16), some (.int (nI b)), some (.int (nI rd)), none, none]) (by simp [xSub]) (hk b i1 F hI (hB.weak (fun s' it' h1 h2 h => by omega)))
  | succ d ih =>
    intro s b i1 F hs hI hB
    have h61 : i1 16 6 = nI S := by rw [hI.1 16 (by decide)]; exact h6
    refine ex_iload_n (i := 3) dX7_spreadLookaheads_27 rfl rfl ?_
    refine ex_aload_n (i := 0) dX7_spreadLookaheads_28 rfl rfl ?_
    refine ex_getI dX7_spreadLookaheads_29 fl_States_42 rfl rfl (l56 (by decide)) ?_
    refine ex_asN (a := S) h61 ?_
    refine ex_icmp_geN (tgt := 82) dX7_spreadLookaheads_32 (by decide) (by omega) (by omega) (fun h32 => by omega) (fun h32 => ?_)
    refine ex_iconst (v := nI 0) dX7_spreadLookaheads_35 (by decide) ?_
    refine ex_istore (L' := [some (.ref (16)), some (.int (nI (b))), some (.int (nI (rd))), some (.int (nI (s))), some (.int (nI (0)))]) dX7_spreadLookaheads_36 (by decide) rfl ?_
    refine lp_States_spread_it (F0 := F0) (F1 := F1) (i := i) sc gs (by omega) hS hfi hfb hT (fun b2 i2 F2 g1 g2 => ?_) 75 0 b i1 F (by omega) hI (hB.weak (fun s' it' h1 h2 h => by omega))
    exact ih (s + 1) b2 i2 F2 (by omega) g1 g2
theorem sp_States_spreadLookaheads {F0 : Nat → Nat} (sc : SC i) (gs : GS i n sy) (hS : S ≤ 50) (hS0 : 0 < S) (h6 : i 16 6 = nI S) (hfi : Vw i 9 14 fi) (hfb : ∀ x, fi x < 128) (hT : ∀ s x, s < S → 1 ≤ x → x < 14 → i 24 (s * 14 + x) = nI (T s x) ∧ T s x < S) (hV : Vw i 22 3750 F0) (hF : ∀ j, j < 3750 → F0 j < 256)
    (hQ : ∀ i1 F, Fr [22] i i1 → Vw i1 22 3750 F → (∀ j, j < 3750 → F j < 256) → (∀ j, upN F0 70 (F0 70 ||| 1) j ≤ F j) → leL n sy fi T S (upN F0 70 (F0 70 ||| 1)) F → CLa n sy fi T S F → Q (.ok none) (56 + ζ, g, i1, q, RT t)) :
    Wx m_States_spreadLookaheads 0 [some (.ref 16), none, none, none, none] [] (56 + ζ, g, i, q, RT t) (0, 0) Q := by
  have loop : ∀ d rd b i1 F, rd + d = 1000000 → b < 2 → lkI n sy fi T S (upN F0 70 (F0 70 ||| 1)) i i1 F → (b = 0 → CLa n sy fi T S F) → (b = 1 → rd ≤ sumN F 3750) →
      Wx m_States_spreadLookaheads 13 [some (.ref 16), some (.int (nI b)), some (.int (nI rd)), none, none] [] (56 + ζ, g, i1, q, RT t) (0, 0) Q := by
    intro d
    induction d with
    | zero =>
      intro rd b i1 F hrd hb2 hI h0 h1
      have hb0 : b = 0 := by
        by_cases e : b = 1
        · have h2 := h1 e
          have h3 := sumN_le (N := 3750) (F := F) (B := 255) (fun j hj => by have := hI.2.2.1 j hj; omega)
          omega
        · omega
      refine ex_iload_n (i := 2) dX7_spreadLookaheads_13 rfl rfl ?_
      refine ex_ldc (v := 1000000) dX7_spreadLookaheads_14 ld_States_98 ?_
      refine ex_asN (a := 1000000) (by decide) ?_
      refine ex_icmp_geN (tgt := 88) dX7_spreadLookaheads_16 (by decide) (by omega) (by omega) (fun h16 => ?_) (fun h16 => by omega)
      refine ex_ret dX7_spreadLookaheads_88 rfl ?_
      exact hQ i1 F hI.1 hI.2.1 hI.2.2.1 hI.2.2.2.1 hI.2.2.2.2 (h0 hb0)
    | succ d ih =>
      intro rd b i1 F hrd hb2 hI h0 h1
      by_cases hb0 : b = 0
      ·
        refine ex_iload_n (i := 2) dX7_spreadLookaheads_13 rfl rfl ?_
        refine ex_ldc (v := 1000000) dX7_spreadLookaheads_14 ld_States_98 ?_
        refine ex_asN (a := 1000000) (by decide) ?_
        refine ex_icmp_geN (tgt := 88) dX7_spreadLookaheads_16 (by decide) (by omega) (by omega) (fun h16 => by omega) (fun h16 => ?_)
        refine ex_iload_n (i := 1) dX7_spreadLookaheads_19 rfl rfl ?_
        refine ex_if_eqN (tgt := 88) dX7_spreadLookaheads_20 (by decide) (by omega) (fun h20 => ?_) (fun h20 => by exact absurd hb0 h20)
        refine ex_ret dX7_spreadLookaheads_88 rfl ?_
        exact hQ i1 F hI.1 hI.2.1 hI.2.2.1 hI.2.2.2.1 hI.2.2.2.2 (h0 hb0)
      ·
        refine ex_iload_n (i := 2) dX7_spreadLookaheads_13 rfl rfl ?_
        refine ex_ldc (v := 1000000) dX7_spreadLookaheads_14 ld_States_98 ?_
        refine ex_asN (a := 1000000) (by decide) ?_
        refine ex_icmp_geN (tgt := 88) dX7_spreadLookaheads_16 (by decide) (by omega) (by omega) (fun h16 => by omega) (fun h16 => ?_)
        refine ex_iload_n (i := 1) dX7_spreadLookaheads_19 rfl rfl ?_
        refine ex_if_eqN (tgt := 88) dX7_spreadLookaheads_20 (by decide) (by omega) (fun h20 => by exact absurd h20 hb0) (fun h20 => ?_)
        refine ex_iconst (v := nI 0) dX7_spreadLookaheads_23 (by decide) ?_
        refine ex_istore_n (L' := [some (.ref (16)), some (.int (nI (0))), some (.int (nI (rd))), none, none]) dX7_spreadLookaheads_24 (i := 1) rfl (by decide) rfl ?_
        refine ex_iconst (v := nI 0) dX7_spreadLookaheads_25 (by decide) ?_
        refine ex_istore_n (L' := [some (.ref (16)), some (.int (nI (0))), some (.int (nI (rd))), some (.int (nI (0))), none]) dX7_spreadLookaheads_26 (i := 3) rfl (by decide) rfl ?_
        refine ex_less (L' := [some (.ref 16), some (.int (nI 0)), some (.int (nI rd)), some (.int (nI 0)), none]) (by simp [xSub]) ?_
        refine lp_States_spread_s (F0 := upN F0 70 (F0 70 ||| 1)) (F1 := F) (i := i) sc gs hS h6 hfi hfb hT (fun b2 i2 F2 g1 g2 => ?_) S 0 0 i1 F (by omega) hI (Or.inl ⟨rfl, rfl, fun s' it' h1 h2 h => by omega⟩)
        have hb3 := g2.b
        refine ex_iincN (L' := [some (.ref 16), some (.int (nI b2)), some (.int (nI (rd + 1))), none, none]) dX7_spreadLookaheads_82 rfl rfl (by decide) rfl ?_
        refine ex_goto (tgt := 13) dX7_spreadLookaheads_85 (by decide) ?_
        refine ih (rd + 1) b2 i2 F2 (by omega) hb3 g1 ?_ ?_
        · intro e
          rcases g2 with ⟨_, _, h⟩ | ⟨e2, _⟩
          · exact fun s it h1 h2 => h s it h1 h2 trivial
          · omega
        · intro e
          rcases g2 with ⟨e2, _⟩ | ⟨_, _, h⟩
          · omega
          · have := h1 (by omega); omega
  have hV1 : Vw (xU i 22 (0 * 75 + 70) (nI (F0 70 ||| 1))) 22 3750 (upN F0 70 (F0 70 ||| 1)) := hV.U
  have hI0 : lkI n sy fi T S (upN F0 70 (F0 70 ||| 1)) i (xU i 22 (0 * 75 + 70) (nI (F0 70 ||| 1))) (upN F0 70 (F0 70 ||| 1)) := by
    refine ⟨Fr.rf.U (by decide), hV1, fun j hj => ?_, fun j => Nat.le_refl _, fun G hG _ j => hG j⟩
    unfold upN; split
    · exact Nat.or_lt_two_pow (n := 8) (hF 70 (by decide)) (by decide)
    · exact hF j hj
  refine ex_aload_n (i := 0) dX7_spreadLookaheads_0 rfl rfl ?_
  refine ex_iconst (v := nI 0) dX7_spreadLookaheads_1 (by decide) ?_
  refine ex_bipush (v := nI 70) dX7_spreadLookaheads_2 (by decide) ?_
  refine ex_iconst (v := nI 1) dX7_spreadLookaheads_4 (by decide) ?_
  refine ex_cV (ν := m_States_give) (a := 16) (ci := 7) (as := [.int (nI (0)), .int (nI (70)), .int (nI (1))]) dX7_spreadLookaheads_5 ln_States_109 mf_States_give rfl (l56 (by decide)) rfl rfl np_States_give rfl rfl ⟨(Nat.le_of_ble_eq_true rfl), (Nat.le_of_ble_eq_true rfl), (Nat.le_of_ble_eq_true rfl), (Nat.le_of_ble_eq_true rfl)⟩ (by decide) ?_
  refine sp_States_give (s := 0) (it := 70) sc (by decide) (by decide) (hV 70 (by decide)) (hF 70 (by decide)) (by decide) ?_
  refine ⟨_, rfl, ?_⟩
  refine ex_pop dX7_spreadLookaheads_8 rfl ?_
  refine ex_iconst (v := nI 1) dX7_spreadLookaheads_9 (by decide) ?_
  refine ex_istore_n (L' := [some (.ref (16)), some (.int (nI (1))), none, none, none]) dX7_spreadLookaheads_10 (i := 1) rfl (by decide) rfl ?_
  refine ex_iconst (v := nI 0) dX7_spreadLookaheads_11 (by decide) ?_
  refine ex_istore_n (L' := [some (.ref (16)), some (.int (nI (1))), some (.int (nI (0))), none, none]) dX7_spreadLookaheads_12 (i := 2) rfl (by decide) rfl ?_
  exact ex_less (L' := [some (.ref 16), some (.int (nI 1)), some (.int (nI 0)), none, none]) (by simp [xSub]) (loop 1000000 0 1 _ _ (by omega) (by decide) hI0 (fun h => absurd h (by decide)) (fun _ => Nat.zero_le _))
end S26
