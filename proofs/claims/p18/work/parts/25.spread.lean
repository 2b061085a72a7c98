/-! ===== States.spreadFrom, spreadLookaheads: the least lookaheads ===== -/
/-- what an item gives to the rules of the symbol behind its dot -/
def giv (fi : Nat → Nat) (sy : Nat → Nat → Nat) (it own : Nat) : Nat := if ffN fi (sy (it / 5)) (it % 5 + 2) (5 - (it % 5 + 2)) 1 % 2 = 1 then ffN fi (sy (it / 5)) (it % 5 + 2) (5 - (it % 5 + 2)) 1 / 2 * 2 ||| own else ffN fi (sy (it / 5)) (it % 5 + 2) (5 - (it % 5 + 2)) 1
theorem giv_lt {fi : Nat → Nat} {sy : Nat → Nat → Nat} {it own : Nat} (hf : ∀ x, fi x < 128) (ho : own < 128) : giv fi sy it own < 128 := by
  have h := ff_lt (f := fi) (s := sy (it / 5)) hf (m := 5 - (it % 5 + 2)) (k := it % 5 + 2) (a := 1) (by decide)
  unfold giv
  split
  · exact or_lt (by omega) ho
  · exact h
/-- the array behind spreading from item it of state s -/
def sF1 (T : Nat → Nat → Nat) (sy : Nat → Nat → Nat) (s it : Nat) (F : Nat → Nat) : Nat → Nat := upN F (T s (bh sy it) * 75 + (it + 1)) (F (T s (bh sy it) * 75 + (it + 1)) ||| F (s * 75 + it) &&& 127)
def sF (n : Nat) (sy : Nat → Nat → Nat) (fi : Nat → Nat) (T : Nat → Nat → Nat) (s it : Nat) (F : Nat → Nat) : Nat → Nat :=
  if bh sy it = 0 then F else if bh sy it < 8 then sF1 T sy s it F else gv n sy (bh sy it) s (giv fi sy it (F (s * 75 + it) &&& 127)) (sF1 T sy s it F)
theorem and127 {a : Nat} : a &&& 127 < 128 := Nat.lt_of_le_of_lt Nat.and_le_right (by decide)
theorem sF1_ge {T : Nat → Nat → Nat} {sy : Nat → Nat → Nat} {s it : Nat} {F : Nat → Nat} (j : Nat) : F j ≤ sF1 T sy s it F j := by
  unfold sF1 upN
  split
  · rename_i h; subst h; exact or_ge
  · exact Nat.le_refl _
theorem sF1_lt {T : Nat → Nat → Nat} {sy : Nat → Nat → Nat} {s it : Nat} {F : Nat → Nat} (hF : ∀ j, j < 3750 → F j < 256) (hT : T s (bh sy it) * 75 + (it + 1) < 3750) (j : Nat) (hj : j < 3750) : sF1 T sy s it F j < 256 := by
  unfold sF1 upN
  split
  · exact Nat.or_lt_two_pow (n := 8) (hF _ hT) (Nat.lt_trans and127 (by decide))
  · exact hF j hj
theorem grw_tr {b1 b2 N : Nat} {F G H : Nat → Nat} (h1 : grw b1 F G N) (h2 : grw b2 G H N) : grw (if b2 = 0 then b1 else 1) F H N := by
  rcases h2 with ⟨e, e2⟩ | ⟨e, h3, h4⟩
  · rw [if_pos e, e2]; exact h1
  · rw [if_neg (by omega)]
    rcases h1 with ⟨_, f2⟩ | ⟨_, f3, f4⟩
    · rw [← f2]; exact Or.inr ⟨rfl, h3, h4⟩
    · exact Or.inr ⟨rfl, fun j => Nat.le_trans (f3 j) (h3 j), by omega⟩
section S25
variable {ζ g : Nat} {i : Nat → Nat → Int32} {q : Nat → Nat → Int64} {t : Bool} {Q : xRes → xMem → Prop} {n : Nat} {sy : Nat → Nat → Nat} {fi : Nat → Nat} {T : Nat → Nat → Nat} {S : Nat}
theorem sp_States_spreadFrom {s it : Nat} {F : Nat → Nat} (sc : SC i) (gs : GS i n sy) (hs : s < S) (hS : S ≤ 50) (hi : it < 75) (hV : Vw i 22 3750 F) (hF : ∀ j, j < 3750 → F j < 256) (hfi : Vw i 9 14 fi) (hfb : ∀ x, fi x < 128) (hT : ∀ s x, s < S → 1 ≤ x → x < 14 → i 24 (s * 14 + x) = nI (T s x) ∧ T s x < S)
    (hQ : ∀ b i', Fr [22] i i' → Vw i' 22 3750 (sF n sy fi T s it F) → grw b F (sF n sy fi T s it F) 3750 → Q (.ok (some (.int (nI b)))) (56 + ζ, g, i', q, RT t)) : Wx m_States_spreadFrom 0 [some (.ref 16), some (.int (nI s)), some (.int (nI it)), none, none, none, none, none] [] (56 + ζ, g, i, q, RT t) (0, 0) Q := by
  have hb := bh_le gs.2.2 hi
  have hbc := bh_cases gs.2.2 hi
  by_cases h0 : bh sy it = 0
  · have hq := hQ 0 i Fr.rf (by unfold sF; rw [if_pos h0]; exact hV) (Or.inl ⟨rfl, by unfold sF; rw [if_pos h0]⟩)
    refine ex_aload_n (i := 0) dX7_spreadFrom_0 rfl rfl ?_
    refine ex_iload_n (i := 2) dX7_spreadFrom_1 rfl rfl ?_
    refine ex_cV (ν := m_States_symbolBehindDot) (a := 16) (ci := 7) (as := [.int (nI (it))]) dX7_spreadFrom_2 ln_States_89 mf_States_symbolBehindDot rfl (l56 (by decide)) rfl rfl np_States_symbolBehindDot rfl rfl ⟨(Nat.le_of_ble_eq_true rfl), (Nat.le_of_ble_eq_true rfl), (Nat.le_of_ble_eq_true rfl), (Nat.le_of_ble_eq_true rfl)⟩ (by decide) ?_
    refine sp_States_symbolBehindDot sc gs hi ?_
    refine ⟨_, rfl, ?_⟩
    refine ex_istore_n (L' := [some (.ref (16)), some (.int (nI (s))), some (.int (nI (it))), some (.int (nI (bh sy it))), none, none, none, none]) dX7_spreadFrom_5 (i := 3) rfl (by decide) rfl ?_
    refine ex_iload_n (i := 3) dX7_spreadFrom_6 rfl rfl ?_
    refine ex_if_neN (tgt := 12) dX7_spreadFrom_7 (by decide) (by omega) (fun h7 => by exact absurd h0 h7) (fun h7 => ?_)
    refine ex_iconst (v := nI 0) dX7_spreadFrom_10 (by decide) ?_
    refine ex_iret dX7_spreadFrom_11 rfl (by decide) ?_
    exact hq
  · obtain ⟨hT1, hT2⟩ := hT s (bh sy it) hs (by omega) (by omega)
    have hd4 : it % 5 < 4 := by
      by_cases h : it % 5 < 4
      · exact h
      · exact absurd (by unfold bh; rw [if_neg h]) h0
    have hown : F (s * 75 + it) &&& 127 < 128 := and127
    have hx : T s (bh sy it) * 75 + (it + 1) < 3750 := by omega
    have hV1 : Vw (xU i 22 (T s (bh sy it) * 75 + (it + 1)) (nI (F (T s (bh sy it) * 75 + (it + 1)) ||| F (s * 75 + it) &&& 127))) 22 3750 (sF1 T sy s it F) := hV.U
    have hf1 : Fr [22] i (xU i 22 (T s (bh sy it) * 75 + (it + 1)) (nI (F (T s (bh sy it) * 75 + (it + 1)) ||| F (s * 75 + it) &&& 127))) := Fr.rf.U (by decide)
    have sc1 := SC_Fr (by decide) hf1 sc
    have gs1 := gs.fr hf1 (by decide) (by decide)
    have hg1 : grw (if F (T s (bh sy it) * 75 + (it + 1)) ||| F (s * 75 + it) &&& 127 = F (T s (bh sy it) * 75 + (it + 1)) then 0 else 1) F (sF1 T sy s it F) 3750 := by
      by_cases e : F (T s (bh sy it) * 75 + (it + 1)) ||| F (s * 75 + it) &&& 127 = F (T s (bh sy it) * 75 + (it + 1))
      · rw [if_pos e]
        refine Or.inl ⟨rfl, ?_⟩
        unfold sF1; rw [e]; funext j; unfold upN; split
        · rename_i h; rw [h]
        · rfl
      · rw [if_neg e]
        refine Or.inr ⟨rfl, fun j => sF1_ge j, ?_⟩
        have h1 := sumN_up (F := F) (k := T s (bh sy it) * 75 + (it + 1)) (v := F (T s (bh sy it) * 75 + (it + 1)) ||| F (s * 75 + it) &&& 127) (N := 3750) hx
        have h2 := or_gt e
        have h3 : sumN (sF1 T sy s it F) 3750 = sumN (upN F (T s (bh sy it) * 75 + (it + 1)) (F (T s (bh sy it) * 75 + (it + 1)) ||| F (s * 75 + it) &&& 127)) 3750 := rfl
        omega
    by_cases hnt : bh sy it < 8
    · have e8 : ntB (bh sy it) = 0 := nt0 (by omega)
      have esF : sF n sy fi T s it F = sF1 T sy s it F := by unfold sF; rw [if_neg h0, if_pos hnt]
      rw [esF] at hQ
      have hgb := hg1.b
      have hbb := nI01 hgb
      have hq := hQ _ _ hf1 hV1 hg1
      refine ex_aload_n (i := 0) dX7_spreadFrom_0 rfl rfl ?_
      refine ex_iload_n (i := 2) dX7_spreadFrom_1 rfl rfl ?_
      refine ex_cV (ν := m_States_symbolBehindDot) (a := 16) (ci := 7) (as := [.int (nI (it))]) dX7_spreadFrom_2 ln_States_89 mf_States_symbolBehindDot rfl (l56 (by decide)) rfl rfl np_States_symbolBehindDot rfl rfl ⟨(Nat.le_of_ble_eq_true rfl), (Nat.le_of_ble_eq_true rfl), (Nat.le_of_ble_eq_true rfl), (Nat.le_of_ble_eq_true rfl)⟩ (by decide) ?_
      refine sp_States_symbolBehindDot sc gs hi ?_
      refine ⟨_, rfl, ?_⟩
      refine ex_istore_n (L' := [some (.ref (16)), some (.int (nI (s))), some (.int (nI (it))), some (.int (nI (bh sy it))), none, none, none, none]) dX7_spreadFrom_5 (i := 3) rfl (by decide) rfl ?_
      refine ex_iload_n (i := 3) dX7_spreadFrom_6 rfl rfl ?_
      refine ex_if_neN (tgt := 12) dX7_spreadFrom_7 (by decide) (by omega) (fun h7 => ?_) (fun h7 => by exact absurd h7 h0)
      refine ex_aload_n (i := 0) dX7_spreadFrom_12 rfl rfl ?_
      refine ex_getR (v := .ref (21)) dX7_spreadFrom_13 fl_States_32 rfl rfl (l56 (by decide)) rfl ?_
      refine ex_iload_n (i := 1) dX7_spreadFrom_16 rfl rfl ?_
      refine ex_iload_n (i := 2) dX7_spreadFrom_17 rfl rfl ?_
      refine ex_cV (ν := m_Grid_get) (a := 21) (ci := 2) (as := [.int (nI (s)), .int (nI (it))]) dX7_spreadFrom_18 ln_States_49 mf_Grid_get rfl (l56 (by decide)) rfl rfl np_Grid_get rfl rfl ⟨(Nat.le_of_ble_eq_true rfl), (Nat.le_of_ble_eq_true rfl), (Nat.le_of_ble_eq_true rfl), (Nat.le_of_ble_eq_true rfl)⟩ (by decide) ?_
      refine sp_Grid_get (r := 21) (c := 22) rfl rfl rfl (l56 (by decide)) (l56 (by decide)) (sc_21_0 sc) (sc_21_1 sc) rfl (by omega) (by omega) ?_
      refine ⟨_, rfl, ?_⟩
      refine ex_asN (a := F (s * 75 + it)) (hV _ (by omega)) ?_
      refine ex_bipush (v := nI 127) dX7_spreadFrom_21 (by decide) ?_
      refine ex_iandN dX7_spreadFrom_23 ?_
      refine ex_istore (L' := [some (.ref (16)), some (.int (nI (s))), some (.int (nI (it))), some (.int (nI (bh sy it))), some (.int (nI ((F (s * 75 + it)) &&& 127))), none, none, none]) dX7_spreadFrom_24 (by decide) rfl ?_
      refine ex_aload_n (i := 0) dX7_spreadFrom_26 rfl rfl ?_
      refine ex_aload_n (i := 0) dX7_spreadFrom_27 rfl rfl ?_
      refine ex_iload_n (i := 1) dX7_spreadFrom_28 rfl rfl ?_
      refine ex_iload_n (i := 3) dX7_spreadFrom_29 rfl rfl ?_
      refine ex_cV (ν := m_States_target) (a := 16) (ci := 7) (as := [.int (nI (s)), .int (nI (bh sy it))]) dX7_spreadFrom_30 ln_States_116 mf_States_target rfl (l56 (by decide)) rfl rfl np_States_target rfl rfl ⟨(Nat.le_of_ble_eq_true rfl), (Nat.le_of_ble_eq_true rfl), (Nat.le_of_ble_eq_true rfl), (Nat.le_of_ble_eq_true rfl)⟩ (by decide) ?_
      refine sp_States_target sc (by omega) (by omega) ?_
      refine ⟨_, rfl, ?_⟩
      refine ex_asN (a := T s (bh sy it)) hT1 ?_
      refine ex_iload_n (i := 2) dX7_spreadFrom_33 rfl rfl ?_
      refine ex_iconst (v := nI 1) dX7_spreadFrom_34 (by decide) ?_
      refine ex_iaddN dX7_spreadFrom_35 ?_
      refine ex_iload dX7_spreadFrom_36 rfl ?_
      refine ex_cV (ν := m_States_give) (a := 16) (ci := 7) (as := [.int (nI (T s (bh sy it))), .int (nI (it + 1)), .int (nI ((F (s * 75 + it)) &&& 127))]) dX7_spreadFrom_38 ln_States_109 mf_States_give rfl (l56 (by decide)) rfl rfl np_States_give rfl rfl ⟨(Nat.le_of_ble_eq_true rfl), (Nat.le_of_ble_eq_true rfl), (Nat.le_of_ble_eq_true rfl), (Nat.le_of_ble_eq_true rfl)⟩ (by decide) ?_
      refine sp_States_give sc (by omega) (by omega) (hV _ hx) (hF _ hx) (by omega) ?_
      refine ⟨_, rfl, ?_⟩
      refine ex_istore (L' := [some (.ref (16)), some (.int (nI (s))), some (.int (nI (it))), some (.int (nI (bh sy it))), some (.int (nI ((F (s * 75 + it)) &&& 127))), some (.int (nI (if F (T s (bh sy it) * 75 + (it + 1)) ||| F (s * 75 + it) &&& 127 = F (T s (bh sy it) * 75 + (it + 1)) then 0 else 1))), none, none]) dX7_spreadFrom_41 (by decide) rfl ?_
      refine ex_iload_n (i := 3) dX7_spreadFrom_43 rfl rfl ?_
      refine ex_cN (ν := m_Works_isNonterminal) (as := [.int (nI (bh sy it))]) dX7_spreadFrom_44 ln_States_119 mf_Works_isNonterminal np_Works_isNonterminal rfl rfl ⟨(Nat.le_of_ble_eq_true rfl), (Nat.le_of_ble_eq_true rfl), (Nat.le_of_ble_eq_true rfl), (Nat.le_of_ble_eq_true rfl)⟩ (by decide) ?_
      refine sp_Works_isNonterminal (by omega) ?_
      refine ⟨_, rfl, ?_⟩
      refine ex_if_eqN (tgt := 103) dX7_spreadFrom_47 (by decide) (ntB_b _) (fun h47 => ?_) (fun h47 => by exact absurd e8 h47)
      refine ex_iload dX7_spreadFrom_103 rfl ?_
      refine ex_iret dX7_spreadFrom_105 rfl (xb_n (by assumption)) ?_
      exact hq
    · have e8 : ntB (bh sy it) = 1 := nt1 (by omega) (by omega)
      have esF : sF n sy fi T s it F = gv n sy (bh sy it) s (giv fi sy it (F (s * 75 + it) &&& 127)) (sF1 T sy s it F) := by unfold sF; rw [if_neg h0, if_neg hnt]
      rw [esF] at hQ
      have hgl := giv_lt (fi := fi) (sy := sy) (it := it) hfb hown
      have hfl := ff_lt (f := fi) (s := sy (it / 5)) hfb (m := 5 - (it % 5 + 2)) (k := it % 5 + 2) (a := 1) (by decide)
      have hfi1 : ∀ s', 8 ≤ s' → s' ≤ 13 → xU i 22 (T s (bh sy it) * 75 + (it + 1)) (nI (F (T s (bh sy it) * 75 + (it + 1)) ||| F (s * 75 + it) &&& 127)) 9 s' = nI (fi s') := fun s' a b => by rw [xU_ne _ _ _ (by decide)]; exact hfi s' (by omega)
      by_cases hodd : ffN fi (sy (it / 5)) (it % 5 + 2) (5 - (it % 5 + 2)) 1 % 2 = 1
      · have egv : giv fi sy it (F (s * 75 + it) &&& 127) = ffN fi (sy (it / 5)) (it % 5 + 2) (5 - (it % 5 + 2)) 1 / 2 * 2 ||| F (s * 75 + it) &&& 127 := by unfold giv; rw [if_pos hodd]
        refine ex_aload_n (i := 0) dX7_spreadFrom_0 rfl rfl ?_
        refine ex_iload_n (i := 2) dX7_spreadFrom_1 rfl rfl ?_
        refine ex_cV (ν := m_States_symbolBehindDot) (a := 16) (ci := 7) (as := [.int (nI (it))]) dX7_spreadFrom_2 ln_States_89 mf_States_symbolBehindDot rfl (l56 (by decide)) rfl rfl np_States_symbolBehindDot rfl rfl ⟨(Nat.le_of_ble_eq_true rfl), (Nat.le_of_ble_eq_true rfl), (Nat.le_of_ble_eq_true rfl), (Nat.le_of_ble_eq_true rfl)⟩ (by decide) ?_
        refine sp_States_symbolBehindDot sc gs hi ?_
        refine ⟨_, rfl, ?_⟩
        refine ex_istore_n (L' := [some (.ref (16)), some (.int (nI (s))), some (.int (nI (it))), some (.int (nI (bh sy it))), none, none, none, none]) dX7_spreadFrom_5 (i := 3) rfl (by decide) rfl ?_
        refine ex_iload_n (i := 3) dX7_spreadFrom_6 rfl rfl ?_
        refine ex_if_neN (tgt := 12) dX7_spreadFrom_7 (by decide) (by omega) (fun hy7 => ?_) (fun hy7 => by exact absurd hy7 h0)
        refine ex_aload_n (i := 0) dX7_spreadFrom_12 rfl rfl ?_
        refine ex_getR (v := .ref (21)) dX7_spreadFrom_13 fl_States_32 rfl rfl (l56 (by decide)) rfl ?_
        refine ex_iload_n (i := 1) dX7_spreadFrom_16 rfl rfl ?_
        refine ex_iload_n (i := 2) dX7_spreadFrom_17 rfl rfl ?_
        refine ex_cV (ν := m_Grid_get) (a := 21) (ci := 2) (as := [.int (nI (s)), .int (nI (it))]) dX7_spreadFrom_18 ln_States_49 mf_Grid_get rfl (l56 (by decide)) rfl rfl np_Grid_get rfl rfl ⟨(Nat.le_of_ble_eq_true rfl), (Nat.le_of_ble_eq_true rfl), (Nat.le_of_ble_eq_true rfl), (Nat.le_of_ble_eq_true rfl)⟩ (by decide) ?_
        refine sp_Grid_get (r := 21) (c := 22) rfl rfl rfl (l56 (by decide)) (l56 (by decide)) (sc_21_0 sc) (sc_21_1 sc) rfl (by omega) (by omega) ?_
        refine ⟨_, rfl, ?_⟩
        refine ex_asN (a := F (s * 75 + it)) (hV _ (by omega)) ?_
        refine ex_bipush (v := nI 127) dX7_spreadFrom_21 (by decide) ?_
        refine ex_iandN dX7_spreadFrom_23 ?_
        refine ex_istore (L' := [some (.ref (16)), some (.int (nI (s))), some (.int (nI (it))), some (.int (nI (bh sy it))), some (.int (nI ((F (s * 75 + it)) &&& 127))), none, none, none]) dX7_spreadFrom_24 (by decide) rfl ?_
        refine ex_aload_n (i := 0) dX7_spreadFrom_26 rfl rfl ?_
        refine ex_aload_n (i := 0) dX7_spreadFrom_27 rfl rfl ?_
        refine ex_iload_n (i := 1) dX7_spreadFrom_28 rfl rfl ?_
        refine ex_iload_n (i := 3) dX7_spreadFrom_29 rfl rfl ?_
        refine ex_cV (ν := m_States_target) (a := 16) (ci := 7) (as := [.int (nI (s)), .int (nI (bh sy it))]) dX7_spreadFrom_30 ln_States_116 mf_States_target rfl (l56 (by decide)) rfl rfl np_States_target rfl rfl ⟨(Nat.le_of_ble_eq_true rfl), (Nat.le_of_ble_eq_true rfl), (Nat.le_of_ble_eq_true rfl), (Nat.le_of_ble_eq_true rfl)⟩ (by decide) ?_
        refine sp_States_target sc (by omega) (by omega) ?_
        refine ⟨_, rfl, ?_⟩
        refine ex_asN (a := T s (bh sy it)) hT1 ?_
        refine ex_iload_n (i := 2) dX7_spreadFrom_33 rfl rfl ?_
        refine ex_iconst (v := nI 1) dX7_spreadFrom_34 (by decide) ?_
        refine ex_iaddN dX7_spreadFrom_35 ?_
        refine ex_iload dX7_spreadFrom_36 rfl ?_
        refine ex_cV (ν := m_States_give) (a := 16) (ci := 7) (as := [.int (nI (T s (bh sy it))), .int (nI (it + 1)), .int (nI ((F (s * 75 + it)) &&& 127))]) dX7_spreadFrom_38 ln_States_109 mf_States_give rfl (l56 (by decide)) rfl rfl np_States_give rfl rfl ⟨(Nat.le_of_ble_eq_true rfl), (Nat.le_of_ble_eq_true rfl), (Nat.le_of_ble_eq_true rfl), (Nat.le_of_ble_eq_true rfl)⟩ (by decide) ?_
        refine sp_States_give sc (by omega) (by omega) (hV _ hx) (hF _ hx) (by omega) ?_
        refine ⟨_, rfl, ?_⟩
        refine ex_istore (L' := [some (.ref (16)), some (.int (nI (s))), some (.int (nI (it))), some (.int (nI (bh sy it))), some (.int (nI ((F (s * 75 + it)) &&& 127))), some (.int (nI (if F (T s (bh sy it) * 75 + (it + 1)) ||| F (s * 75 + it) &&& 127 = F (T s (bh sy it) * 75 + (it + 1)) then 0 else 1))), none, none]) dX7_spreadFrom_41 (by decide) rfl ?_
        refine ex_iload_n (i := 3) dX7_spreadFrom_43 rfl rfl ?_
        refine ex_cN (ν := m_Works_isNonterminal) (as := [.int (nI (bh sy it))]) dX7_spreadFrom_44 ln_States_119 mf_Works_isNonterminal np_Works_isNonterminal rfl rfl ⟨(Nat.le_of_ble_eq_true rfl), (Nat.le_of_ble_eq_true rfl), (Nat.le_of_ble_eq_true rfl), (Nat.le_of_ble_eq_true rfl)⟩ (by decide) ?_
        refine sp_Works_isNonterminal (by omega) ?_
        refine ⟨_, rfl, ?_⟩
        refine ex_if_eqN (tgt := 103) dX7_spreadFrom_47 (by decide) (ntB_b _) (fun hy47 => by omega) (fun hy47 => ?_)
        refine ex_aload_n (i := 0) dX7_spreadFrom_50 rfl rfl ?_
        refine ex_getR (v := .ref (1)) dX7_spreadFrom_51 fl_States_9 rfl rfl (l56 (by decide)) rfl ?_
        refine ex_iload_n (i := 2) dX7_spreadFrom_54 rfl rfl ?_
        refine ex_iconst (v := nI 5) dX7_spreadFrom_55 (by decide) ?_
        refine ex_idivN dX7_spreadFrom_56 (by omega) (by decide) (by decide) ?_
        refine ex_iload_n (i := 2) dX7_spreadFrom_57 rfl rfl ?_
        refine ex_iconst (v := nI 5) dX7_spreadFrom_58 (by decide) ?_
        refine ex_iremN dX7_spreadFrom_59 (by omega) (by decide) (by decide) ?_
        refine ex_iconst (v := nI 2) dX7_spreadFrom_60 (by decide) ?_
        refine ex_iaddN dX7_spreadFrom_61 ?_
        refine ex_cV (ν := m_Grammar_firstFrom) (a := 1) (ci := 1) (as := [.int (nI (it / 5)), .int (nI ((it % 5) + 2))]) dX7_spreadFrom_62 ln_States_123 mf_Grammar_firstFrom rfl (l56 (by decide)) rfl rfl np_Grammar_firstFrom rfl rfl ⟨(Nat.le_of_ble_eq_true rfl), (Nat.le_of_ble_eq_true rfl), (Nat.le_of_ble_eq_true rfl), (Nat.le_of_ble_eq_true rfl)⟩ (by decide) ?_
        refine sp_Grammar_firstFrom sc1 (by omega) ⟨by omega, by omega⟩ hfi1 hfb (fun k hk => gs1.2.1 _ k (by omega) hk) (fun k a b => gs1.2.2.2.1 _ k (by omega) a b) ?_
        refine ⟨_, rfl, ?_⟩
        refine ex_istore (L' := [some (.ref (16)), some (.int (nI (s))), some (.int (nI (it))), some (.int (nI (bh sy it))), some (.int (nI ((F (s * 75 + it)) &&& 127))), some (.int (nI (if F (T s (bh sy it) * 75 + (it + 1)) ||| F (s * 75 + it) &&& 127 = F (T s (bh sy it) * 75 + (it + 1)) then 0 else 1))), some (.int (nI (ffN fi (sy (it / 5)) (it % 5 + 2) (5 - (it % 5 + 2)) 1))), none]) dX7_spreadFrom_65 (by decide) rfl ?_
        refine ex_iload dX7_spreadFrom_67 rfl ?_
        refine ex_iconst (v := nI 1) dX7_spreadFrom_69 (by decide) ?_
        refine ex_iandN dX7_spreadFrom_70 ?_
        refine ex_if_eqN (tgt := 85) dX7_spreadFrom_71 (by decide) (by rw [Nat.and_one_is_mod]; omega) (fun hy71 => by exact absurd (by rw [Nat.and_one_is_mod] at hy71; exact hy71) (by omega)) (fun hy71 => ?_)
        refine ex_iload dX7_spreadFrom_74 rfl ?_
        refine ex_bipush (v := -2) dX7_spreadFrom_76 (by decide) ?_
        refine ex_iand dX7_spreadFrom_78 ?_
        refine ex_asN (a := ffN fi (sy (it / 5)) (it % 5 + 2) (5 - (it % 5 + 2)) 1 / 2 * 2) (nI_m2 hfl) ?_
        refine ex_iload dX7_spreadFrom_79 rfl ?_
        refine ex_iorN dX7_spreadFrom_81 ?_
        refine ex_goto (tgt := 87) dX7_spreadFrom_82 (by decide) ?_
        refine ex_istore (L' := [some (.ref (16)), some (.int (nI (s))), some (.int (nI (it))), some (.int (nI (bh sy it))), some (.int (nI ((F (s * 75 + it)) &&& 127))), some (.int (nI (if F (T s (bh sy it) * 75 + (it + 1)) ||| F (s * 75 + it) &&& 127 = F (T s (bh sy it) * 75 + (it + 1)) then 0 else 1))), some (.int (nI (ffN fi (sy (it / 5)) (it % 5 + 2) (5 - (it % 5 + 2)) 1))), some (.int (nI ((ffN fi (sy (it / 5)) (it % 5 + 2) (5 - (it % 5 + 2)) 1 / 2 * 2) ||| ((F (s * 75 + it)) &&& 127))))]) dX7_spreadFrom_87 (by decide) rfl ?_
        refine ex_aload_n (i := 0) dX7_spreadFrom_89 rfl rfl ?_
        refine ex_iload_n (i := 3) dX7_spreadFrom_90 rfl rfl ?_
        refine ex_iload_n (i := 1) dX7_spreadFrom_91 rfl rfl ?_
        refine ex_iload dX7_spreadFrom_92 rfl ?_
        refine ex_cV (ν := m_States_giveToRulesOf) (a := 16) (ci := 7) (as := [.int (nI (bh sy it)), .int (nI (s)), .int (nI ((ffN fi (sy (it / 5)) (it % 5 + 2) (5 - (it % 5 + 2)) 1 / 2 * 2) ||| ((F (s * 75 + it)) &&& 127)))]) dX7_spreadFrom_94 ln_States_99 mf_States_giveToRulesOf rfl (l56 (by decide)) rfl rfl np_States_giveToRulesOf rfl rfl ⟨(Nat.le_of_ble_eq_true rfl), (Nat.le_of_ble_eq_true rfl), (Nat.le_of_ble_eq_true rfl), (Nat.le_of_ble_eq_true rfl)⟩ (by decide) ?_
        refine sp_States_giveToRulesOf (F := sF1 T sy s it F) sc1 gs1 (by omega) (by omega) (by rw [← egv]; omega) hV1 (sF1_lt hF hx) (fun b2 i2 k1 k2 k3 => ?_)
        rw [← egv] at k2 k3
        have hk3 := k3.b
        have hbb := nI01 (grw_tr hg1 k3).b
        have hq := hQ _ _ (hf1.tr k1) k2 (grw_tr hg1 k3)
        refine ⟨_, rfl, ?_⟩
        refine ex_if_eqN (tgt := 103) dX7_spreadFrom_97 (by decide) (by omega) (fun hy97 => ?_) (fun hy97 => ?_)
        · refine ex_iload dX7_spreadFrom_103 rfl ?_
          refine ex_iret dX7_spreadFrom_105 rfl (by first | exact xb_n (nI01 hg1.b) | exact xb_n (nI01 (b := 1) (by decide))) ?_
          first | (rw [if_pos (by assumption)] at hq; exact hq) | (rw [if_neg (by assumption)] at hq; exact hq)
        · refine ex_iconst (v := nI 1) dX7_spreadFrom_100 (by decide) ?_
          refine ex_istore (L' := [some (.ref (16)), some (.int (nI (s))), some (.int (nI (it))), some (.int (nI (bh sy it))), some (.int (nI ((F (s * 75 + it)) &&& 127))), some (.int (nI (1))), some (.int (nI (ffN fi (sy (it / 5)) (it % 5 + 2) (5 - (it % 5 + 2)) 1))), some (.int (nI ((ffN fi (sy (it / 5)) (it % 5 + 2) (5 - (it % 5 + 2)) 1 / 2 * 2) ||| ((F (s * 75 + it)) &&& 127))))]) dX7_spreadFrom_101 (by decide) rfl ?_
          refine ex_iload dX7_spreadFrom_103 rfl ?_
          refine ex_iret dX7_spreadFrom_105 rfl (by decide) ?_
          first | (rw [if_pos (by assumption)] at hq; exact hq) | (rw [if_neg (by assumption)] at hq; exact hq)
      · have egv : giv fi sy it (F (s * 75 + it) &&& 127) = ffN fi (sy (it / 5)) (it % 5 + 2) (5 - (it % 5 + 2)) 1 := by unfold giv; rw [if_neg hodd]
        refine ex_aload_n (i := 0) dX7_spreadFrom_0 rfl rfl ?_
        refine ex_iload_n (i := 2) dX7_spreadFrom_1 rfl rfl ?_
        refine ex_cV (ν := m_States_symbolBehindDot) (a := 16) (ci := 7) (as := [.int (nI (it))]) dX7_spreadFrom_2 ln_States_89 mf_States_symbolBehindDot rfl (l56 (by decide)) rfl rfl np_States_symbolBehindDot rfl rfl ⟨(Nat.le_of_ble_eq_true rfl), (Nat.le_of_ble_eq_true rfl), (Nat.le_of_ble_eq_true rfl), (Nat.le_of_ble_eq_true rfl)⟩ (by decide) ?_
        refine sp_States_symbolBehindDot sc gs hi ?_
        refine ⟨_, rfl, ?_⟩
        refine ex_istore_n (L' := [some (.ref (16)), some (.int (nI (s))), some (.int (nI (it))), some (.int (nI (bh sy it))), none, none, none, none]) dX7_spreadFrom_5 (i := 3) rfl (by decide) rfl ?_
        refine ex_iload_n (i := 3) dX7_spreadFrom_6 rfl rfl ?_
        refine ex_if_neN (tgt := 12) dX7_spreadFrom_7 (by decide) (by omega) (fun hy7 => ?_) (fun hy7 => by exact absurd hy7 h0)
        refine ex_aload_n (i := 0) dX7_spreadFrom_12 rfl rfl ?_
        refine ex_getR (v := .ref (21)) dX7_spreadFrom_13 fl_States_32 rfl rfl (l56 (by decide)) rfl ?_
        refine ex_iload_n (i := 1) dX7_spreadFrom_16 rfl rfl ?_
        refine ex_iload_n (i := 2) dX7_spreadFrom_17 rfl rfl ?_
        refine ex_cV (ν := m_Grid_get) (a := 21) (ci := 2) (as := [.int (nI (s)), .int (nI (it))]) dX7_spreadFrom_18 ln_States_49 mf_Grid_get rfl (l56 (by decide)) rfl rfl np_Grid_get rfl rfl ⟨(Nat.le_of_ble_eq_true rfl), (Nat.le_of_ble_eq_true rfl), (Nat.le_of_ble_eq_true rfl), (Nat.le_of_ble_eq_true rfl)⟩ (by decide) ?_
        refine sp_Grid_get (r := 21) (c := 22) rfl rfl rfl (l56 (by decide)) (l56 (by decide)) (sc_21_0 sc) (sc_21_1 sc) rfl (by omega) (by omega) ?_
        refine ⟨_, rfl, ?_⟩
        refine ex_asN (a := F (s * 75 + it)) (hV _ (by omega)) ?_
        refine ex_bipush (v := nI 127) dX7_spreadFrom_21 (by decide) ?_
        refine ex_iandN dX7_spreadFrom_23 ?_
        refine ex_istore (L' := [some (.ref (16)), some (.int (nI (s))), some (.int (nI (it))), some (.int (nI (bh sy it))), some (.int (nI ((F (s * 75 + it)) &&& 127))), none, none, none]) dX7_spreadFrom_24 (by decide) rfl ?_
        refine ex_aload_n (i := 0) dX7_spreadFrom_26 rfl rfl ?_
        refine ex_aload_n (i := 0) dX7_spreadFrom_27 rfl rfl ?_
        refine ex_iload_n (i := 1) dX7_spreadFrom_28 rfl rfl ?_
        refine ex_iload_n (i := 3) dX7_spreadFrom_29 rfl rfl ?_
        refine ex_cV (ν := m_States_target) (a := 16) (ci := 7) (as := [.int (nI (s)), .int (nI (bh sy it))]) dX7_spreadFrom_30 ln_States_116 mf_States_target rfl (l56 (by decide)) rfl rfl np_States_target rfl rfl ⟨(Nat.le_of_ble_eq_true rfl), (Nat.le_of_ble_eq_true rfl), (Nat.le_of_ble_eq_true rfl), (Nat.le_of_ble_eq_true rfl)⟩ (by decide) ?_
        refine sp_States_target sc (by omega) (by omega) ?_
        refine ⟨_, rfl, ?_⟩
        refine ex_asN (a := T s (bh sy it)) hT1 ?_
        refine ex_iload_n (i := 2) dX7_spreadFrom_33 rfl rfl ?_
        refine ex_iconst (v := nI 1) dX7_spreadFrom_34 (by decide) ?_
        refine ex_iaddN dX7_spreadFrom_35 ?_
        refine ex_iload dX7_spreadFrom_36 rfl ?_
        refine ex_cV (ν := m_States_give) (a := 16) (ci := 7) (as := [.int (nI (T s (bh sy it))), .int (nI (it + 1)), .int (nI ((F (s * 75 + it)) &&& 127))]) dX7_spreadFrom_38 ln_States_109 mf_States_give rfl (l56 (by decide)) rfl rfl np_States_give rfl rfl ⟨(Nat.le_of_ble_eq_true rfl), (Nat.le_of_ble_eq_true rfl), (Nat.le_of_ble_eq_true rfl), (Nat.le_of_ble_eq_true rfl)⟩ (by decide) ?_
        refine sp_States_give sc (by omega) (by omega) (hV _ hx) (hF _ hx) (by omega) ?_
        refine ⟨_, rfl, ?_⟩
        refine ex_istore (L' := [some (.ref (16)), some (.int (nI (s))), some (.int (nI (it))), some (.int (nI (bh sy it))), some (.int (nI ((F (s * 75 + it)) &&& 127))), some (.int (nI (if F (T s (bh sy it) * 75 + (it + 1)) ||| F (s * 75 + it) &&& 127 = F (T s (bh sy it) * 75 + (it + 1)) then 0 else 1))), none, none]) dX7_spreadFrom_41 (by decide) rfl ?_
        refine ex_iload_n (i := 3) dX7_spreadFrom_43 rfl rfl ?_
        refine ex_cN (ν := m_Works_isNonterminal) (as := [.int (nI (bh sy it))]) dX7_spreadFrom_44 ln_States_119 mf_Works_isNonterminal np_Works_isNonterminal rfl rfl ⟨(Nat.le_of_ble_eq_true rfl), (Nat.le_of_ble_eq_true rfl), (Nat.le_of_ble_eq_true rfl), (Nat.le_of_ble_eq_true rfl)⟩ (by decide) ?_
        refine sp_Works_isNonterminal (by omega) ?_
        refine ⟨_, rfl, ?_⟩
        refine ex_if_eqN (tgt := 103) dX7_spreadFrom_47 (by decide) (ntB_b _) (fun hy47 => by omega) (fun hy47 => ?_)
        refine ex_aload_n (i := 0) dX7_spreadFrom_50 rfl rfl ?_
        refine ex_getR (v := .ref (1)) dX7_spreadFrom_51 fl_States_9 rfl rfl (l56 (by decide)) rfl ?_
        refine ex_iload_n (i := 2) dX7_spreadFrom_54 rfl rfl ?_
        refine ex_iconst (v := nI 5) dX7_spreadFrom_55 (by decide) ?_
        refine ex_idivN dX7_spreadFrom_56 (by omega) (by decide) (by decide) ?_
        refine ex_iload_n (i := 2) dX7_spreadFrom_57 rfl rfl ?_
        refine ex_iconst (v := nI 5) dX7_spreadFrom_58 (by decide) ?_
        refine ex_iremN dX7_spreadFrom_59 (by omega) (by decide) (by decide) ?_
        refine ex_iconst (v := nI 2) dX7_spreadFrom_60 (by decide) ?_
        refine ex_iaddN dX7_spreadFrom_61 ?_
        refine ex_cV (ν := m_Grammar_firstFrom) (a := 1) (ci := 1) (as := [.int (nI (it / 5)), .int (nI ((it % 5) + 2))]) dX7_spreadFrom_62 ln_States_123 mf_Grammar_firstFrom rfl (l56 (by decide)) rfl rfl np_Grammar_firstFrom rfl rfl ⟨(Nat.le_of_ble_eq_true rfl), (Nat.le_of_ble_eq_true rfl), (Nat.le_of_ble_eq_true rfl), (Nat.le_of_ble_eq_true rfl)⟩ (by decide) ?_
        refine sp_Grammar_firstFrom sc1 (by omega) ⟨by omega, by omega⟩ hfi1 hfb (fun k hk => gs1.2.1 _ k (by omega) hk) (fun k a b => gs1.2.2.2.1 _ k (by omega) a b) ?_
        refine ⟨_, rfl, ?_⟩
        refine ex_istore (L' := [some (.ref (16)), some (.int (nI (s))), some (.int (nI (it))), some (.int (nI (bh sy it))), some (.int (nI ((F (s * 75 + it)) &&& 127))), some (.int (nI (if F (T s (bh sy it) * 75 + (it + 1)) ||| F (s * 75 + it) &&& 127 = F (T s (bh sy it) * 75 + (it + 1)) then 0 else 1))), some (.int (nI (ffN fi (sy (it / 5)) (it % 5 + 2) (5 - (it % 5 + 2)) 1))), none]) dX7_spreadFrom_65 (by decide) rfl ?_
        refine ex_iload dX7_spreadFrom_67 rfl ?_
        refine ex_iconst (v := nI 1) dX7_spreadFrom_69 (by decide) ?_
        refine ex_iandN dX7_spreadFrom_70 ?_
        refine ex_if_eqN (tgt := 85) dX7_spreadFrom_71 (by decide) (by rw [Nat.and_one_is_mod]; omega) (fun hy71 => ?_) (fun hy71 => by exact absurd (by rw [Nat.and_one_is_mod]; omega) hy71)
        refine ex_iload dX7_spreadFrom_85 rfl ?_
        refine ex_istore (L' := [some (.ref (16)), some (.int (nI (s))), some (.int (nI (it))), some (.int (nI (bh sy it))), some (.int (nI ((F (s * 75 + it)) &&& 127))), some (.int (nI (if F (T s (bh sy it) * 75 + (it + 1)) ||| F (s * 75 + it) &&& 127 = F (T s (bh sy it) * 75 + (it + 1)) then 0 else 1))), some (.int (nI (ffN fi (sy (it / 5)) (it % 5 + 2) (5 - (it % 5 + 2)) 1))), some (.int (nI (ffN fi (sy (it / 5)) (it % 5 + 2) (5 - (it % 5 + 2)) 1)))]) dX7_spreadFrom_87 (by decide) rfl ?_
        refine ex_aload_n (i := 0) dX7_spreadFrom_89 rfl rfl ?_
        refine ex_iload_n (i := 3) dX7_spreadFrom_90 rfl rfl ?_
        refine ex_iload_n (i := 1) dX7_spreadFrom_91 rfl rfl ?_
        refine ex_iload dX7_spreadFrom_92 rfl ?_
        refine ex_cV (ν := m_States_giveToRulesOf) (a := 16) (ci := 7) (as := [.int (nI (bh sy it)), .int (nI (s)), .int (nI (ffN fi (sy (it / 5)) (it % 5 + 2) (5 - (it % 5 + 2)) 1))]) dX7_spreadFrom_94 ln_States_99 mf_States_giveToRulesOf rfl (l56 (by decide)) rfl rfl np_States_giveToRulesOf rfl rfl ⟨(Nat.le_of_ble_eq_true rfl), (Nat.le_of_ble_eq_true rfl), (Nat.le_of_ble_eq_true rfl), (Nat.le_of_ble_eq_true rfl)⟩ (by decide) ?_
        refine sp_States_giveToRulesOf (F := sF1 T sy s it F) sc1 gs1 (by omega) (by omega) (by rw [← egv]; omega) hV1 (sF1_lt hF hx) (fun b2 i2 k1 k2 k3 => ?_)
        rw [← egv] at k2 k3
        have hk3 := k3.b
        have hbb := nI01 (grw_tr hg1 k3).b
        have hq := hQ _ _ (hf1.tr k1) k2 (grw_tr hg1 k3)
        refine ⟨_, rfl, ?_⟩
        refine ex_if_eqN (tgt := 103) dX7_spreadFrom_97 (by decide) (by omega) (fun hy97 => ?_) (fun hy97 => ?_)
        · refine ex_iload dX7_spreadFrom_103 rfl ?_
          refine ex_iret dX7_spreadFrom_105 rfl (by first | exact xb_n (nI01 hg1.b) | exact xb_n (nI01 (b := 1) (by decide))) ?_
          first | (rw [if_pos (by assumption)] at hq; exact hq) | (rw [if_neg (by assumption)] at hq; exact hq)
        · refine ex_iconst (v := nI 1) dX7_spreadFrom_100 (by decide) ?_
          refine ex_istore (L' := [some (.ref (16)), some (.int (nI (s))), some (.int (nI (it))), some (.int (nI (bh sy it))), some (.int (nI ((F (s * 75 + it)) &&& 127))), some (.int (nI (1))), some (.int (nI (ffN fi (sy (it / 5)) (it % 5 + 2) (5 - (it % 5 + 2)) 1))), some (.int (nI (ffN fi (sy (it / 5)) (it % 5 + 2) (5 - (it % 5 + 2)) 1)))]) dX7_spreadFrom_101 (by decide) rfl ?_
          refine ex_iload dX7_spreadFrom_103 rfl ?_
          refine ex_iret dX7_spreadFrom_105 rfl (by decide) ?_
          first | (rw [if_pos (by assumption)] at hq; exact hq) | (rw [if_neg (by assumption)] at hq; exact hq)
end S25
