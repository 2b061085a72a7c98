/-! ===== symbols as the caller gives them; Grammar.isDefinable, addEquation ===== -/
def tmX (x : Int32) : Nat := if 1 ≤ x.toInt ∧ x.toInt ≤ 6 then 1 else 0
def ntX (x : Int32) : Nat := if 8 ≤ x.toInt ∧ x.toInt ≤ 13 then 1 else 0
theorem ltX {x : Int32} {k : Nat} (hk : k < 2 ^ 31) : x < nI k ↔ x.toInt < (k : Int) := by rw [Int32.lt_iff_toInt_lt, nI_toInt hk]
theorem gtX {x : Int32} {k : Nat} (hk : k < 2 ^ 31) : nI k < x ↔ (k : Int) < x.toInt := by rw [Int32.lt_iff_toInt_lt, nI_toInt hk]
theorem tmX_b (x : Int32) : tmX x < 2 ^ 31 := by unfold tmX; split <;> decide
theorem ntX_b (x : Int32) : ntX x < 2 ^ 31 := by unfold ntX; split <;> decide
section S43
variable {ζ g : Nat} {i : Nat → Nat → Int32} {q : Nat → Nat → Int64} {t : Bool} {Q : xRes → xMem → Prop} {n : Nat} {sy : Nat → Nat → Nat}
theorem sp_Works_isTerminal_I {x : Int32} (hQ : Q (.ok (some (.int (nI (tmX x))))) (56 + ζ, g, i, q, RT t)) : Wx m_Works_isTerminal 0 [some (.int x)] [] (56 + ζ, g, i, q, RT t) (0, 0) Q := by
  unfold tmX at hQ
  refine ex_iload_n (i := 0) dX9_isTerminal_0 rfl rfl ?_
  refine ex_iconst (v := nI 1) dX9_isTerminal_1 (by decide) ?_
  refine ex_icmp_lt (tgt := 15) dX9_isTerminal_2 (by decide) (fun hx2 => ?_) (fun hx2 => ?_)
  · refine ex_iconst (v := nI 0) dX9_isTerminal_15 (by decide) ?_
    refine ex_iret dX9_isTerminal_16 rfl (by decide) ?_
    simp only [ltX (show 1 < 2 ^ 31 by decide), gtX (show 6 < 2 ^ 31 by decide)] at *
    first | (rw [if_pos (by omega)] at hQ; exact hQ) | (rw [if_neg (by omega)] at hQ; exact hQ)
  · refine ex_iload_n (i := 0) dX9_isTerminal_5 rfl rfl ?_
    refine ex_bipush (v := nI 6) dX9_isTerminal_6 (by decide) ?_
    refine ex_icmp_gt (tgt := 15) dX9_isTerminal_8 (by decide) (fun hx8 => ?_) (fun hx8 => ?_)
    · refine ex_iconst (v := nI 0) dX9_isTerminal_15 (by decide) ?_
      refine ex_iret dX9_isTerminal_16 rfl (by decide) ?_
      simp only [ltX (show 1 < 2 ^ 31 by decide), gtX (show 6 < 2 ^ 31 by decide)] at *
      first | (rw [if_pos (by omega)] at hQ; exact hQ) | (rw [if_neg (by omega)] at hQ; exact hQ)
    · refine ex_iconst (v := nI 1) dX9_isTerminal_11 (by decide) ?_
      refine ex_goto (tgt := 16) dX9_isTerminal_12 (by decide) ?_
      refine ex_iret dX9_isTerminal_16 rfl (by decide) ?_
      simp only [ltX (show 1 < 2 ^ 31 by decide), gtX (show 6 < 2 ^ 31 by decide)] at *
      first | (rw [if_pos (by omega)] at hQ; exact hQ) | (rw [if_neg (by omega)] at hQ; exact hQ)
theorem sp_Works_isNonterminal_I {x : Int32} (hQ : Q (.ok (some (.int (nI (ntX x))))) (56 + ζ, g, i, q, RT t)) : Wx m_Works_isNonterminal 0 [some (.int x)] [] (56 + ζ, g, i, q, RT t) (0, 0) Q := by
  unfold ntX at hQ
  refine ex_iload_n (i := 0) dX9_isNonterminal_0 rfl rfl ?_
  refine ex_bipush (v := nI 8) dX9_isNonterminal_1 (by decide) ?_
  refine ex_icmp_lt (tgt := 16) dX9_isNonterminal_3 (by decide) (fun hx3 => ?_) (fun hx3 => ?_)
  · refine ex_iconst (v := nI 0) dX9_isNonterminal_16 (by decide) ?_
    refine ex_iret dX9_isNonterminal_17 rfl (by decide) ?_
    simp only [ltX (show 8 < 2 ^ 31 by decide), gtX (show 13 < 2 ^ 31 by decide)] at *
    first | (rw [if_pos (by omega)] at hQ; exact hQ) | (rw [if_neg (by omega)] at hQ; exact hQ)
  · refine ex_iload_n (i := 0) dX9_isNonterminal_6 rfl rfl ?_
    refine ex_bipush (v := nI 13) dX9_isNonterminal_7 (by decide) ?_
    refine ex_icmp_gt (tgt := 16) dX9_isNonterminal_9 (by decide) (fun hx9 => ?_) (fun hx9 => ?_)
    · refine ex_iconst (v := nI 0) dX9_isNonterminal_16 (by decide) ?_
      refine ex_iret dX9_isNonterminal_17 rfl (by decide) ?_
      simp only [ltX (show 8 < 2 ^ 31 by decide), gtX (show 13 < 2 ^ 31 by decide)] at *
      first | (rw [if_pos (by omega)] at hQ; exact hQ) | (rw [if_neg (by omega)] at hQ; exact hQ)
    · refine ex_iconst (v := nI 1) dX9_isNonterminal_12 (by decide) ?_
      refine ex_goto (tgt := 17) dX9_isNonterminal_13 (by decide) ?_
      refine ex_iret dX9_isNonterminal_17 rfl (by decide) ?_
      simp only [ltX (show 8 < 2 ^ 31 by decide), gtX (show 13 < 2 ^ 31 by decide)] at *
      first | (rw [if_pos (by omega)] at hQ; exact hQ) | (rw [if_neg (by omega)] at hQ; exact hQ)
/-- a symbol -/
def smX (x : Int32) : Nat := if tmX x = 0 ∧ ntX x = 0 then 0 else 1
theorem sp_Works_isSymbol {x : Int32} (hQ : Q (.ok (some (.int (nI (smX x))))) (56 + ζ, g, i, q, RT t)) : Wx m_Works_isSymbol 0 [some (.int x)] [] (56 + ζ, g, i, q, RT t) (0, 0) Q := by
  unfold smX at hQ
  refine ex_iload_n (i := 0) dX9_isSymbol_0 rfl rfl ?_
  refine ex_cS (ν := m_Works_isTerminal) (as := [.int (x)]) dX9_isSymbol_1 ln_Works_99 mf_Works_isTerminal np_Works_isTerminal rfl rfl ⟨(Nat.le_of_ble_eq_true rfl), (Nat.le_of_ble_eq_true rfl), (Nat.le_of_ble_eq_true rfl), (Nat.le_of_ble_eq_true rfl)⟩ (by decide) ?_
  refine sp_Works_isTerminal_I ?_
  refine ⟨_, rfl, ?_⟩
  refine ex_if_neN (tgt := 14) dX9_isSymbol_4 (by decide) (tmX_b _) (fun hx4 => ?_) (fun hx4 => ?_)
  · refine ex_iconst (v := nI 1) dX9_isSymbol_14 (by decide) ?_
    refine ex_goto (tgt := 19) dX9_isSymbol_15 (by decide) ?_
    refine ex_iret dX9_isSymbol_19 rfl (by decide) ?_
    first | (rw [if_pos ⟨by omega, by omega⟩] at hQ; exact hQ) | (rw [if_neg (fun z => by omega)] at hQ; exact hQ)
  · refine ex_iload_n (i := 0) dX9_isSymbol_7 rfl rfl ?_
    refine ex_cS (ν := m_Works_isNonterminal) (as := [.int (x)]) dX9_isSymbol_8 ln_Works_66 mf_Works_isNonterminal np_Works_isNonterminal rfl rfl ⟨(Nat.le_of_ble_eq_true rfl), (Nat.le_of_ble_eq_true rfl), (Nat.le_of_ble_eq_true rfl), (Nat.le_of_ble_eq_true rfl)⟩ (by decide) ?_
    refine sp_Works_isNonterminal_I ?_
    refine ⟨_, rfl, ?_⟩
    refine ex_if_eqN (tgt := 18) dX9_isSymbol_11 (by decide) (ntX_b _) (fun hx11 => ?_) (fun hx11 => ?_)
    · refine ex_iconst (v := nI 0) dX9_isSymbol_18 (by decide) ?_
      refine ex_iret dX9_isSymbol_19 rfl (by decide) ?_
      first | (rw [if_pos ⟨by omega, by omega⟩] at hQ; exact hQ) | (rw [if_neg (fun z => by omega)] at hQ; exact hQ)
    · refine ex_iconst (v := nI 1) dX9_isSymbol_14 (by decide) ?_
      refine ex_goto (tgt := 19) dX9_isSymbol_15 (by decide) ?_
      refine ex_iret dX9_isSymbol_19 rfl (by decide) ?_
      first | (rw [if_pos ⟨by omega, by omega⟩] at hQ; exact hQ) | (rw [if_neg (fun z => by omega)] at hQ; exact hQ)
def mfX (b s : Int32) : Nat := if s = 0 then 1 else if b = 0 then 0 else smX s
theorem smX_b (x : Int32) : smX x < 2 ^ 31 := by unfold smX; split <;> decide
theorem smX_1 {x : Int32} (h : ¬ smX x = 0) : smX x = 1 := by unfold smX at h ⊢; split at h <;> simp_all
theorem sp_Works_mayFollow {b s : Int32} (hQ : Q (.ok (some (.int (nI (mfX b s))))) (56 + ζ, g, i, q, RT t)) : Wx m_Works_mayFollow 0 [some (.int b), some (.int s)] [] (56 + ζ, g, i, q, RT t) (0, 0) Q := by
  unfold mfX at hQ
  refine ex_iload_n (i := 1) dX9_mayFollow_0 rfl rfl ?_
  refine ex_if_eq (tgt := 15) dX9_mayFollow_1 (by decide) (fun hx1 => ?_) (fun hx1 => ?_)
  · refine ex_iconst (v := nI 1) dX9_mayFollow_15 (by decide) ?_
    refine ex_goto (tgt := 20) dX9_mayFollow_16 (by decide) ?_
    refine ex_iret dX9_mayFollow_20 rfl (by decide) ?_
    simp only [*, if_true, if_false] at hQ; first | exact hQ | (rw [smX_1 (by assumption)] at hQ; exact hQ)
  · refine ex_iload_n (i := 0) dX9_mayFollow_4 rfl rfl ?_
    refine ex_if_eq (tgt := 19) dX9_mayFollow_5 (by decide) (fun hx5 => ?_) (fun hx5 => ?_)
    · refine ex_iconst (v := nI 0) dX9_mayFollow_19 (by decide) ?_
      refine ex_iret dX9_mayFollow_20 rfl (by decide) ?_
      simp only [*, if_true, if_false] at hQ; first | exact hQ | (rw [smX_1 (by assumption)] at hQ; exact hQ)
    · refine ex_iload_n (i := 1) dX9_mayFollow_8 rfl rfl ?_
      refine ex_cS (ν := m_Works_isSymbol) (as := [.int (s)]) dX9_mayFollow_9 ln_Works_77 mf_Works_isSymbol np_Works_isSymbol rfl rfl ⟨(Nat.le_of_ble_eq_true rfl), (Nat.le_of_ble_eq_true rfl), (Nat.le_of_ble_eq_true rfl), (Nat.le_of_ble_eq_true rfl)⟩ (by decide) ?_
      refine sp_Works_isSymbol ?_
      refine ⟨_, rfl, ?_⟩
      refine ex_if_eqN (tgt := 19) dX9_mayFollow_12 (by decide) (smX_b _) (fun hx12 => ?_) (fun hx12 => ?_)
      · refine ex_iconst (v := nI 0) dX9_mayFollow_19 (by decide) ?_
        refine ex_iret dX9_mayFollow_20 rfl (by decide) ?_
        simp only [*, if_true, if_false] at hQ; first | exact hQ | (rw [smX_1 (by assumption)] at hQ; exact hQ)
      · refine ex_iconst (v := nI 1) dX9_mayFollow_15 (by decide) ?_
        refine ex_goto (tgt := 20) dX9_mayFollow_16 (by decide) ?_
        refine ex_iret dX9_mayFollow_20 rfl (by decide) ?_
        simp only [*, if_true, if_false] at hQ; first | exact hQ | (rw [smX_1 (by assumption)] at hQ; exact hQ)
theorem nI_any (x : Int32) : ∃ a, x = nI a := by
  by_cases h : x < 0
  · refine ⟨(x.toInt + 2 ^ 32).toNat, ?_⟩
    apply Int32.toInt_inj.mp
    have h2 : x.toInt < 0 := by have := Int32.lt_iff_toInt_lt.mp h; simpa using this
    have h3 := Int32.le_toInt x
    show _ = (Int32.ofNat _).toInt
    rw [Int32.toInt_ofNat']
    rw [Int.toNat_of_nonneg (by omega)]
    have h4 : (Int32.size : Int) = 4294967296 := rfl
    rw [Int.bmod_def, h4]
    split <;> omega
  · obtain ⟨j, _, rfl⟩ := nI_of h
    exact ⟨j, rfl⟩
end S43
