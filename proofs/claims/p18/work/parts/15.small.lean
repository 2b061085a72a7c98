/-! ===== the main phase: grids' sizes; small methods of the class ===== -/
def SC (i : Nat → Nat → Int32) : Prop := (i 2 0 = nI 15 ∧ i 2 1 = nI 5) ∧ (i 10 0 = nI 14 ∧ i 10 1 = nI 15) ∧ (i 12 0 = nI 14 ∧ i 12 1 = nI 15) ∧ (i 14 0 = nI 14 ∧ i 14 1 = nI 15) ∧ (i 21 0 = nI 50 ∧ i 21 1 = nI 75) ∧ (i 23 0 = nI 50 ∧ i 23 1 = nI 14) ∧ (i 25 0 = nI 50 ∧ i 25 1 = nI 7) ∧ (i 47 0 = nI 150 ∧ i 47 1 = nI 8) ∧ (i 52 0 = nI 150 ∧ i 52 1 = nI 8)
theorem sc_2_0 {i : Nat → Nat → Int32} (h : SC i) : i 2 0 = nI 15 := h.1.1
theorem sc_2_1 {i : Nat → Nat → Int32} (h : SC i) : i 2 1 = nI 5 := h.1.2
theorem sc_10_0 {i : Nat → Nat → Int32} (h : SC i) : i 10 0 = nI 14 := h.2.1.1
theorem sc_10_1 {i : Nat → Nat → Int32} (h : SC i) : i 10 1 = nI 15 := h.2.1.2
theorem sc_12_0 {i : Nat → Nat → Int32} (h : SC i) : i 12 0 = nI 14 := h.2.2.1.1
theorem sc_12_1 {i : Nat → Nat → Int32} (h : SC i) : i 12 1 = nI 15 := h.2.2.1.2
theorem sc_14_0 {i : Nat → Nat → Int32} (h : SC i) : i 14 0 = nI 14 := h.2.2.2.1.1
theorem sc_14_1 {i : Nat → Nat → Int32} (h : SC i) : i 14 1 = nI 15 := h.2.2.2.1.2
theorem sc_21_0 {i : Nat → Nat → Int32} (h : SC i) : i 21 0 = nI 50 := h.2.2.2.2.1.1
theorem sc_21_1 {i : Nat → Nat → Int32} (h : SC i) : i 21 1 = nI 75 := h.2.2.2.2.1.2
theorem sc_23_0 {i : Nat → Nat → Int32} (h : SC i) : i 23 0 = nI 50 := h.2.2.2.2.2.1.1
theorem sc_23_1 {i : Nat → Nat → Int32} (h : SC i) : i 23 1 = nI 14 := h.2.2.2.2.2.1.2
theorem sc_25_0 {i : Nat → Nat → Int32} (h : SC i) : i 25 0 = nI 50 := h.2.2.2.2.2.2.1.1
theorem sc_25_1 {i : Nat → Nat → Int32} (h : SC i) : i 25 1 = nI 7 := h.2.2.2.2.2.2.1.2
theorem sc_47_0 {i : Nat → Nat → Int32} (h : SC i) : i 47 0 = nI 150 := h.2.2.2.2.2.2.2.1.1
theorem sc_47_1 {i : Nat → Nat → Int32} (h : SC i) : i 47 1 = nI 8 := h.2.2.2.2.2.2.2.1.2
theorem sc_52_0 {i : Nat → Nat → Int32} (h : SC i) : i 52 0 = nI 150 := h.2.2.2.2.2.2.2.2.1
theorem sc_52_1 {i : Nat → Nat → Int32} (h : SC i) : i 52 1 = nI 8 := h.2.2.2.2.2.2.2.2.2
theorem SC_of {i i' : Nat → Nat → Int32} (h : SC i) (he : ∀ c ∈ [2, 10, 12, 14, 21, 23, 25, 47, 52], i' c = i c) : SC i' := by
  have e : ∀ c, c ∈ [2, 10, 12, 14, 21, 23, 25, 47, 52] → i' c = i c := he
  unfold SC at h ⊢
  rw [e 2 (by decide), e 10 (by decide), e 12 (by decide), e 14 (by decide), e 21 (by decide), e 23 (by decide), e 25 (by decide), e 47 (by decide), e 52 (by decide)]
  exact h
theorem SC_U {i : Nat → Nat → Int32} {c k : Nat} {x : Int32} (hc : c ∉ [2, 10, 12, 14, 21, 23, 25, 47, 52]) (h : SC i) : SC (xU i c k x) :=
  SC_of h (fun d hd => xU_ne _ _ _ (fun e => hc (e ▸ hd)))
theorem SC_S {i : Nat → Nat → Int32} {c : Nat} {f : Nat → Int32} (hc : c ∉ [2, 10, 12, 14, 21, 23, 25, 47, 52]) (h : SC i) : SC (xSet i c f) :=
  SC_of h (fun d hd => xSet_ne _ _ (fun e => hc (e ▸ hd)))
section S15
variable {ζ g : Nat} {i : Nat → Nat → Int32} {q : Nat → Nat → Int64} {t : Bool} {Q : xRes → xMem → Prop}
def tmB (s : Nat) : Nat := if 1 ≤ s ∧ s ≤ 6 then 1 else 0
def ntB (s : Nat) : Nat := if 8 ≤ s ∧ s ≤ 13 then 1 else 0
theorem tm1 {s : Nat} (h : 1 ≤ s) (h2 : s ≤ 6) : tmB s = 1 := by unfold tmB; rw [if_pos ⟨h, h2⟩]
theorem tm0 {s : Nat} (h : s < 1 ∨ 6 < s) : tmB s = 0 := by unfold tmB; rw [if_neg (by omega)]
theorem nt1 {s : Nat} (h : 8 ≤ s) (h2 : s ≤ 13) : ntB s = 1 := by unfold ntB; rw [if_pos ⟨h, h2⟩]
theorem nt0 {s : Nat} (h : s < 8 ∨ 13 < s) : ntB s = 0 := by unfold ntB; rw [if_neg (by omega)]
theorem sp_Works_isTerminal {s : Nat} (hs : s < 4096) (hQ : Q (.ok (some (.int (nI (tmB s))))) (56 + ζ, g, i, q, RT t)) : Wx m_Works_isTerminal 0 [some (.int (nI s))] [] (56 + ζ, g, i, q, RT t) (0, 0) Q := by
  refine ex_iload_n (i := 0) dX9_isTerminal_0 rfl rfl ?_
  refine ex_iconst (v := nI 1) dX9_isTerminal_1 (by decide) ?_
  refine ex_icmp_ltN (tgt := 15) dX9_isTerminal_2 (by decide) (by omega) (by omega) (fun h2 => ?_) (fun h2 => ?_)
  · refine ex_iconst (v := nI 0) dX9_isTerminal_15 (by decide) ?_
    refine ex_iret dX9_isTerminal_16 rfl (by decide) ?_
    first | (rw [tm1 (by omega) (by omega)] at hQ; exact hQ) | (rw [tm0 (by omega)] at hQ; exact hQ)
  · refine ex_iload_n (i := 0) dX9_isTerminal_5 rfl rfl ?_
    refine ex_bipush (v := nI 6) dX9_isTerminal_6 (by decide) ?_
    refine ex_icmp_gtN (tgt := 15) dX9_isTerminal_8 (by decide) (by omega) (by omega) (fun h8 => ?_) (fun h8 => ?_)
    · refine ex_iconst (v := nI 0) dX9_isTerminal_15 (by decide) ?_
      refine ex_iret dX9_isTerminal_16 rfl (by decide) ?_
      first | (rw [tm1 (by omega) (by omega)] at hQ; exact hQ) | (rw [tm0 (by omega)] at hQ; exact hQ)
    · refine ex_iconst (v := nI 1) dX9_isTerminal_11 (by decide) ?_
      refine ex_goto (tgt := 16) dX9_isTerminal_12 (by decide) ?_
      refine ex_iret dX9_isTerminal_16 rfl (by decide) ?_
      first | (rw [tm1 (by omega) (by omega)] at hQ; exact hQ) | (rw [tm0 (by omega)] at hQ; exact hQ)
theorem sp_Works_isNonterminal {s : Nat} (hs : s < 4096) (hQ : Q (.ok (some (.int (nI (ntB s))))) (56 + ζ, g, i, q, RT t)) : Wx m_Works_isNonterminal 0 [some (.int (nI s))] [] (56 + ζ, g, i, q, RT t) (0, 0) Q := by
  refine ex_iload_n (i := 0) dX9_isNonterminal_0 rfl rfl ?_
  refine ex_bipush (v := nI 8) dX9_isNonterminal_1 (by decide) ?_
  refine ex_icmp_ltN (tgt := 16) dX9_isNonterminal_3 (by decide) (by omega) (by omega) (fun h3 => ?_) (fun h3 => ?_)
  · refine ex_iconst (v := nI 0) dX9_isNonterminal_16 (by decide) ?_
    refine ex_iret dX9_isNonterminal_17 rfl (by decide) ?_
    first | (rw [nt1 (by omega) (by omega)] at hQ; exact hQ) | (rw [nt0 (by omega)] at hQ; exact hQ)
  · refine ex_iload_n (i := 0) dX9_isNonterminal_6 rfl rfl ?_
    refine ex_bipush (v := nI 13) dX9_isNonterminal_7 (by decide) ?_
    refine ex_icmp_gtN (tgt := 16) dX9_isNonterminal_9 (by decide) (by omega) (by omega) (fun h9 => ?_) (fun h9 => ?_)
    · refine ex_iconst (v := nI 0) dX9_isNonterminal_16 (by decide) ?_
      refine ex_iret dX9_isNonterminal_17 rfl (by decide) ?_
      first | (rw [nt1 (by omega) (by omega)] at hQ; exact hQ) | (rw [nt0 (by omega)] at hQ; exact hQ)
    · refine ex_iconst (v := nI 1) dX9_isNonterminal_12 (by decide) ?_
      refine ex_goto (tgt := 17) dX9_isNonterminal_13 (by decide) ?_
      refine ex_iret dX9_isNonterminal_17 rfl (by decide) ?_
      first | (rw [nt1 (by omega) (by omega)] at hQ; exact hQ) | (rw [nt0 (by omega)] at hQ; exact hQ)
theorem sp_Grammar_size  (hQ : Q (.ok (some (.int (i 1 7)))) (56 + ζ, g, i, q, RT t)) : Wx m_Grammar_size 0 [some (.ref 1)] [] (56 + ζ, g, i, q, RT t) (0, 0) Q := by
  refine ex_aload_n (i := 0) dX1_size_0 rfl rfl ?_
  refine ex_getI dX1_size_1 fl_Grammar_44 rfl rfl (l56 (by decide)) ?_
  refine ex_iret dX1_size_4 rfl rfl ?_
  exact hQ
theorem sp_Grammar_equations  (hQ : Q (.ok (some (.int (i 1 8)))) (56 + ζ, g, i, q, RT t)) : Wx m_Grammar_equations 0 [some (.ref 1)] [] (56 + ζ, g, i, q, RT t) (0, 0) Q := by
  refine ex_aload_n (i := 0) dX1_equations_0 rfl rfl ?_
  refine ex_getI dX1_equations_1 fl_Grammar_48 rfl rfl (l56 (by decide)) ?_
  refine ex_iret dX1_equations_4 rfl rfl ?_
  exact hQ
theorem sp_Grammar_leftOf {a : Nat} (sc : SC i) (ha : a < 15) (hQ : Q (.ok (some (.int (i 3 (a * 5 + 0))))) (56 + ζ, g, i, q, RT t)) : Wx m_Grammar_leftOf 0 [some (.ref 1), some (.int (nI a))] [] (56 + ζ, g, i, q, RT t) (0, 0) Q := by
  refine ex_aload_n (i := 0) dX1_leftOf_0 rfl rfl ?_
  refine ex_getR (v := .ref (2)) dX1_leftOf_1 fl_Grammar_14 rfl rfl (l56 (by decide)) rfl ?_
  refine ex_iload_n (i := 1) dX1_leftOf_4 rfl rfl ?_
  refine ex_iconst (v := nI 0) dX1_leftOf_5 (by decide) ?_
  refine ex_cV (ν := m_Grid_get) (a := 2) (ci := 2) (as := [.int (nI (a)), .int (nI (0))]) dX1_leftOf_6 ln_Grammar_62 mf_Grid_get rfl (l56 (by decide)) rfl rfl np_Grid_get rfl rfl ⟨(Nat.le_of_ble_eq_true rfl), (Nat.le_of_ble_eq_true rfl), (Nat.le_of_ble_eq_true rfl), (Nat.le_of_ble_eq_true rfl)⟩ (by decide) ?_
  refine sp_Grid_get (r := 2) (c := 3) rfl rfl rfl (l56 (by decide)) (l56 (by decide)) (sc_2_0 sc) (sc_2_1 sc) rfl (by omega) (by decide) ?_
  refine ⟨_, rfl, ?_⟩
  refine ex_iret dX1_leftOf_9 rfl rfl ?_
  exact hQ
theorem sp_Grammar_symbolAt {a k : Nat} (sc : SC i) (ha : a < 15) (hk : k < 5) (hQ : Q (.ok (some (.int (i 3 (a * 5 + k))))) (56 + ζ, g, i, q, RT t)) : Wx m_Grammar_symbolAt 0 [some (.ref 1), some (.int (nI a)), some (.int (nI k))] [] (56 + ζ, g, i, q, RT t) (0, 0) Q := by
  refine ex_aload_n (i := 0) dX1_symbolAt_0 rfl rfl ?_
  refine ex_getR (v := .ref (2)) dX1_symbolAt_1 fl_Grammar_14 rfl rfl (l56 (by decide)) rfl ?_
  refine ex_iload_n (i := 1) dX1_symbolAt_4 rfl rfl ?_
  refine ex_iload_n (i := 2) dX1_symbolAt_5 rfl rfl ?_
  refine ex_cV (ν := m_Grid_get) (a := 2) (ci := 2) (as := [.int (nI (a)), .int (nI (k))]) dX1_symbolAt_6 ln_Grammar_62 mf_Grid_get rfl (l56 (by decide)) rfl rfl np_Grid_get rfl rfl ⟨(Nat.le_of_ble_eq_true rfl), (Nat.le_of_ble_eq_true rfl), (Nat.le_of_ble_eq_true rfl), (Nat.le_of_ble_eq_true rfl)⟩ (by decide) ?_
  refine sp_Grid_get (r := 2) (c := 3) rfl rfl rfl (l56 (by decide)) (l56 (by decide)) (sc_2_0 sc) (sc_2_1 sc) rfl (by omega) (by omega) ?_
  refine ⟨_, rfl, ?_⟩
  refine ex_iret dX1_symbolAt_9 rfl rfl ?_
  exact hQ
theorem sp_Grammar_symbolAt_out {a k : Nat} (sc : SC i) (hk : 5 ≤ k ∧ k < 4096) (hQ : Q (.ok (some (.int (nI 0)))) (56 + ζ, g, i, q, RT t)) : Wx m_Grammar_symbolAt 0 [some (.ref 1), some (.int (nI a)), some (.int (nI k))] [] (56 + ζ, g, i, q, RT t) (0, 0) Q := by
  refine ex_aload_n (i := 0) dX1_symbolAt_0 rfl rfl ?_
  refine ex_getR (v := .ref (2)) dX1_symbolAt_1 fl_Grammar_14 rfl rfl (l56 (by decide)) rfl ?_
  refine ex_iload_n (i := 1) dX1_symbolAt_4 rfl rfl ?_
  refine ex_iload_n (i := 2) dX1_symbolAt_5 rfl rfl ?_
  refine ex_cV (ν := m_Grid_get) (a := 2) (ci := 2) (as := [.int (nI (a)), .int (nI (k))]) dX1_symbolAt_6 ln_Grammar_62 mf_Grid_get rfl (l56 (by decide)) rfl rfl np_Grid_get rfl rfl ⟨(Nat.le_of_ble_eq_true rfl), (Nat.le_of_ble_eq_true rfl), (Nat.le_of_ble_eq_true rfl), (Nat.le_of_ble_eq_true rfl)⟩ (by decide) ?_
  refine sp_Grid_get_out (r := 2) (c := 3) rfl rfl rfl (l56 (by decide)) (l56 (by decide)) (sc_2_0 sc) (sc_2_1 sc) rfl (Or.inr (Or.inr (Or.inr (nI_le hk.1 (by omega))))) ?_
  refine ⟨_, rfl, ?_⟩
  refine ex_iret dX1_symbolAt_9 rfl rfl ?_
  exact hQ
theorem sp_Grammar_operationAt {a k : Nat} (sc : SC i) (ha : a < 14) (hk : k < 15) (hQ : Q (.ok (some (.int (i 11 (a * 15 + k) - nI 1)))) (56 + ζ, g, i, q, RT t)) : Wx m_Grammar_operationAt 0 [some (.ref 1), some (.int (nI a)), some (.int (nI k))] [] (56 + ζ, g, i, q, RT t) (0, 0) Q := by
  refine ex_aload_n (i := 0) dX1_operationAt_0 rfl rfl ?_
  refine ex_getR (v := .ref (10)) dX1_operationAt_1 fl_Grammar_35 rfl rfl (l56 (by decide)) rfl ?_
  refine ex_iload_n (i := 1) dX1_operationAt_4 rfl rfl ?_
  refine ex_iload_n (i := 2) dX1_operationAt_5 rfl rfl ?_
  refine ex_cV (ν := m_Grid_get) (a := 10) (ci := 2) (as := [.int (nI (a)), .int (nI (k))]) dX1_operationAt_6 ln_Grammar_62 mf_Grid_get rfl (l56 (by decide)) rfl rfl np_Grid_get rfl rfl ⟨(Nat.le_of_ble_eq_true rfl), (Nat.le_of_ble_eq_true rfl), (Nat.le_of_ble_eq_true rfl), (Nat.le_of_ble_eq_true rfl)⟩ (by decide) ?_
  refine sp_Grid_get (r := 10) (c := 11) rfl rfl rfl (l56 (by decide)) (l56 (by decide)) (sc_10_0 sc) (sc_10_1 sc) rfl (by omega) (by omega) ?_
  refine ⟨_, rfl, ?_⟩
  refine ex_iconst (v := nI 1) dX1_operationAt_9 (by decide) ?_
  refine ex_isub dX1_operationAt_10 ?_
  refine ex_iret dX1_operationAt_11 rfl rfl ?_
  exact hQ
theorem sp_Grammar_xAt {a k : Nat} (sc : SC i) (ha : a < 14) (hk : k < 15) (hQ : Q (.ok (some (.int (i 13 (a * 15 + k))))) (56 + ζ, g, i, q, RT t)) : Wx m_Grammar_xAt 0 [some (.ref 1), some (.int (nI a)), some (.int (nI k))] [] (56 + ζ, g, i, q, RT t) (0, 0) Q := by
  refine ex_aload_n (i := 0) dX1_xAt_0 rfl rfl ?_
  refine ex_getR (v := .ref (12)) dX1_xAt_1 fl_Grammar_38 rfl rfl (l56 (by decide)) rfl ?_
  refine ex_iload_n (i := 1) dX1_xAt_4 rfl rfl ?_
  refine ex_iload_n (i := 2) dX1_xAt_5 rfl rfl ?_
  refine ex_cV (ν := m_Grid_get) (a := 12) (ci := 2) (as := [.int (nI (a)), .int (nI (k))]) dX1_xAt_6 ln_Grammar_62 mf_Grid_get rfl (l56 (by decide)) rfl rfl np_Grid_get rfl rfl ⟨(Nat.le_of_ble_eq_true rfl), (Nat.le_of_ble_eq_true rfl), (Nat.le_of_ble_eq_true rfl), (Nat.le_of_ble_eq_true rfl)⟩ (by decide) ?_
  refine sp_Grid_get (r := 12) (c := 13) rfl rfl rfl (l56 (by decide)) (l56 (by decide)) (sc_12_0 sc) (sc_12_1 sc) rfl (by omega) (by omega) ?_
  refine ⟨_, rfl, ?_⟩
  refine ex_iret dX1_xAt_9 rfl rfl ?_
  exact hQ
theorem sp_Grammar_yAt {a k : Nat} (sc : SC i) (ha : a < 14) (hk : k < 15) (hQ : Q (.ok (some (.int (i 15 (a * 15 + k))))) (56 + ζ, g, i, q, RT t)) : Wx m_Grammar_yAt 0 [some (.ref 1), some (.int (nI a)), some (.int (nI k))] [] (56 + ζ, g, i, q, RT t) (0, 0) Q := by
  refine ex_aload_n (i := 0) dX1_yAt_0 rfl rfl ?_
  refine ex_getR (v := .ref (14)) dX1_yAt_1 fl_Grammar_41 rfl rfl (l56 (by decide)) rfl ?_
  refine ex_iload_n (i := 1) dX1_yAt_4 rfl rfl ?_
  refine ex_iload_n (i := 2) dX1_yAt_5 rfl rfl ?_
  refine ex_cV (ν := m_Grid_get) (a := 14) (ci := 2) (as := [.int (nI (a)), .int (nI (k))]) dX1_yAt_6 ln_Grammar_62 mf_Grid_get rfl (l56 (by decide)) rfl rfl np_Grid_get rfl rfl ⟨(Nat.le_of_ble_eq_true rfl), (Nat.le_of_ble_eq_true rfl), (Nat.le_of_ble_eq_true rfl), (Nat.le_of_ble_eq_true rfl)⟩ (by decide) ?_
  refine sp_Grid_get (r := 14) (c := 15) rfl rfl rfl (l56 (by decide)) (l56 (by decide)) (sc_14_0 sc) (sc_14_1 sc) rfl (by omega) (by omega) ?_
  refine ⟨_, rfl, ?_⟩
  refine ex_iret dX1_yAt_9 rfl rfl ?_
  exact hQ
theorem sp_Grammar_levelOf {k : Nat} (hk : k < 7) (hQ : Q (.ok (some (.int (i 5 k)))) (56 + ζ, g, i, q, RT t)) : Wx m_Grammar_levelOf 0 [some (.ref 1), some (.int (nI k))] [] (56 + ζ, g, i, q, RT t) (0, 0) Q := by
  refine ex_aload_n (i := 0) dX1_levelOf_0 rfl rfl ?_
  refine ex_getR (v := .ref (4)) dX1_levelOf_1 fl_Grammar_25 rfl rfl (l56 (by decide)) rfl ?_
  refine ex_iload_n (i := 1) dX1_levelOf_4 rfl rfl ?_
  refine ex_cV (ν := m_Row_get) (a := 4) (ci := 6) (as := [.int (nI (k))]) dX1_levelOf_5 ln_Grammar_66 mf_Row_get rfl (l56 (by decide)) rfl rfl np_Row_get rfl rfl ⟨(Nat.le_of_ble_eq_true rfl), (Nat.le_of_ble_eq_true rfl), (Nat.le_of_ble_eq_true rfl), (Nat.le_of_ble_eq_true rfl)⟩ (by decide) ?_
  refine sp_Row_get (r := 4) (c := 5) rfl rfl rfl (l56 (by decide)) (l56 (by decide)) (by omega) ?_
  refine ⟨_, rfl, ?_⟩
  refine ex_iret dX1_levelOf_8 rfl rfl ?_
  exact hQ
theorem sp_Grammar_kindOf {k : Nat} (hk : k < 7) (hQ : Q (.ok (some (.int (i 7 k)))) (56 + ζ, g, i, q, RT t)) : Wx m_Grammar_kindOf 0 [some (.ref 1), some (.int (nI k))] [] (56 + ζ, g, i, q, RT t) (0, 0) Q := by
  refine ex_aload_n (i := 0) dX1_kindOf_0 rfl rfl ?_
  refine ex_getR (v := .ref (6)) dX1_kindOf_1 fl_Grammar_29 rfl rfl (l56 (by decide)) rfl ?_
  refine ex_iload_n (i := 1) dX1_kindOf_4 rfl rfl ?_
  refine ex_cV (ν := m_Row_get) (a := 6) (ci := 6) (as := [.int (nI (k))]) dX1_kindOf_5 ln_Grammar_66 mf_Row_get rfl (l56 (by decide)) rfl rfl np_Row_get rfl rfl ⟨(Nat.le_of_ble_eq_true rfl), (Nat.le_of_ble_eq_true rfl), (Nat.le_of_ble_eq_true rfl), (Nat.le_of_ble_eq_true rfl)⟩ (by decide) ?_
  refine sp_Row_get (r := 6) (c := 7) rfl rfl rfl (l56 (by decide)) (l56 (by decide)) (by omega) ?_
  refine ⟨_, rfl, ?_⟩
  refine ex_iret dX1_kindOf_8 rfl rfl ?_
  exact hQ
theorem sp_States_size  (hQ : Q (.ok (some (.int (i 16 6)))) (56 + ζ, g, i, q, RT t)) : Wx m_States_size 0 [some (.ref 16)] [] (56 + ζ, g, i, q, RT t) (0, 0) Q := by
  refine ex_aload_n (i := 0) dX7_size_0 rfl rfl ?_
  refine ex_getI dX7_size_1 fl_States_42 rfl rfl (l56 (by decide)) ?_
  refine ex_iret dX7_size_4 rfl rfl ?_
  exact hQ
theorem sp_States_conflicts  (hQ : Q (.ok (some (.int (i 16 7)))) (56 + ζ, g, i, q, RT t)) : Wx m_States_conflicts 0 [some (.ref 16)] [] (56 + ζ, g, i, q, RT t) (0, 0) Q := by
  refine ex_aload_n (i := 0) dX7_conflicts_0 rfl rfl ?_
  refine ex_getI dX7_conflicts_1 fl_States_46 rfl rfl (l56 (by decide)) ?_
  refine ex_iret dX7_conflicts_4 rfl rfl ?_
  exact hQ
theorem sp_States_target {a k : Nat} (sc : SC i) (ha : a < 50) (hk : k < 14) (hQ : Q (.ok (some (.int (i 24 (a * 14 + k))))) (56 + ζ, g, i, q, RT t)) : Wx m_States_target 0 [some (.ref 16), some (.int (nI a)), some (.int (nI k))] [] (56 + ζ, g, i, q, RT t) (0, 0) Q := by
  refine ex_aload_n (i := 0) dX7_target_0 rfl rfl ?_
  refine ex_getR (v := .ref (23)) dX7_target_1 fl_States_36 rfl rfl (l56 (by decide)) rfl ?_
  refine ex_iload_n (i := 1) dX7_target_4 rfl rfl ?_
  refine ex_iload_n (i := 2) dX7_target_5 rfl rfl ?_
  refine ex_cV (ν := m_Grid_get) (a := 23) (ci := 2) (as := [.int (nI (a)), .int (nI (k))]) dX7_target_6 ln_States_49 mf_Grid_get rfl (l56 (by decide)) rfl rfl np_Grid_get rfl rfl ⟨(Nat.le_of_ble_eq_true rfl), (Nat.le_of_ble_eq_true rfl), (Nat.le_of_ble_eq_true rfl), (Nat.le_of_ble_eq_true rfl)⟩ (by decide) ?_
  refine sp_Grid_get (r := 23) (c := 24) rfl rfl rfl (l56 (by decide)) (l56 (by decide)) (sc_23_0 sc) (sc_23_1 sc) rfl (by omega) (by omega) ?_
  refine ⟨_, rfl, ?_⟩
  refine ex_iret dX7_target_9 rfl rfl ?_
  exact hQ
theorem sp_States_deedAt {a k : Nat} (sc : SC i) (ha : a < 50) (hk : k < 7) (hQ : Q (.ok (some (.int (i 26 (a * 7 + k))))) (56 + ζ, g, i, q, RT t)) : Wx m_States_deedAt 0 [some (.ref 16), some (.int (nI a)), some (.int (nI k))] [] (56 + ζ, g, i, q, RT t) (0, 0) Q := by
  refine ex_aload_n (i := 0) dX7_deedAt_0 rfl rfl ?_
  refine ex_getR (v := .ref (25)) dX7_deedAt_1 fl_States_39 rfl rfl (l56 (by decide)) rfl ?_
  refine ex_iload_n (i := 1) dX7_deedAt_4 rfl rfl ?_
  refine ex_iload_n (i := 2) dX7_deedAt_5 rfl rfl ?_
  refine ex_cV (ν := m_Grid_get) (a := 25) (ci := 2) (as := [.int (nI (a)), .int (nI (k))]) dX7_deedAt_6 ln_States_49 mf_Grid_get rfl (l56 (by decide)) rfl rfl np_Grid_get rfl rfl ⟨(Nat.le_of_ble_eq_true rfl), (Nat.le_of_ble_eq_true rfl), (Nat.le_of_ble_eq_true rfl), (Nat.le_of_ble_eq_true rfl)⟩ (by decide) ?_
  refine sp_Grid_get (r := 25) (c := 26) rfl rfl rfl (l56 (by decide)) (l56 (by decide)) (sc_25_0 sc) (sc_25_1 sc) rfl (by omega) (by omega) ?_
  refine ⟨_, rfl, ?_⟩
  refine ex_iret dX7_deedAt_9 rfl rfl ?_
  exact hQ
theorem sp_Rings_areFound (hb : i 27 3 = 0 ∨ i 27 3 = 1) (hQ : Q (.ok (some (.int (i 27 3)))) (56 + ζ, g, i, q, RT t)) : Wx m_Rings_areFound 0 [some (.ref 27)] [] (56 + ζ, g, i, q, RT t) (0, 0) Q := by
  refine ex_aload_n (i := 0) dX5_areFound_0 rfl rfl ?_
  refine ex_getI dX5_areFound_1 fl_Rings_27 rfl rfl (l56 (by decide)) ?_
  refine ex_iret dX5_areFound_4 rfl (xb_n hb) ?_
  exact hQ
theorem sp_Parser_size  (hQ : Q (.ok (some (.int (i 32 6)))) (56 + ζ, g, i, q, RT t)) : Wx m_Parser_size 0 [some (.ref 32)] [] (56 + ζ, g, i, q, RT t) (0, 0) Q := by
  refine ex_aload_n (i := 0) dX4_size_0 rfl rfl ?_
  refine ex_getI dX4_size_1 fl_Parser_37 rfl rfl (l56 (by decide)) ?_
  refine ex_iret dX4_size_4 rfl rfl ?_
  exact hQ
end S15
