/-! ===== the two trees ===== -/
section S36
variable {ζ g : Nat} {i : Nat → Nat → Int32} {q : Nat → Nat → Int64} {t : Bool} {Q : xRes → xMem → Prop}
theorem sp_Tree_size_46 (hQ : Q (.ok (some (.int (i 46 2)))) (56 + ζ, g, i, q, RT t)) : Wx m_Tree_size 0 [some (.ref 46)] [] (56 + ζ, g, i, q, RT t) (0, 0) Q := by
  refine ex_aload_n (i := 0) dX8_size_0 rfl rfl ?_
  refine ex_getI dX8_size_1 fl_Tree_29 rfl rfl (l56 (by decide)) ?_
  refine ex_iret dX8_size_4 rfl rfl ?_
  exact hQ
theorem sp_Tree_begin_46 (hQ : Q (.ok none) (56 + ζ, g, xU i 46 2 (nI 0), q, RT t)) : Wx m_Tree_begin 0 [some (.ref 46)] [] (56 + ζ, g, i, q, RT t) (0, 0) Q := by
  refine ex_aload_n (i := 0) dX8_begin_0 rfl rfl ?_
  refine ex_iconst (v := nI 0) dX8_begin_1 (by decide) ?_
  refine ex_putI dX8_begin_2 fl_Tree_29 cf_8 rfl (Or.inl rfl) rfl rfl rfl (l56 (by decide)) ?_
  refine ex_ret dX8_begin_5 rfl ?_
  exact hQ
theorem sp_Tree_fact_46 {a k : Nat} (sc : SC i) (ha : a < 150) (hk : k < 8) (hQ : Q (.ok (some (.int (i 48 (a * 8 + k))))) (56 + ζ, g, i, q, RT t)) : Wx m_Tree_fact 0 [some (.ref 46), some (.int (nI a)), some (.int (nI k))] [] (56 + ζ, g, i, q, RT t) (0, 0) Q := by
  refine ex_aload_n (i := 0) dX8_fact_0 rfl rfl ?_
  refine ex_getR (v := .ref (47)) dX8_fact_1 fl_Tree_14 rfl rfl (l56 (by decide)) rfl ?_
  refine ex_iload_n (i := 1) dX8_fact_4 rfl rfl ?_
  refine ex_iload_n (i := 2) dX8_fact_5 rfl rfl ?_
  refine ex_cV (ν := m_Grid_get) (a := 47) (ci := 2) (as := [.int (nI (a)), .int (nI (k))]) dX8_fact_6 ln_Tree_33 mf_Grid_get rfl (l56 (by decide)) rfl rfl np_Grid_get rfl rfl ⟨(Nat.le_of_ble_eq_true rfl), (Nat.le_of_ble_eq_true rfl), (Nat.le_of_ble_eq_true rfl), (Nat.le_of_ble_eq_true rfl)⟩ (by decide) ?_
  refine sp_Grid_get (r := 47) (c := 48) rfl rfl rfl (l56 (by decide)) (l56 (by decide)) (sc_47_0 sc) (sc_47_1 sc) rfl (by omega) (by omega) ?_
  refine ⟨_, rfl, ?_⟩
  refine ex_iret dX8_fact_9 rfl rfl ?_
  exact hQ
theorem sp_Tree_child_46 {a k : Nat} (sc : SC i) (ha : a < 150) (hk : 1 ≤ k ∧ k ≤ 4) (hQ : Q (.ok (some (.int (i 48 (a * 8 + (4 + k - 1)))))) (56 + ζ, g, i, q, RT t)) : Wx m_Tree_child 0 [some (.ref 46), some (.int (nI a)), some (.int (nI k))] [] (56 + ζ, g, i, q, RT t) (0, 0) Q := by
  refine ex_aload_n (i := 0) dX8_child_0 rfl rfl ?_
  refine ex_getR (v := .ref (47)) dX8_child_1 fl_Tree_14 rfl rfl (l56 (by decide)) rfl ?_
  refine ex_iload_n (i := 1) dX8_child_4 rfl rfl ?_
  refine ex_iconst (v := nI 4) dX8_child_5 (by decide) ?_
  refine ex_iload_n (i := 2) dX8_child_6 rfl rfl ?_
  refine ex_iaddN dX8_child_7 ?_
  refine ex_iconst (v := nI 1) dX8_child_8 (by decide) ?_
  refine ex_isubN dX8_child_9 (by omega) ?_
  refine ex_cV (ν := m_Grid_get) (a := 47) (ci := 2) (as := [.int (nI (a)), .int (nI ((4 + k) - 1))]) dX8_child_10 ln_Tree_33 mf_Grid_get rfl (l56 (by decide)) rfl rfl np_Grid_get rfl rfl ⟨(Nat.le_of_ble_eq_true rfl), (Nat.le_of_ble_eq_true rfl), (Nat.le_of_ble_eq_true rfl), (Nat.le_of_ble_eq_true rfl)⟩ (by decide) ?_
  refine sp_Grid_get (r := 47) (c := 48) rfl rfl rfl (l56 (by decide)) (l56 (by decide)) (sc_47_0 sc) (sc_47_1 sc) rfl (by omega) (by omega) ?_
  refine ⟨_, rfl, ?_⟩
  refine ex_iret dX8_child_13 rfl rfl ?_
  exact hQ
theorem sp_Tree_value_46 {a : Nat} (ha : a < 450) (hQ : Q (.ok (some (.long (q 50 a)))) (56 + ζ, g, i, q, RT t)) : Wx m_Tree_value 0 [some (.ref 46), some (.int (nI a))] [] (56 + ζ, g, i, q, RT t) (0, 0) Q := by
  refine ex_aload_n (i := 0) dX8_value_0 rfl rfl ?_
  refine ex_getR (v := .ref (49)) dX8_value_1 fl_Tree_25 rfl rfl (l56 (by decide)) rfl ?_
  refine ex_iload_n (i := 1) dX8_value_4 rfl rfl ?_
  refine ex_cV (ν := m_LongRow_get) (a := 49) (ci := 3) (as := [.int (nI (a))]) dX8_value_5 ln_Tree_40 mf_LongRow_get rfl (l56 (by decide)) rfl rfl np_LongRow_get rfl rfl ⟨(Nat.le_of_ble_eq_true rfl), (Nat.le_of_ble_eq_true rfl), (Nat.le_of_ble_eq_true rfl), (Nat.le_of_ble_eq_true rfl)⟩ (by decide) ?_
  refine sp_LongRow_get (r := 49) (c := 50) rfl rfl rfl (l56 (by decide)) (l56 (by decide)) (by omega) ?_
  refine ⟨_, rfl, ?_⟩
  refine ex_lret dX8_value_8 rfl ?_
  exact hQ
theorem sp_Tree_setValue_46 {a : Nat} {x : Int64} (ha : a < 450) (hQ : Q (.ok none) (56 + ζ, g, i, xUL q 50 a x, RT t)) : Wx m_Tree_setValue 0 [some (.ref 46), some (.int (nI a)), some (.long x), none] [] (56 + ζ, g, i, q, RT t) (0, 0) Q := by
  refine ex_aload_n (i := 0) dX8_setValue_0 rfl rfl ?_
  refine ex_getR (v := .ref (49)) dX8_setValue_1 fl_Tree_25 rfl rfl (l56 (by decide)) rfl ?_
  refine ex_iload_n (i := 1) dX8_setValue_4 rfl rfl ?_
  refine ex_lload_n (i := 2) dX8_setValue_5 rfl rfl ?_
  refine ex_cV (ν := m_LongRow_set) (a := 49) (ci := 3) (as := [.int (nI (a)), .long (x)]) dX8_setValue_6 ln_Tree_43 mf_LongRow_set rfl (l56 (by decide)) rfl rfl np_LongRow_set rfl rfl ⟨(Nat.le_of_ble_eq_true rfl), (Nat.le_of_ble_eq_true rfl), (Nat.le_of_ble_eq_true rfl), (Nat.le_of_ble_eq_true rfl)⟩ (by decide) ?_
  refine sp_LongRow_set (r := 49) (c := 50) rfl rfl rfl (l56 (by decide)) (l56 (by decide)) (by omega) ?_
  refine ⟨_, rfl, ?_⟩
  refine ex_ret dX8_setValue_9 rfl ?_
  exact hQ
theorem sp_Tree_addRuleNode_46 {a : Nat} {x y : Int32} (sc : SC i) (ha : a < 150) (h2 : i 46 2 = nI a) (hQ : Q (.ok (some (.int (nI a)))) (56 + ζ, g, xU (xU (xU (xU (xU i 48 (a * 8 + 0) x) 48 (a * 8 + 1) y) 48 (a * 8 + 2) (-1)) 48 (a * 8 + 3) (nI 0)) 46 2 (nI (a + 1)), q, RT t)) : Wx m_Tree_addRuleNode 0 [some (.ref 46), some (.int x), some (.int y), none] [] (56 + ζ, g, i, q, RT t) (0, 0) Q := by
  refine ex_aload_n (i := 0) dX8_addRuleNode_0 rfl rfl ?_
  refine ex_getI dX8_addRuleNode_1 fl_Tree_29 rfl rfl (l56 (by decide)) ?_
  refine ex_asN (a := a) h2 ?_
  refine ex_istore_n (L' := [some (.ref (46)), some (.int (x)), some (.int (y)), some (.int (nI (a)))]) dX8_addRuleNode_4 (i := 3) rfl (by decide) rfl ?_
  refine ex_aload_n (i := 0) dX8_addRuleNode_5 rfl rfl ?_
  refine ex_getR (v := .ref (47)) dX8_addRuleNode_6 fl_Tree_14 rfl rfl (l56 (by decide)) rfl ?_
  refine ex_iload_n (i := 3) dX8_addRuleNode_9 rfl rfl ?_
  refine ex_iconst (v := nI 0) dX8_addRuleNode_10 (by decide) ?_
  refine ex_iload_n (i := 1) dX8_addRuleNode_11 rfl rfl ?_
  refine ex_cV (ν := m_Grid_set) (a := 47) (ci := 2) (as := [.int (nI (a)), .int (nI (0)), .int (x)]) dX8_addRuleNode_12 ln_Tree_53 mf_Grid_set rfl (l56 (by decide)) rfl rfl np_Grid_set rfl rfl ⟨(Nat.le_of_ble_eq_true rfl), (Nat.le_of_ble_eq_true rfl), (Nat.le_of_ble_eq_true rfl), (Nat.le_of_ble_eq_true rfl)⟩ (by decide) ?_
  refine sp_Grid_set (r := 47) (c := 48) rfl rfl rfl (l56 (by decide)) (l56 (by decide)) (sc_47_0 sc) (sc_47_1 sc) rfl (by omega) (by decide) ?_
  refine ⟨_, rfl, ?_⟩
  refine ex_aload_n (i := 0) dX8_addRuleNode_15 rfl rfl ?_
  refine ex_getR (v := .ref (47)) dX8_addRuleNode_16 fl_Tree_14 rfl rfl (l56 (by decide)) rfl ?_
  refine ex_iload_n (i := 3) dX8_addRuleNode_19 rfl rfl ?_
  refine ex_iconst (v := nI 1) dX8_addRuleNode_20 (by decide) ?_
  refine ex_iload_n (i := 2) dX8_addRuleNode_21 rfl rfl ?_
  refine ex_cV (ν := m_Grid_set) (a := 47) (ci := 2) (as := [.int (nI (a)), .int (nI (1)), .int (y)]) dX8_addRuleNode_22 ln_Tree_53 mf_Grid_set rfl (l56 (by decide)) rfl rfl np_Grid_set rfl rfl ⟨(Nat.le_of_ble_eq_true rfl), (Nat.le_of_ble_eq_true rfl), (Nat.le_of_ble_eq_true rfl), (Nat.le_of_ble_eq_true rfl)⟩ (by decide) ?_
  refine sp_Grid_set (r := 47) (c := 48) rfl rfl rfl (l56 (by decide)) (l56 (by decide)) (sc_47_0 (SC_U (by decide) sc)) (sc_47_1 (SC_U (by decide) sc)) rfl (by omega) (by decide) ?_
  refine ⟨_, rfl, ?_⟩
  refine ex_aload_n (i := 0) dX8_addRuleNode_25 rfl rfl ?_
  refine ex_getR (v := .ref (47)) dX8_addRuleNode_26 fl_Tree_14 rfl rfl (l56 (by decide)) rfl ?_
  refine ex_iload_n (i := 3) dX8_addRuleNode_29 rfl rfl ?_
  refine ex_iconst (v := nI 2) dX8_addRuleNode_30 (by decide) ?_
  refine ex_iconst (v := -1) dX8_addRuleNode_31 (by decide) ?_
  refine ex_cV (ν := m_Grid_set) (a := 47) (ci := 2) (as := [.int (nI (a)), .int (nI (2)), .int ((-1))]) dX8_addRuleNode_32 ln_Tree_53 mf_Grid_set rfl (l56 (by decide)) rfl rfl np_Grid_set rfl rfl ⟨(Nat.le_of_ble_eq_true rfl), (Nat.le_of_ble_eq_true rfl), (Nat.le_of_ble_eq_true rfl), (Nat.le_of_ble_eq_true rfl)⟩ (by decide) ?_
  refine sp_Grid_set (r := 47) (c := 48) rfl rfl rfl (l56 (by decide)) (l56 (by decide)) (sc_47_0 (SC_U (by decide) (SC_U (by decide) sc))) (sc_47_1 (SC_U (by decide) (SC_U (by decide) sc))) rfl (by omega) (by decide) ?_
  refine ⟨_, rfl, ?_⟩
  refine ex_aload_n (i := 0) dX8_addRuleNode_35 rfl rfl ?_
  refine ex_getR (v := .ref (47)) dX8_addRuleNode_36 fl_Tree_14 rfl rfl (l56 (by decide)) rfl ?_
  refine ex_iload_n (i := 3) dX8_addRuleNode_39 rfl rfl ?_
  refine ex_iconst (v := nI 3) dX8_addRuleNode_40 (by decide) ?_
  refine ex_iconst (v := nI 0) dX8_addRuleNode_41 (by decide) ?_
  refine ex_cV (ν := m_Grid_set) (a := 47) (ci := 2) (as := [.int (nI (a)), .int (nI (3)), .int (nI (0))]) dX8_addRuleNode_42 ln_Tree_53 mf_Grid_set rfl (l56 (by decide)) rfl rfl np_Grid_set rfl rfl ⟨(Nat.le_of_ble_eq_true rfl), (Nat.le_of_ble_eq_true rfl), (Nat.le_of_ble_eq_true rfl), (Nat.le_of_ble_eq_true rfl)⟩ (by decide) ?_
  refine sp_Grid_set (r := 47) (c := 48) rfl rfl rfl (l56 (by decide)) (l56 (by decide)) (sc_47_0 (SC_U (by decide) (SC_U (by decide) (SC_U (by decide) sc)))) (sc_47_1 (SC_U (by decide) (SC_U (by decide) (SC_U (by decide) sc)))) rfl (by omega) (by decide) ?_
  refine ⟨_, rfl, ?_⟩
  refine ex_aload_n (i := 0) dX8_addRuleNode_45 rfl rfl ?_
  refine ex_dup dX8_addRuleNode_46 rfl ?_
  refine ex_getI dX8_addRuleNode_47 fl_Tree_29 rfl rfl (l56 (by decide)) ?_
  refine ex_asN (a := a) h2 ?_
  refine ex_iconst (v := nI 1) dX8_addRuleNode_50 (by decide) ?_
  refine ex_iaddN dX8_addRuleNode_51 ?_
  refine ex_putI dX8_addRuleNode_52 fl_Tree_29 cf_8 rfl (Or.inl rfl) rfl rfl rfl (l56 (by decide)) ?_
  refine ex_iload_n (i := 3) dX8_addRuleNode_55 rfl rfl ?_
  refine ex_iret dX8_addRuleNode_56 rfl rfl ?_
  exact hQ
theorem sp_Tree_setChild_46 {a k c : Nat} (sc : SC i) (ha : a < 150) (hc : c < 150) (hk : 1 ≤ k ∧ k ≤ 4) (hQ : Q (.ok none) (56 + ζ, g, xU (xU (xU i 48 (a * 8 + (4 + k - 1)) (nI c)) 48 (c * 8 + 2) (nI a)) 48 (c * 8 + 3) (nI k), q, RT t)) : Wx m_Tree_setChild 0 [some (.ref 46), some (.int (nI a)), some (.int (nI k)), some (.int (nI c))] [] (56 + ζ, g, i, q, RT t) (0, 0) Q := by
  refine ex_aload_n (i := 0) dX8_setChild_0 rfl rfl ?_
  refine ex_getR (v := .ref (47)) dX8_setChild_1 fl_Tree_14 rfl rfl (l56 (by decide)) rfl ?_
  refine ex_iload_n (i := 1) dX8_setChild_4 rfl rfl ?_
  refine ex_iconst (v := nI 4) dX8_setChild_5 (by decide) ?_
  refine ex_iload_n (i := 2) dX8_setChild_6 rfl rfl ?_
  refine ex_iaddN dX8_setChild_7 ?_
  refine ex_iconst (v := nI 1) dX8_setChild_8 (by decide) ?_
  refine ex_isubN dX8_setChild_9 (by omega) ?_
  refine ex_iload_n (i := 3) dX8_setChild_10 rfl rfl ?_
  refine ex_cV (ν := m_Grid_set) (a := 47) (ci := 2) (as := [.int (nI (a)), .int (nI ((4 + k) - 1)), .int (nI (c))]) dX8_setChild_11 ln_Tree_53 mf_Grid_set rfl (l56 (by decide)) rfl rfl np_Grid_set rfl rfl ⟨(Nat.le_of_ble_eq_true rfl), (Nat.le_of_ble_eq_true rfl), (Nat.le_of_ble_eq_true rfl), (Nat.le_of_ble_eq_true rfl)⟩ (by decide) ?_
  refine sp_Grid_set (r := 47) (c := 48) rfl rfl rfl (l56 (by decide)) (l56 (by decide)) (sc_47_0 sc) (sc_47_1 sc) rfl (by omega) (by omega) ?_
  refine ⟨_, rfl, ?_⟩
  refine ex_aload_n (i := 0) dX8_setChild_14 rfl rfl ?_
  refine ex_getR (v := .ref (47)) dX8_setChild_15 fl_Tree_14 rfl rfl (l56 (by decide)) rfl ?_
  refine ex_iload_n (i := 3) dX8_setChild_18 rfl rfl ?_
  refine ex_iconst (v := nI 2) dX8_setChild_19 (by decide) ?_
  refine ex_iload_n (i := 1) dX8_setChild_20 rfl rfl ?_
  refine ex_cV (ν := m_Grid_set) (a := 47) (ci := 2) (as := [.int (nI (c)), .int (nI (2)), .int (nI (a))]) dX8_setChild_21 ln_Tree_53 mf_Grid_set rfl (l56 (by decide)) rfl rfl np_Grid_set rfl rfl ⟨(Nat.le_of_ble_eq_true rfl), (Nat.le_of_ble_eq_true rfl), (Nat.le_of_ble_eq_true rfl), (Nat.le_of_ble_eq_true rfl)⟩ (by decide) ?_
  refine sp_Grid_set (r := 47) (c := 48) rfl rfl rfl (l56 (by decide)) (l56 (by decide)) (sc_47_0 (SC_U (by decide) sc)) (sc_47_1 (SC_U (by decide) sc)) rfl (by omega) (by decide) ?_
  refine ⟨_, rfl, ?_⟩
  refine ex_aload_n (i := 0) dX8_setChild_24 rfl rfl ?_
  refine ex_getR (v := .ref (47)) dX8_setChild_25 fl_Tree_14 rfl rfl (l56 (by decide)) rfl ?_
  refine ex_iload_n (i := 3) dX8_setChild_28 rfl rfl ?_
  refine ex_iconst (v := nI 3) dX8_setChild_29 (by decide) ?_
  refine ex_iload_n (i := 2) dX8_setChild_30 rfl rfl ?_
  refine ex_cV (ν := m_Grid_set) (a := 47) (ci := 2) (as := [.int (nI (c)), .int (nI (3)), .int (nI (k))]) dX8_setChild_31 ln_Tree_53 mf_Grid_set rfl (l56 (by decide)) rfl rfl np_Grid_set rfl rfl ⟨(Nat.le_of_ble_eq_true rfl), (Nat.le_of_ble_eq_true rfl), (Nat.le_of_ble_eq_true rfl), (Nat.le_of_ble_eq_true rfl)⟩ (by decide) ?_
  refine sp_Grid_set (r := 47) (c := 48) rfl rfl rfl (l56 (by decide)) (l56 (by decide)) (sc_47_0 (SC_U (by decide) (SC_U (by decide) sc))) (sc_47_1 (SC_U (by decide) (SC_U (by decide) sc))) rfl (by omega) (by decide) ?_
  refine ⟨_, rfl, ?_⟩
  refine ex_ret dX8_setChild_34 rfl ?_
  exact hQ
theorem sp_Tree_isToken_46 {a : Nat} (sc : SC i) (ha : a < 150) (hQ : Q (.ok (some (.int (nI (if i 48 (a * 8 + 1) < 0 then 1 else 0))))) (56 + ζ, g, i, q, RT t)) : Wx m_Tree_isToken 0 [some (.ref 46), some (.int (nI a))] [] (56 + ζ, g, i, q, RT t) (0, 0) Q := by
  refine ex_aload_n (i := 0) dX8_isToken_0 rfl rfl ?_
  refine ex_iload_n (i := 1) dX8_isToken_1 rfl rfl ?_
  refine ex_iconst (v := nI 1) dX8_isToken_2 (by decide) ?_
  refine ex_cV (ν := m_Tree_fact) (a := 46) (ci := 8) (as := [.int (nI (a)), .int (nI (1))]) dX8_isToken_3 ln_Tree_37 mf_Tree_fact rfl (l56 (by decide)) rfl rfl np_Tree_fact rfl rfl ⟨(Nat.le_of_ble_eq_true rfl), (Nat.le_of_ble_eq_true rfl), (Nat.le_of_ble_eq_true rfl), (Nat.le_of_ble_eq_true rfl)⟩ (by decide) ?_
  refine sp_Tree_fact_46 sc (by omega) (by omega) ?_
  refine ⟨_, rfl, ?_⟩
  refine ex_if_ge (tgt := 13) dX8_isToken_6 (by decide) (fun h6 => ?_) (fun h6 => ?_)
  · refine ex_iconst (v := nI 0) dX8_isToken_13 (by decide) ?_
    refine ex_iret dX8_isToken_14 rfl (by decide) ?_
    first | (rw [if_neg (by assumption)] at hQ; exact hQ) | (rw [if_pos (Int32.not_le.mp (by assumption))] at hQ; exact hQ) | (rw [if_neg (Int32.not_lt.mpr (by assumption))] at hQ; exact hQ)
  · refine ex_iconst (v := nI 1) dX8_isToken_9 (by decide) ?_
    refine ex_goto (tgt := 14) dX8_isToken_10 (by decide) ?_
    refine ex_iret dX8_isToken_14 rfl (by decide) ?_
    first | (rw [if_neg (by assumption)] at hQ; exact hQ) | (rw [if_pos (Int32.not_le.mp (by assumption))] at hQ; exact hQ) | (rw [if_neg (Int32.not_lt.mpr (by assumption))] at hQ; exact hQ)
theorem sp_Tree_addTokenNode_46 {a b : Nat} {x v : Int32} (sc : SC i) (ha : a < 150) (hb : b < 2 ^ 31) (h2 : i 46 2 = nI a) (hQ : Q (.ok (some (.int (nI a)))) (56 + ζ, g, xU (xU (xU (xU (xU i 48 (a * 8 + 0) x) 48 (a * 8 + 1) (-1)) 48 (a * 8 + 2) (-1)) 48 (a * 8 + 3) (nI 0)) 46 2 (nI (a + 1)), xUL (xUL (xUL q 50 (a * 3) v.toInt64) 50 (a * 3 + 1) (nI b).toInt64) 50 (a * 3 + 2) 0, RT t)) : Wx m_Tree_addTokenNode 0 [some (.ref 46), some (.int x), some (.int v), some (.int (nI b)), none] [] (56 + ζ, g, i, q, RT t) (0, 0) Q := by
  refine ex_aload_n (i := 0) dX8_addTokenNode_0 rfl rfl ?_
  refine ex_iload_n (i := 1) dX8_addTokenNode_1 rfl rfl ?_
  refine ex_iconst (v := -1) dX8_addTokenNode_2 (by decide) ?_
  refine ex_cV (ν := m_Tree_addRuleNode) (a := 46) (ci := 8) (as := [.int (x), .int ((-1))]) dX8_addTokenNode_3 ln_Tree_47 mf_Tree_addRuleNode rfl (l56 (by decide)) rfl rfl np_Tree_addRuleNode rfl rfl ⟨(Nat.le_of_ble_eq_true rfl), (Nat.le_of_ble_eq_true rfl), (Nat.le_of_ble_eq_true rfl), (Nat.le_of_ble_eq_true rfl)⟩ (by decide) ?_
  refine sp_Tree_addRuleNode_46 sc ha h2 ?_
  refine ⟨_, rfl, ?_⟩
  refine ex_istore (L' := [some (.ref (46)), some (.int (x)), some (.int (v)), some (.int (nI (b))), some (.int (nI (a)))]) dX8_addTokenNode_6 (by decide) rfl ?_
  refine ex_aload_n (i := 0) dX8_addTokenNode_8 rfl rfl ?_
  refine ex_iload dX8_addTokenNode_9 rfl ?_
  refine ex_iconst (v := nI 3) dX8_addTokenNode_11 (by decide) ?_
  refine ex_imulN dX8_addTokenNode_12 ?_
  refine ex_iload_n (i := 2) dX8_addTokenNode_13 rfl rfl ?_
  refine ex_i2l dX8_addTokenNode_14 ?_
  refine ex_cV (ν := m_Tree_setValue) (a := 46) (ci := 8) (as := [.int (nI (a * 3)), .long ((v).toInt64)]) dX8_addTokenNode_15 ln_Tree_50 mf_Tree_setValue rfl (l56 (by decide)) rfl rfl np_Tree_setValue rfl rfl ⟨(Nat.le_of_ble_eq_true rfl), (Nat.le_of_ble_eq_true rfl), (Nat.le_of_ble_eq_true rfl), (Nat.le_of_ble_eq_true rfl)⟩ (by decide) ?_
  refine sp_Tree_setValue_46 (by omega) ?_
  refine ⟨_, rfl, ?_⟩
  refine ex_aload_n (i := 0) dX8_addTokenNode_18 rfl rfl ?_
  refine ex_iload dX8_addTokenNode_19 rfl ?_
  refine ex_iconst (v := nI 3) dX8_addTokenNode_21 (by decide) ?_
  refine ex_imulN dX8_addTokenNode_22 ?_
  refine ex_iconst (v := nI 1) dX8_addTokenNode_23 (by decide) ?_
  refine ex_iaddN dX8_addTokenNode_24 ?_
  refine ex_iload_n (i := 3) dX8_addTokenNode_25 rfl rfl ?_
  refine ex_i2l dX8_addTokenNode_26 ?_
  refine ex_cV (ν := m_Tree_setValue) (a := 46) (ci := 8) (as := [.int (nI ((a * 3) + 1)), .long ((nI (b)).toInt64)]) dX8_addTokenNode_27 ln_Tree_50 mf_Tree_setValue rfl (l56 (by decide)) rfl rfl np_Tree_setValue rfl rfl ⟨(Nat.le_of_ble_eq_true rfl), (Nat.le_of_ble_eq_true rfl), (Nat.le_of_ble_eq_true rfl), (Nat.le_of_ble_eq_true rfl)⟩ (by decide) ?_
  refine sp_Tree_setValue_46 (by omega) ?_
  refine ⟨_, rfl, ?_⟩
  refine ex_aload_n (i := 0) dX8_addTokenNode_30 rfl rfl ?_
  refine ex_iload dX8_addTokenNode_31 rfl ?_
  refine ex_iconst (v := nI 3) dX8_addTokenNode_33 (by decide) ?_
  refine ex_imulN dX8_addTokenNode_34 ?_
  refine ex_iconst (v := nI 2) dX8_addTokenNode_35 (by decide) ?_
  refine ex_iaddN dX8_addTokenNode_36 ?_
  refine ex_lconst (v := 0) dX8_addTokenNode_37 (by decide) ?_
  refine ex_cV (ν := m_Tree_setValue) (a := 46) (ci := 8) (as := [.int (nI ((a * 3) + 2)), .long (0)]) dX8_addTokenNode_38 ln_Tree_50 mf_Tree_setValue rfl (l56 (by decide)) rfl rfl np_Tree_setValue rfl rfl ⟨(Nat.le_of_ble_eq_true rfl), (Nat.le_of_ble_eq_true rfl), (Nat.le_of_ble_eq_true rfl), (Nat.le_of_ble_eq_true rfl)⟩ (by decide) ?_
  refine sp_Tree_setValue_46 (by omega) ?_
  refine ⟨_, rfl, ?_⟩
  refine ex_iload dX8_addTokenNode_41 rfl ?_
  refine ex_iret dX8_addTokenNode_43 rfl rfl ?_
  exact hQ
theorem sp_Tree_hasNode_46 {a b : Nat} (hb : b < 2 ^ 31) (h2 : i 46 2 = nI a) (ha : a ≤ 150) (hQ : Q (.ok (some (.int (nI (if b < a then 1 else 0))))) (56 + ζ, g, i, q, RT t)) : Wx m_Tree_hasNode 0 [some (.ref 46), some (.int (nI b))] [] (56 + ζ, g, i, q, RT t) (0, 0) Q := by
  refine ex_iload_n (i := 1) dX8_hasNode_0 rfl rfl ?_
  refine ex_if_ltN (tgt := 16) dX8_hasNode_1 (by decide) (by omega) ?_
  refine ex_iload_n (i := 1) dX8_hasNode_4 rfl rfl ?_
  refine ex_aload_n (i := 0) dX8_hasNode_5 rfl rfl ?_
  refine ex_getI dX8_hasNode_6 fl_Tree_29 rfl rfl (l56 (by decide)) ?_
  refine ex_asN (a := a) h2 ?_
  refine ex_icmp_geN (tgt := 16) dX8_hasNode_9 (by decide) (by omega) (by omega) (fun hx9 => ?_) (fun hx9 => ?_)
  · refine ex_iconst (v := nI 0) dX8_hasNode_16 (by decide) ?_
    refine ex_iret dX8_hasNode_17 rfl (by decide) ?_
    first | (rw [if_pos (by omega)] at hQ; exact hQ) | (rw [if_neg (by omega)] at hQ; exact hQ)
  · refine ex_iconst (v := nI 1) dX8_hasNode_12 (by decide) ?_
    refine ex_goto (tgt := 17) dX8_hasNode_13 (by decide) ?_
    refine ex_iret dX8_hasNode_17 rfl (by decide) ?_
    first | (rw [if_pos (by omega)] at hQ; exact hQ) | (rw [if_neg (by omega)] at hQ; exact hQ)
theorem sp_Tree_hasNode_neg_46 {x : Int32} (hx : x < 0) (hQ : Q (.ok (some (.int (nI 0)))) (56 + ζ, g, i, q, RT t)) : Wx m_Tree_hasNode 0 [some (.ref 46), some (.int x)] [] (56 + ζ, g, i, q, RT t) (0, 0) Q := by
  refine ex_iload_n (i := 1) dX8_hasNode_0 rfl rfl ?_
  refine ex_if_lt (tgt := 16) dX8_hasNode_1 (by decide) (fun hx1 => ?_) (fun hx1 => by exact absurd hx hx1)
  refine ex_iconst (v := nI 0) dX8_hasNode_16 (by decide) ?_
  refine ex_iret dX8_hasNode_17 rfl (by decide) ?_
  exact hQ
theorem sp_Tree_size_51 (hQ : Q (.ok (some (.int (i 51 2)))) (56 + ζ, g, i, q, RT t)) : Wx m_Tree_size 0 [some (.ref 51)] [] (56 + ζ, g, i, q, RT t) (0, 0) Q := by
  refine ex_aload_n (i := 0) dX8_size_0 rfl rfl ?_
  refine ex_getI dX8_size_1 fl_Tree_29 rfl rfl (l56 (by decide)) ?_
  refine ex_iret dX8_size_4 rfl rfl ?_
  exact hQ
theorem sp_Tree_begin_51 (hQ : Q (.ok none) (56 + ζ, g, xU i 51 2 (nI 0), q, RT t)) : Wx m_Tree_begin 0 [some (.ref 51)] [] (56 + ζ, g, i, q, RT t) (0, 0) Q := by
  refine ex_aload_n (i := 0) dX8_begin_0 rfl rfl ?_
  refine ex_iconst (v := nI 0) dX8_begin_1 (by decide) ?_
  refine ex_putI dX8_begin_2 fl_Tree_29 cf_8 rfl (Or.inl rfl) rfl rfl rfl (l56 (by decide)) ?_
  refine ex_ret dX8_begin_5 rfl ?_
  exact hQ
theorem sp_Tree_fact_51 {a k : Nat} (sc : SC i) (ha : a < 150) (hk : k < 8) (hQ : Q (.ok (some (.int (i 53 (a * 8 + k))))) (56 + ζ, g, i, q, RT t)) : Wx m_Tree_fact 0 [some (.ref 51), some (.int (nI a)), some (.int (nI k))] [] (56 + ζ, g, i, q, RT t) (0, 0) Q := by
  refine ex_aload_n (i := 0) dX8_fact_0 rfl rfl ?_
  refine ex_getR (v := .ref (52)) dX8_fact_1 fl_Tree_14 rfl rfl (l56 (by decide)) rfl ?_
  refine ex_iload_n (i := 1) dX8_fact_4 rfl rfl ?_
  refine ex_iload_n (i := 2) dX8_fact_5 rfl rfl ?_
  refine ex_cV (ν := m_Grid_get) (a := 52) (ci := 2) (as := [.int (nI (a)), .int (nI (k))]) dX8_fact_6 ln_Tree_33 mf_Grid_get rfl (l56 (by decide)) rfl rfl np_Grid_get rfl rfl ⟨(Nat.le_of_ble_eq_true rfl), (Nat.le_of_ble_eq_true rfl), (Nat.le_of_ble_eq_true rfl), (Nat.le_of_ble_eq_true rfl)⟩ (by decide) ?_
  refine sp_Grid_get (r := 52) (c := 53) rfl rfl rfl (l56 (by decide)) (l56 (by decide)) (sc_52_0 sc) (sc_52_1 sc) rfl (by omega) (by omega) ?_
  refine ⟨_, rfl, ?_⟩
  refine ex_iret dX8_fact_9 rfl rfl ?_
  exact hQ
theorem sp_Tree_child_51 {a k : Nat} (sc : SC i) (ha : a < 150) (hk : 1 ≤ k ∧ k ≤ 4) (hQ : Q (.ok (some (.int (i 53 (a * 8 + (4 + k - 1)))))) (56 + ζ, g, i, q, RT t)) : Wx m_Tree_child 0 [some (.ref 51), some (.int (nI a)), some (.int (nI k))] [] (56 + ζ, g, i, q, RT t) (0, 0) Q := by
  refine ex_aload_n (i := 0) dX8_child_0 rfl rfl ?_
  refine ex_getR (v := .ref (52)) dX8_child_1 fl_Tree_14 rfl rfl (l56 (by decide)) rfl ?_
  refine ex_iload_n (i := 1) dX8_child_4 rfl rfl ?_
  refine ex_iconst (v := nI 4) dX8_child_5 (by decide) ?_
  refine ex_iload_n (i := 2) dX8_child_6 rfl rfl ?_
  refine ex_iaddN dX8_child_7 ?_
  refine ex_iconst (v := nI 1) dX8_child_8 (by decide) ?_
  refine ex_isubN dX8_child_9 (by omega) ?_
  refine ex_cV (ν := m_Grid_get) (a := 52) (ci := 2) (as := [.int (nI (a)), .int (nI ((4 + k) - 1))]) dX8_child_10 ln_Tree_33 mf_Grid_get rfl (l56 (by decide)) rfl rfl np_Grid_get rfl rfl ⟨(Nat.le_of_ble_eq_true rfl), (Nat.le_of_ble_eq_true rfl), (Nat.le_of_ble_eq_true rfl), (Nat.le_of_ble_eq_true rfl)⟩ (by decide) ?_
  refine sp_Grid_get (r := 52) (c := 53) rfl rfl rfl (l56 (by decide)) (l56 (by decide)) (sc_52_0 sc) (sc_52_1 sc) rfl (by omega) (by omega) ?_
  refine ⟨_, rfl, ?_⟩
  refine ex_iret dX8_child_13 rfl rfl ?_
  exact hQ
theorem sp_Tree_value_51 {a : Nat} (ha : a < 450) (hQ : Q (.ok (some (.long (q 55 a)))) (56 + ζ, g, i, q, RT t)) : Wx m_Tree_value 0 [some (.ref 51), some (.int (nI a))] [] (56 + ζ, g, i, q, RT t) (0, 0) Q := by
  refine ex_aload_n (i := 0) dX8_value_0 rfl rfl ?_
  refine ex_getR (v := .ref (54)) dX8_value_1 fl_Tree_25 rfl rfl (l56 (by decide)) rfl ?_
  refine ex_iload_n (i := 1) dX8_value_4 rfl rfl ?_
  refine ex_cV (ν := m_LongRow_get) (a := 54) (ci := 3) (as := [.int (nI (a))]) dX8_value_5 ln_Tree_40 mf_LongRow_get rfl (l56 (by decide)) rfl rfl np_LongRow_get rfl rfl ⟨(Nat.le_of_ble_eq_true rfl), (Nat.le_of_ble_eq_true rfl), (Nat.le_of_ble_eq_true rfl), (Nat.le_of_ble_eq_true rfl)⟩ (by decide) ?_
  refine sp_LongRow_get (r := 54) (c := 55) rfl rfl rfl (l56 (by decide)) (l56 (by decide)) (by omega) ?_
  refine ⟨_, rfl, ?_⟩
  refine ex_lret dX8_value_8 rfl ?_
  exact hQ
theorem sp_Tree_setValue_51 {a : Nat} {x : Int64} (ha : a < 450) (hQ : Q (.ok none) (56 + ζ, g, i, xUL q 55 a x, RT t)) : Wx m_Tree_setValue 0 [some (.ref 51), some (.int (nI a)), some (.long x), none] [] (56 + ζ, g, i, q, RT t) (0, 0) Q := by
  refine ex_aload_n (i := 0) dX8_setValue_0 rfl rfl ?_
  refine ex_getR (v := .ref (54)) dX8_setValue_1 fl_Tree_25 rfl rfl (l56 (by decide)) rfl ?_
  refine ex_iload_n (i := 1) dX8_setValue_4 rfl rfl ?_
  refine ex_lload_n (i := 2) dX8_setValue_5 rfl rfl ?_
  refine ex_cV (ν := m_LongRow_set) (a := 54) (ci := 3) (as := [.int (nI (a)), .long (x)]) dX8_setValue_6 ln_Tree_43 mf_LongRow_set rfl (l56 (by decide)) rfl rfl np_LongRow_set rfl rfl ⟨(Nat.le_of_ble_eq_true rfl), (Nat.le_of_ble_eq_true rfl), (Nat.le_of_ble_eq_true rfl), (Nat.le_of_ble_eq_true rfl)⟩ (by decide) ?_
  refine sp_LongRow_set (r := 54) (c := 55) rfl rfl rfl (l56 (by decide)) (l56 (by decide)) (by omega) ?_
  refine ⟨_, rfl, ?_⟩
  refine ex_ret dX8_setValue_9 rfl ?_
  exact hQ
theorem sp_Tree_addRuleNode_51 {a : Nat} {x y : Int32} (sc : SC i) (ha : a < 150) (h2 : i 51 2 = nI a) (hQ : Q (.ok (some (.int (nI a)))) (56 + ζ, g, xU (xU (xU (xU (xU i 53 (a * 8 + 0) x) 53 (a * 8 + 1) y) 53 (a * 8 + 2) (-1)) 53 (a * 8 + 3) (nI 0)) 51 2 (nI (a + 1)), q, RT t)) : Wx m_Tree_addRuleNode 0 [some (.ref 51), some (.int x), some (.int y), none] [] (56 + ζ, g, i, q, RT t) (0, 0) Q := by
  refine ex_aload_n (i := 0) dX8_addRuleNode_0 rfl rfl ?_
  refine ex_getI dX8_addRuleNode_1 fl_Tree_29 rfl rfl (l56 (by decide)) ?_
  refine ex_asN (a := a) h2 ?_
  refine ex_istore_n (L' := [some (.ref (51)), some (.int (x)), some (.int (y)), some (.int (nI (a)))]) dX8_addRuleNode_4 (i := 3) rfl (by decide) rfl ?_
  refine ex_aload_n (i := 0) dX8_addRuleNode_5 rfl rfl ?_
  refine ex_getR (v := .ref (52)) dX8_addRuleNode_6 fl_Tree_14 rfl rfl (l56 (by decide)) rfl ?_
  refine ex_iload_n (i := 3) dX8_addRuleNode_9 rfl rfl ?_
  refine ex_iconst (v := nI 0) dX8_addRuleNode_10 (by decide) ?_
  refine ex_iload_n (i := 1) dX8_addRuleNode_11 rfl rfl ?_
  refine ex_cV (ν := m_Grid_set) (a := 52) (ci := 2) (as := [.int (nI (a)), .int (nI (0)), .int (x)]) dX8_addRuleNode_12 ln_Tree_53 mf_Grid_set rfl (l56 (by decide)) rfl rfl np_Grid_set rfl rfl ⟨(Nat.le_of_ble_eq_true rfl), (Nat.le_of_ble_eq_true rfl), (Nat.le_of_ble_eq_true rfl), (Nat.le_of_ble_eq_true rfl)⟩ (by decide) ?_
  refine sp_Grid_set (r := 52) (c := 53) rfl rfl rfl (l56 (by decide)) (l56 (by decide)) (sc_52_0 sc) (sc_52_1 sc) rfl (by omega) (by decide) ?_
  refine ⟨_, rfl, ?_⟩
  refine ex_aload_n (i := 0) dX8_addRuleNode_15 rfl rfl ?_
  refine ex_getR (v := .ref (52)) dX8_addRuleNode_16 fl_Tree_14 rfl rfl (l56 (by decide)) rfl ?_
  refine ex_iload_n (i := 3) dX8_addRuleNode_19 rfl rfl ?_
  refine ex_iconst (v := nI 1) dX8_addRuleNode_20 (by decide) ?_
  refine ex_iload_n (i := 2) dX8_addRuleNode_21 rfl rfl ?_
  refine ex_cV (ν := m_Grid_set) (a := 52) (ci := 2) (as := [.int (nI (a)), .int (nI (1)), .int (y)]) dX8_addRuleNode_22 ln_Tree_53 mf_Grid_set rfl (l56 (by decide)) rfl rfl np_Grid_set rfl rfl ⟨(Nat.le_of_ble_eq_true rfl), (Nat.le_of_ble_eq_true rfl), (Nat.le_of_ble_eq_true rfl), (Nat.le_of_ble_eq_true rfl)⟩ (by decide) ?_
  refine sp_Grid_set (r := 52) (c := 53) rfl rfl rfl (l56 (by decide)) (l56 (by decide)) (sc_52_0 (SC_U (by decide) sc)) (sc_52_1 (SC_U (by decide) sc)) rfl (by omega) (by decide) ?_
  refine ⟨_, rfl, ?_⟩
  refine ex_aload_n (i := 0) dX8_addRuleNode_25 rfl rfl ?_
  refine ex_getR (v := .ref (52)) dX8_addRuleNode_26 fl_Tree_14 rfl rfl (l56 (by decide)) rfl ?_
  refine ex_iload_n (i := 3) dX8_addRuleNode_29 rfl rfl ?_
  refine ex_iconst (v := nI 2) dX8_addRuleNode_30 (by decide) ?_
  refine ex_iconst (v := -1) dX8_addRuleNode_31 (by decide) ?_
  refine ex_cV (ν := m_Grid_set) (a := 52) (ci := 2) (as := [.int (nI (a)), .int (nI (2)), .int ((-1))]) dX8_addRuleNode_32 ln_Tree_53 mf_Grid_set rfl (l56 (by decide)) rfl rfl np_Grid_set rfl rfl ⟨(Nat.le_of_ble_eq_true rfl), (Nat.le_of_ble_eq_true rfl), (Nat.le_of_ble_eq_true rfl), (Nat.le_of_ble_eq_true rfl)⟩ (by decide) ?_
  refine sp_Grid_set (r := 52) (c := 53) rfl rfl rfl (l56 (by decide)) (l56 (by decide)) (sc_52_0 (SC_U (by decide) (SC_U (by decide) sc))) (sc_52_1 (SC_U (by decide) (SC_U (by decide) sc))) rfl (by omega) (by decide) ?_
  refine ⟨_, rfl, ?_⟩
  refine ex_aload_n (i := 0) dX8_addRuleNode_35 rfl rfl ?_
  refine ex_getR (v := .ref (52)) dX8_addRuleNode_36 fl_Tree_14 rfl rfl (l56 (by decide)) rfl ?_
  refine ex_iload_n (i := 3) dX8_addRuleNode_39 rfl rfl ?_
  refine ex_iconst (v := nI 3) dX8_addRuleNode_40 (by decide) ?_
  refine ex_iconst (v := nI 0) dX8_addRuleNode_41 (by decide) ?_
  refine ex_cV (ν := m_Grid_set) (a := 52) (ci := 2) (as := [.int (nI (a)), .int (nI (3)), .int (nI (0))]) dX8_addRuleNode_42 ln_Tree_53 mf_Grid_set rfl (l56 (by decide)) rfl rfl np_Grid_set rfl rfl ⟨(Nat.le_of_ble_eq_true rfl), (Nat.le_of_ble_eq_true rfl), (Nat.le_of_ble_eq_true rfl), (Nat.le_of_ble_eq_true rfl)⟩ (by decide) ?_
  refine sp_Grid_set (r := 52) (c := 53) rfl rfl rfl (l56 (by decide)) (l56 (by decide)) (sc_52_0 (SC_U (by decide) (SC_U (by decide) (SC_U (by decide) sc)))) (sc_52_1 (SC_U (by decide) (SC_U (by decide) (SC_U (by decide) sc)))) rfl (by omega) (by decide) ?_
  refine ⟨_, rfl, ?_⟩
  refine ex_aload_n (i := 0) dX8_addRuleNode_45 rfl rfl ?_
  refine ex_dup dX8_addRuleNode_46 rfl ?_
  refine ex_getI dX8_addRuleNode_47 fl_Tree_29 rfl rfl (l56 (by decide)) ?_
  refine ex_asN (a := a) h2 ?_
  refine ex_iconst (v := nI 1) dX8_addRuleNode_50 (by decide) ?_
  refine ex_iaddN dX8_addRuleNode_51 ?_
  refine ex_putI dX8_addRuleNode_52 fl_Tree_29 cf_8 rfl (Or.inl rfl) rfl rfl rfl (l56 (by decide)) ?_
  refine ex_iload_n (i := 3) dX8_addRuleNode_55 rfl rfl ?_
  refine ex_iret dX8_addRuleNode_56 rfl rfl ?_
  exact hQ
theorem sp_Tree_setChild_51 {a k c : Nat} (sc : SC i) (ha : a < 150) (hc : c < 150) (hk : 1 ≤ k ∧ k ≤ 4) (hQ : Q (.ok none) (56 + ζ, g, xU (xU (xU i 53 (a * 8 + (4 + k - 1)) (nI c)) 53 (c * 8 + 2) (nI a)) 53 (c * 8 + 3) (nI k), q, RT t)) : Wx m_Tree_setChild 0 [some (.ref 51), some (.int (nI a)), some (.int (nI k)), some (.int (nI c))] [] (56 + ζ, g, i, q, RT t) (0, 0) Q := by
  refine ex_aload_n (i := 0) dX8_setChild_0 rfl rfl ?_
  refine ex_getR (v := .ref (52)) dX8_setChild_1 fl_Tree_14 rfl rfl (l56 (by decide)) rfl ?_
  refine ex_iload_n (i := 1) dX8_setChild_4 rfl rfl ?_
  refine ex_iconst (v := nI 4) dX8_setChild_5 (by decide) ?_
  refine ex_iload_n (i := 2) dX8_setChild_6 rfl rfl ?_
  refine ex_iaddN dX8_setChild_7 ?_
  refine ex_iconst (v := nI 1) dX8_setChild_8 (by decide) ?_
  refine ex_isubN dX8_setChild_9 (by omega) ?_
  refine ex_iload_n (i := 3) dX8_setChild_10 rfl rfl ?_
  refine ex_cV (ν := m_Grid_set) (a := 52) (ci := 2) (as := [.int (nI (a)), .int (nI ((4 + k) - 1)), .int (nI (c))]) dX8_setChild_11 ln_Tree_53 mf_Grid_set rfl (l56 (by decide)) rfl rfl np_Grid_set rfl rfl ⟨(Nat.le_of_ble_eq_true rfl), (Nat.le_of_ble_eq_true rfl), (Nat.le_of_ble_eq_true rfl), (Nat.le_of_ble_eq_true rfl)⟩ (by decide) ?_
  refine sp_Grid_set (r := 52) (c := 53) rfl rfl rfl (l56 (by decide)) (l56 (by decide)) (sc_52_0 sc) (sc_52_1 sc) rfl (by omega) (by omega) ?_
  refine ⟨_, rfl, ?_⟩
  refine ex_aload_n (i := 0) dX8_setChild_14 rfl rfl ?_
  refine ex_getR (v := .ref (52)) dX8_setChild_15 fl_Tree_14 rfl rfl (l56 (by decide)) rfl ?_
  refine ex_iload_n (i := 3) dX8_setChild_18 rfl rfl ?_
  refine ex_iconst (v := nI 2) dX8_setChild_19 (by decide) ?_
  refine ex_iload_n (i := 1) dX8_setChild_20 rfl rfl ?_
  refine ex_cV (ν := m_Grid_set) (a := 52) (ci := 2) (as := [.int (nI (c)), .int (nI (2)), .int (nI (a))]) dX8_setChild_21 ln_Tree_53 mf_Grid_set rfl (l56 (by decide)) rfl rfl np_Grid_set rfl rfl ⟨(Nat.le_of_ble_eq_true rfl), (Nat.le_of_ble_eq_true rfl), (Nat.le_of_ble_eq_true rfl), (Nat.le_of_ble_eq_true rfl)⟩ (by decide) ?_
  refine sp_Grid_set (r := 52) (c := 53) rfl rfl rfl (l56 (by decide)) (l56 (by decide)) (sc_52_0 (SC_U (by decide) sc)) (sc_52_1 (SC_U (by decide) sc)) rfl (by omega) (by decide) ?_
  refine ⟨_, rfl, ?_⟩
  refine ex_aload_n (i := 0) dX8_setChild_24 rfl rfl ?_
  refine ex_getR (v := .ref (52)) dX8_setChild_25 fl_Tree_14 rfl rfl (l56 (by decide)) rfl ?_
  refine ex_iload_n (i := 3) dX8_setChild_28 rfl rfl ?_
  refine ex_iconst (v := nI 3) dX8_setChild_29 (by decide) ?_
  refine ex_iload_n (i := 2) dX8_setChild_30 rfl rfl ?_
  refine ex_cV (ν := m_Grid_set) (a := 52) (ci := 2) (as := [.int (nI (c)), .int (nI (3)), .int (nI (k))]) dX8_setChild_31 ln_Tree_53 mf_Grid_set rfl (l56 (by decide)) rfl rfl np_Grid_set rfl rfl ⟨(Nat.le_of_ble_eq_true rfl), (Nat.le_of_ble_eq_true rfl), (Nat.le_of_ble_eq_true rfl), (Nat.le_of_ble_eq_true rfl)⟩ (by decide) ?_
  refine sp_Grid_set (r := 52) (c := 53) rfl rfl rfl (l56 (by decide)) (l56 (by decide)) (sc_52_0 (SC_U (by decide) (SC_U (by decide) sc))) (sc_52_1 (SC_U (by decide) (SC_U (by decide) sc))) rfl (by omega) (by decide) ?_
  refine ⟨_, rfl, ?_⟩
  refine ex_ret dX8_setChild_34 rfl ?_
  exact hQ
theorem sp_Tree_isToken_51 {a : Nat} (sc : SC i) (ha : a < 150) (hQ : Q (.ok (some (.int (nI (if i 53 (a * 8 + 1) < 0 then 1 else 0))))) (56 + ζ, g, i, q, RT t)) : Wx m_Tree_isToken 0 [some (.ref 51), some (.int (nI a))] [] (56 + ζ, g, i, q, RT t) (0, 0) Q := by
  refine ex_aload_n (i := 0) dX8_isToken_0 rfl rfl ?_
  refine ex_iload_n (i := 1) dX8_isToken_1 rfl rfl ?_
  refine ex_iconst (v := nI 1) dX8_isToken_2 (by decide) ?_
  refine ex_cV (ν := m_Tree_fact) (a := 51) (ci := 8) (as := [.int (nI (a)), .int (nI (1))]) dX8_isToken_3 ln_Tree_37 mf_Tree_fact rfl (l56 (by decide)) rfl rfl np_Tree_fact rfl rfl ⟨(Nat.le_of_ble_eq_true rfl), (Nat.le_of_ble_eq_true rfl), (Nat.le_of_ble_eq_true rfl), (Nat.le_of_ble_eq_true rfl)⟩ (by decide) ?_
  refine sp_Tree_fact_51 sc (by omega) (by omega) ?_
  refine ⟨_, rfl, ?_⟩
  refine ex_if_ge (tgt := 13) dX8_isToken_6 (by decide) (fun h6 => ?_) (fun h6 => ?_)
  · refine ex_iconst (v := nI 0) dX8_isToken_13 (by decide) ?_
    refine ex_iret dX8_isToken_14 rfl (by decide) ?_
    first | (rw [if_neg (by assumption)] at hQ; exact hQ) | (rw [if_pos (Int32.not_le.mp (by assumption))] at hQ; exact hQ) | (rw [if_neg (Int32.not_lt.mpr (by assumption))] at hQ; exact hQ)
  · refine ex_iconst (v := nI 1) dX8_isToken_9 (by decide) ?_
    refine ex_goto (tgt := 14) dX8_isToken_10 (by decide) ?_
    refine ex_iret dX8_isToken_14 rfl (by decide) ?_
    first | (rw [if_neg (by assumption)] at hQ; exact hQ) | (rw [if_pos (Int32.not_le.mp (by assumption))] at hQ; exact hQ) | (rw [if_neg (Int32.not_lt.mpr (by assumption))] at hQ; exact hQ)
theorem sp_Tree_addTokenNode_51 {a b : Nat} {x v : Int32} (sc : SC i) (ha : a < 150) (hb : b < 2 ^ 31) (h2 : i 51 2 = nI a) (hQ : Q (.ok (some (.int (nI a)))) (56 + ζ, g, xU (xU (xU (xU (xU i 53 (a * 8 + 0) x) 53 (a * 8 + 1) (-1)) 53 (a * 8 + 2) (-1)) 53 (a * 8 + 3) (nI 0)) 51 2 (nI (a + 1)), xUL (xUL (xUL q 55 (a * 3) v.toInt64) 55 (a * 3 + 1) (nI b).toInt64) 55 (a * 3 + 2) 0, RT t)) : Wx m_Tree_addTokenNode 0 [some (.ref 51), some (.int x), some (.int v), some (.int (nI b)), none] [] (56 + ζ, g, i, q, RT t) (0, 0) Q := by
  refine ex_aload_n (i := 0) dX8_addTokenNode_0 rfl rfl ?_
  refine ex_iload_n (i := 1) dX8_addTokenNode_1 rfl rfl ?_
  refine ex_iconst (v := -1) dX8_addTokenNode_2 (by decide) ?_
  refine ex_cV (ν := m_Tree_addRuleNode) (a := 51) (ci := 8) (as := [.int (x), .int ((-1))]) dX8_addTokenNode_3 ln_Tree_47 mf_Tree_addRuleNode rfl (l56 (by decide)) rfl rfl np_Tree_addRuleNode rfl rfl ⟨(Nat.le_of_ble_eq_true rfl), (Nat.le_of_ble_eq_true rfl), (Nat.le_of_ble_eq_true rfl), (Nat.le_of_ble_eq_true rfl)⟩ (by decide) ?_
  refine sp_Tree_addRuleNode_51 sc ha h2 ?_
  refine ⟨_, rfl, ?_⟩
  refine ex_istore (L' := [some (.ref (51)), some (.int (x)), some (.int (v)), some (.int (nI (b))), some (.int (nI (a)))]) dX8_addTokenNode_6 (by decide) rfl ?_
  refine ex_aload_n (i := 0) dX8_addTokenNode_8 rfl rfl ?_
  refine ex_iload dX8_addTokenNode_9 rfl ?_
  refine ex_iconst (v := nI 3) dX8_addTokenNode_11 (by decide) ?_
  refine ex_imulN dX8_addTokenNode_12 ?_
  refine ex_iload_n (i := 2) dX8_addTokenNode_13 rfl rfl ?_
  refine ex_i2l dX8_addTokenNode_14 ?_
  refine ex_cV (ν := m_Tree_setValue) (a := 51) (ci := 8) (as := [.int (nI (a * 3)), .long ((v).toInt64)]) dX8_addTokenNode_15 ln_Tree_50 mf_Tree_setValue rfl (l56 (by decide)) rfl rfl np_Tree_setValue rfl rfl ⟨(Nat.le_of_ble_eq_true rfl), (Nat.le_of_ble_eq_true rfl), (Nat.le_of_ble_eq_true rfl), (Nat.le_of_ble_eq_true rfl)⟩ (by decide) ?_
  refine sp_Tree_setValue_51 (by omega) ?_
  refine ⟨_, rfl, ?_⟩
  refine ex_aload_n (i := 0) dX8_addTokenNode_18 rfl rfl ?_
  refine ex_iload dX8_addTokenNode_19 rfl ?_
  refine ex_iconst (v := nI 3) dX8_addTokenNode_21 (by decide) ?_
  refine ex_imulN dX8_addTokenNode_22 ?_
  refine ex_iconst (v := nI 1) dX8_addTokenNode_23 (by decide) ?_
  refine ex_iaddN dX8_addTokenNode_24 ?_
  refine ex_iload_n (i := 3) dX8_addTokenNode_25 rfl rfl ?_
  refine ex_i2l dX8_addTokenNode_26 ?_
  refine ex_cV (ν := m_Tree_setValue) (a := 51) (ci := 8) (as := [.int (nI ((a * 3) + 1)), .long ((nI (b)).toInt64)]) dX8_addTokenNode_27 ln_Tree_50 mf_Tree_setValue rfl (l56 (by decide)) rfl rfl np_Tree_setValue rfl rfl ⟨(Nat.le_of_ble_eq_true rfl), (Nat.le_of_ble_eq_true rfl), (Nat.le_of_ble_eq_true rfl), (Nat.le_of_ble_eq_true rfl)⟩ (by decide) ?_
  refine sp_Tree_setValue_51 (by omega) ?_
  refine ⟨_, rfl, ?_⟩
  refine ex_aload_n (i := 0) dX8_addTokenNode_30 rfl rfl ?_
  refine ex_iload dX8_addTokenNode_31 rfl ?_
  refine ex_iconst (v := nI 3) dX8_addTokenNode_33 (by decide) ?_
  refine ex_imulN dX8_addTokenNode_34 ?_
  refine ex_iconst (v := nI 2) dX8_addTokenNode_35 (by decide) ?_
  refine ex_iaddN dX8_addTokenNode_36 ?_
  refine ex_lconst (v := 0) dX8_addTokenNode_37 (by decide) ?_
  refine ex_cV (ν := m_Tree_setValue) (a := 51) (ci := 8) (as := [.int (nI ((a * 3) + 2)), .long (0)]) dX8_addTokenNode_38 ln_Tree_50 mf_Tree_setValue rfl (l56 (by decide)) rfl rfl np_Tree_setValue rfl rfl ⟨(Nat.le_of_ble_eq_true rfl), (Nat.le_of_ble_eq_true rfl), (Nat.le_of_ble_eq_true rfl), (Nat.le_of_ble_eq_true rfl)⟩ (by decide) ?_
  refine sp_Tree_setValue_51 (by omega) ?_
  refine ⟨_, rfl, ?_⟩
  refine ex_iload dX8_addTokenNode_41 rfl ?_
  refine ex_iret dX8_addTokenNode_43 rfl rfl ?_
  exact hQ
theorem sp_Tree_hasNode_51 {a b : Nat} (hb : b < 2 ^ 31) (h2 : i 51 2 = nI a) (ha : a ≤ 150) (hQ : Q (.ok (some (.int (nI (if b < a then 1 else 0))))) (56 + ζ, g, i, q, RT t)) : Wx m_Tree_hasNode 0 [some (.ref 51), some (.int (nI b))] [] (56 + ζ, g, i, q, RT t) (0, 0) Q := by
  refine ex_iload_n (i := 1) dX8_hasNode_0 rfl rfl ?_
  refine ex_if_ltN (tgt := 16) dX8_hasNode_1 (by decide) (by omega) ?_
  refine ex_iload_n (i := 1) dX8_hasNode_4 rfl rfl ?_
  refine ex_aload_n (i := 0) dX8_hasNode_5 rfl rfl ?_
  refine ex_getI dX8_hasNode_6 fl_Tree_29 rfl rfl (l56 (by decide)) ?_
  refine ex_asN (a := a) h2 ?_
  refine ex_icmp_geN (tgt := 16) dX8_hasNode_9 (by decide) (by omega) (by omega) (fun hx9 => ?_) (fun hx9 => ?_)
  · refine ex_iconst (v := nI 0) dX8_hasNode_16 (by decide) ?_
    refine ex_iret dX8_hasNode_17 rfl (by decide) ?_
    first | (rw [if_pos (by omega)] at hQ; exact hQ) | (rw [if_neg (by omega)] at hQ; exact hQ)
  · refine ex_iconst (v := nI 1) dX8_hasNode_12 (by decide) ?_
    refine ex_goto (tgt := 17) dX8_hasNode_13 (by decide) ?_
    refine ex_iret dX8_hasNode_17 rfl (by decide) ?_
    first | (rw [if_pos (by omega)] at hQ; exact hQ) | (rw [if_neg (by omega)] at hQ; exact hQ)
theorem sp_Tree_hasNode_neg_51 {x : Int32} (hx : x < 0) (hQ : Q (.ok (some (.int (nI 0)))) (56 + ζ, g, i, q, RT t)) : Wx m_Tree_hasNode 0 [some (.ref 51), some (.int x)] [] (56 + ζ, g, i, q, RT t) (0, 0) Q := by
  refine ex_iload_n (i := 1) dX8_hasNode_0 rfl rfl ?_
  refine ex_if_lt (tgt := 16) dX8_hasNode_1 (by decide) (fun hx1 => ?_) (fun hx1 => by exact absurd hx hx1)
  refine ex_iconst (v := nI 0) dX8_hasNode_16 (by decide) ?_
  refine ex_iret dX8_hasNode_17 rfl (by decide) ?_
  exact hQ
end S36
