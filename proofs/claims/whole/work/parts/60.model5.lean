/-! ===== the reference: action, lookaheads, node, attribute, clear, count ===== -/
section S60
variable {g : Nat} {i : Nat → Nat → Int32} {q : Nat → Nat → Int64} {t : Bool} {Q : xRes → xMem → Prop} {n : Nat} {sy : Nat → Nat → Nat} {op xp yp : Nat → Nat}
theorem sp_Model_action {x y : Int32} {b S : Nat} (h9 : i 56 9 = nI b) (hb : b ≤ 1) (h11 : i 56 11 = nI S) (hS : S ≤ 50) (hX0 : b = 0 → ∀ i1, Fm [] [45] i i1 → i1 56 45 = nI 1 → Q (.ok (some (.int (nI 0)))) (94, g, i1, q, RT t)) (hX1 : ¬ b = 0 → (¬ ∃ s, x = nI s ∧ s < S) ∨ (¬ ∃ k, y = nI k ∧ k < 7) → ∀ i1, Fm [] [45] i i1 → i1 56 45 = nI 2 → Q (.ok (some (.int (nI 0)))) (94, g, i1, q, RT t))
    (hQ : ∀ s k, ¬ b = 0 → x = nI s → s < S → y = nI k → k < 7 → ∀ i1, Fm [] [45] i i1 → i1 56 45 = nI 0 → Q (.ok (some (.int (i 73 (7 * s + k))))) (94, g, i1, q, RT t)) : Wx m_Model_action 0 [some (.ref 56), some (.int x), some (.int y)] [] (94, g, i, q, RT t) (0, 0) Q := by
  by_cases b0 : b = 0
  · subst b0
    refine ex_aload_n (i := 0) dX10_action_0 rfl rfl ?_
    refine ex_aload_n (i := 0) dX10_action_1 rfl rfl ?_
    refine ex_getI dX10_action_2 fl_Model_148 rfl rfl (by decide) ?_
    refine ex_asN (a := 0) h9 ?_
    refine ex_iconst (v := nI 1) dX10_action_5 (by decide) ?_
    refine ex_cV (ν := m_Model_good) (a := 56) (ci := 10) (as := [.int (nI (0)), .int (nI (1))]) dX10_action_6 ln_Model_141 mf_Model_good rfl (Nat.le_of_ble_eq_true rfl) rfl rfl np_Model_good rfl rfl ⟨(Nat.le_of_ble_eq_true rfl), (Nat.le_of_ble_eq_true rfl), (Nat.le_of_ble_eq_true rfl), (Nat.le_of_ble_eq_true rfl)⟩ (by decide) ?_
    refine sp_Model_good (b := 0) (by decide) ?_
    refine ⟨_, rfl, ?_⟩
    refine ex_if_eqN (tgt := 49) dX10_action_9 (by decide) (by omega) (fun h9 => ?_) (fun h9 => by exact absurd h9 (by decide))
    refine ex_iconst (v := nI 0) dX10_action_49 (by decide) ?_
    refine ex_iret dX10_action_50 rfl rfl ?_
    exact hX0 rfl _ (Fm.rf.F (by decide)) (cd_at _ _)
  · have b1 : b = 1 := by omega
    subst b1
    have e11 : ∀ v, xU i 56 45 v 56 11 = nI S := fun v => by rw [cd_ne _ _ (by decide)]; exact h11
    by_cases hs : ∃ s, x = nI s ∧ s < S
    · obtain ⟨s, rfl, hs2⟩ := hs
      have eI : inX (nI s) (nI 0) (nI S - nI 1) = 1 := inX_1 (by omega) ⟨s, rfl, hs2⟩
      by_cases hk : ∃ k, y = nI k ∧ k < 7
      · have eK : inX y (nI 0) (nI 6) = 1 := inX_c1 (by decide) hk
        obtain ⟨k, rfl, k1⟩ := hk
        refine ex_aload_n (i := 0) dX10_action_0 rfl rfl ?_
        refine ex_aload_n (i := 0) dX10_action_1 rfl rfl ?_
        refine ex_getI dX10_action_2 fl_Model_148 rfl rfl (by decide) ?_
        refine ex_asN (a := 1) h9 ?_
        refine ex_iconst (v := nI 1) dX10_action_5 (by decide) ?_
        refine ex_cV (ν := m_Model_good) (a := 56) (ci := 10) (as := [.int (nI (1)), .int (nI (1))]) dX10_action_6 ln_Model_141 mf_Model_good rfl (Nat.le_of_ble_eq_true rfl) rfl rfl np_Model_good rfl rfl ⟨(Nat.le_of_ble_eq_true rfl), (Nat.le_of_ble_eq_true rfl), (Nat.le_of_ble_eq_true rfl), (Nat.le_of_ble_eq_true rfl)⟩ (by decide) ?_
        refine sp_Model_good (b := 1) (by decide) ?_
        refine ⟨_, rfl, ?_⟩
        refine ex_if_eqN (tgt := 49) dX10_action_9 (by decide) (by omega) (fun h9 => by exact absurd h9 (by decide)) (fun h9 => ?_)
        refine ex_aload_n (i := 0) dX10_action_12 rfl rfl ?_
        refine ex_iload_n (i := 1) dX10_action_13 rfl rfl ?_
        refine ex_iconst (v := nI 0) dX10_action_14 (by decide) ?_
        refine ex_aload_n (i := 0) dX10_action_15 rfl rfl ?_
        refine ex_getI dX10_action_16 fl_Model_170 rfl rfl (by decide) ?_
        refine ex_asI (y := nI S) (e11 _) ?_
        refine ex_iconst (v := nI 1) dX10_action_19 (by decide) ?_
        refine ex_isub dX10_action_20 ?_
        refine ex_cS (ν := m_Model_in) (as := [.int (nI (s)), .int (nI (0)), .int ((nI S) - (nI (1)))]) dX10_action_21 ln_Model_127 mf_Model_in np_Model_in rfl rfl ⟨(Nat.le_of_ble_eq_true rfl), (Nat.le_of_ble_eq_true rfl), (Nat.le_of_ble_eq_true rfl), (Nat.le_of_ble_eq_true rfl)⟩ (by decide) ?_
        refine sp_Model_in ?_
        refine ⟨_, rfl, ?_⟩
        refine ex_asN (a := 1) (by rw [eI]) ?_
        refine ex_if_eqN (tgt := 41) dX10_action_24 (by decide) (by omega) (fun h24 => by exact absurd h24 (by decide)) (fun h24 => ?_)
        refine ex_iload_n (i := 2) dX10_action_27 rfl rfl ?_
        refine ex_iconst (v := nI 0) dX10_action_28 (by decide) ?_
        refine ex_bipush (v := nI 6) dX10_action_29 (by decide) ?_
        refine ex_cS (ν := m_Model_in) (as := [.int (nI (k)), .int (nI (0)), .int (nI (6))]) dX10_action_31 ln_Model_127 mf_Model_in np_Model_in rfl rfl ⟨(Nat.le_of_ble_eq_true rfl), (Nat.le_of_ble_eq_true rfl), (Nat.le_of_ble_eq_true rfl), (Nat.le_of_ble_eq_true rfl)⟩ (by decide) ?_
        refine sp_Model_in ?_
        refine ⟨_, rfl, ?_⟩
        refine ex_asN (a := 1) (by rw [eK]) ?_
        refine ex_if_eqN (tgt := 41) dX10_action_34 (by decide) (by omega) (fun h34 => by exact absurd h34 (by decide)) (fun h34 => ?_)
        refine ex_iconst (v := nI 1) dX10_action_37 (by decide) ?_
        refine ex_goto (tgt := 42) dX10_action_38 (by decide) ?_
        refine ex_iconst (v := nI 2) dX10_action_42 (by decide) ?_
        refine ex_cV (ν := m_Model_good) (a := 56) (ci := 10) (as := [.int (nI (1)), .int (nI (2))]) dX10_action_43 ln_Model_141 mf_Model_good rfl (Nat.le_of_ble_eq_true rfl) rfl rfl np_Model_good rfl rfl ⟨(Nat.le_of_ble_eq_true rfl), (Nat.le_of_ble_eq_true rfl), (Nat.le_of_ble_eq_true rfl), (Nat.le_of_ble_eq_true rfl)⟩ (by decide) ?_
        refine sp_Model_good (b := 1) (by decide) ?_
        refine ⟨_, rfl, ?_⟩
        refine ex_if_neN (tgt := 51) dX10_action_46 (by decide) (by omega) (fun h46 => ?_) (fun h46 => by exact absurd h46 (by decide))
        refine ex_aload_n (i := 0) dX10_action_51 rfl rfl ?_
        refine ex_getR (v := .ref (73)) dX10_action_52 fl_Model_59 rfl rfl (by decide) rfl ?_
        refine ex_bipush (v := nI 7) dX10_action_55 (by decide) ?_
        refine ex_iload_n (i := 1) dX10_action_57 rfl rfl ?_
        refine ex_imulN dX10_action_58 ?_
        refine ex_iload_n (i := 2) dX10_action_59 rfl rfl ?_
        refine ex_iaddN dX10_action_60 ?_
        refine ex_ialdN dX10_action_61 rfl (by decide) (by omega) rfl ?_
        refine ex_iret dX10_action_62 rfl rfl ?_
        exact hQ s k (by decide) rfl hs2 rfl k1 _ ((Fm.rf.F (by decide)).F (by decide)) (cd_at2 _ _ _)
      · have eK : inX y (nI 0) (nI 6) = 0 := inX_c0 (by decide) hk
        refine ex_aload_n (i := 0) dX10_action_0 rfl rfl ?_
        refine ex_aload_n (i := 0) dX10_action_1 rfl rfl ?_
        refine ex_getI dX10_action_2 fl_Model_148 rfl rfl (by decide) ?_
        refine ex_asN (a := 1) h9 ?_
        refine ex_iconst (v := nI 1) dX10_action_5 (by decide) ?_
        refine ex_cV (ν := m_Model_good) (a := 56) (ci := 10) (as := [.int (nI (1)), .int (nI (1))]) dX10_action_6 ln_Model_141 mf_Model_good rfl (Nat.le_of_ble_eq_true rfl) rfl rfl np_Model_good rfl rfl ⟨(Nat.le_of_ble_eq_true rfl), (Nat.le_of_ble_eq_true rfl), (Nat.le_of_ble_eq_true rfl), (Nat.le_of_ble_eq_true rfl)⟩ (by decide) ?_
        refine sp_Model_good (b := 1) (by decide) ?_
        refine ⟨_, rfl, ?_⟩
        refine ex_if_eqN (tgt := 49) dX10_action_9 (by decide) (by omega) (fun h9 => by exact absurd h9 (by decide)) (fun h9 => ?_)
        refine ex_aload_n (i := 0) dX10_action_12 rfl rfl ?_
        refine ex_iload_n (i := 1) dX10_action_13 rfl rfl ?_
        refine ex_iconst (v := nI 0) dX10_action_14 (by decide) ?_
        refine ex_aload_n (i := 0) dX10_action_15 rfl rfl ?_
        refine ex_getI dX10_action_16 fl_Model_170 rfl rfl (by decide) ?_
        refine ex_asI (y := nI S) (e11 _) ?_
        refine ex_iconst (v := nI 1) dX10_action_19 (by decide) ?_
        refine ex_isub dX10_action_20 ?_
        refine ex_cS (ν := m_Model_in) (as := [.int (nI (s)), .int (nI (0)), .int ((nI S) - (nI (1)))]) dX10_action_21 ln_Model_127 mf_Model_in np_Model_in rfl rfl ⟨(Nat.le_of_ble_eq_true rfl), (Nat.le_of_ble_eq_true rfl), (Nat.le_of_ble_eq_true rfl), (Nat.le_of_ble_eq_true rfl)⟩ (by decide) ?_
        refine sp_Model_in ?_
        refine ⟨_, rfl, ?_⟩
        refine ex_asN (a := 1) (by rw [eI]) ?_
        refine ex_if_eqN (tgt := 41) dX10_action_24 (by decide) (by omega) (fun h24 => by exact absurd h24 (by decide)) (fun h24 => ?_)
        refine ex_iload_n (i := 2) dX10_action_27 rfl rfl ?_
        refine ex_iconst (v := nI 0) dX10_action_28 (by decide) ?_
        refine ex_bipush (v := nI 6) dX10_action_29 (by decide) ?_
        refine ex_cS (ν := m_Model_in) (as := [.int (y), .int (nI (0)), .int (nI (6))]) dX10_action_31 ln_Model_127 mf_Model_in np_Model_in rfl rfl ⟨(Nat.le_of_ble_eq_true rfl), (Nat.le_of_ble_eq_true rfl), (Nat.le_of_ble_eq_true rfl), (Nat.le_of_ble_eq_true rfl)⟩ (by decide) ?_
        refine sp_Model_in ?_
        refine ⟨_, rfl, ?_⟩
        refine ex_asN (a := 0) (by rw [eK]) ?_
        refine ex_if_eqN (tgt := 41) dX10_action_34 (by decide) (by omega) (fun h34 => ?_) (fun h34 => by exact absurd h34 (by decide))
        refine ex_iconst (v := nI 0) dX10_action_41 (by decide) ?_
        refine ex_iconst (v := nI 2) dX10_action_42 (by decide) ?_
        refine ex_cV (ν := m_Model_good) (a := 56) (ci := 10) (as := [.int (nI (0)), .int (nI (2))]) dX10_action_43 ln_Model_141 mf_Model_good rfl (Nat.le_of_ble_eq_true rfl) rfl rfl np_Model_good rfl rfl ⟨(Nat.le_of_ble_eq_true rfl), (Nat.le_of_ble_eq_true rfl), (Nat.le_of_ble_eq_true rfl), (Nat.le_of_ble_eq_true rfl)⟩ (by decide) ?_
        refine sp_Model_good (b := 0) (by decide) ?_
        refine ⟨_, rfl, ?_⟩
        refine ex_if_neN (tgt := 51) dX10_action_46 (by decide) (by omega) (fun h46 => by exact absurd h46 (by decide)) (fun h46 => ?_)
        refine ex_iconst (v := nI 0) dX10_action_49 (by decide) ?_
        refine ex_iret dX10_action_50 rfl rfl ?_
        exact hX1 (by decide) (Or.inr hk) _ ((Fm.rf.F (by decide)).F (by decide)) (cd_at2 _ _ _)
    · have eI : inX x (nI 0) (nI S - nI 1) = 0 := inX_0 (by omega) hs
      refine ex_aload_n (i := 0) dX10_action_0 rfl rfl ?_
      refine ex_aload_n (i := 0) dX10_action_1 rfl rfl ?_
      refine ex_getI dX10_action_2 fl_Model_148 rfl rfl (by decide) ?_
      refine ex_asN (a := 1) h9 ?_
      refine ex_iconst (v := nI 1) dX10_action_5 (by decide) ?_
      refine ex_cV (ν := m_Model_good) (a := 56) (ci := 10) (as := [.int (nI (1)), .int (nI (1))]) dX10_action_6 ln_Model_141 mf_Model_good rfl (Nat.le_of_ble_eq_true rfl) rfl rfl np_Model_good rfl rfl ⟨(Nat.le_of_ble_eq_true rfl), (Nat.le_of_ble_eq_true rfl), (Nat.le_of_ble_eq_true rfl), (Nat.le_of_ble_eq_true rfl)⟩ (by decide) ?_
      refine sp_Model_good (b := 1) (by decide) ?_
      refine ⟨_, rfl, ?_⟩
      refine ex_if_eqN (tgt := 49) dX10_action_9 (by decide) (by omega) (fun h9 => by exact absurd h9 (by decide)) (fun h9 => ?_)
      refine ex_aload_n (i := 0) dX10_action_12 rfl rfl ?_
      refine ex_iload_n (i := 1) dX10_action_13 rfl rfl ?_
      refine ex_iconst (v := nI 0) dX10_action_14 (by decide) ?_
      refine ex_aload_n (i := 0) dX10_action_15 rfl rfl ?_
      refine ex_getI dX10_action_16 fl_Model_170 rfl rfl (by decide) ?_
      refine ex_asI (y := nI S) (e11 _) ?_
      refine ex_iconst (v := nI 1) dX10_action_19 (by decide) ?_
      refine ex_isub dX10_action_20 ?_
      refine ex_cS (ν := m_Model_in) (as := [.int (x), .int (nI (0)), .int ((nI S) - (nI (1)))]) dX10_action_21 ln_Model_127 mf_Model_in np_Model_in rfl rfl ⟨(Nat.le_of_ble_eq_true rfl), (Nat.le_of_ble_eq_true rfl), (Nat.le_of_ble_eq_true rfl), (Nat.le_of_ble_eq_true rfl)⟩ (by decide) ?_
      refine sp_Model_in ?_
      refine ⟨_, rfl, ?_⟩
      refine ex_asN (a := 0) (by rw [eI]) ?_
      refine ex_if_eqN (tgt := 41) dX10_action_24 (by decide) (by omega) (fun h24 => ?_) (fun h24 => by exact absurd h24 (by decide))
      refine ex_iconst (v := nI 0) dX10_action_41 (by decide) ?_
      refine ex_iconst (v := nI 2) dX10_action_42 (by decide) ?_
      refine ex_cV (ν := m_Model_good) (a := 56) (ci := 10) (as := [.int (nI (0)), .int (nI (2))]) dX10_action_43 ln_Model_141 mf_Model_good rfl (Nat.le_of_ble_eq_true rfl) rfl rfl np_Model_good rfl rfl ⟨(Nat.le_of_ble_eq_true rfl), (Nat.le_of_ble_eq_true rfl), (Nat.le_of_ble_eq_true rfl), (Nat.le_of_ble_eq_true rfl)⟩ (by decide) ?_
      refine sp_Model_good (b := 0) (by decide) ?_
      refine ⟨_, rfl, ?_⟩
      refine ex_if_neN (tgt := 51) dX10_action_46 (by decide) (by omega) (fun h46 => by exact absurd h46 (by decide)) (fun h46 => ?_)
      refine ex_iconst (v := nI 0) dX10_action_49 (by decide) ?_
      refine ex_iret dX10_action_50 rfl rfl ?_
      exact hX1 (by decide) (Or.inl hs) _ ((Fm.rf.F (by decide)).F (by decide)) (cd_at2 _ _ _)
/-- E: which items are there -/
theorem sp_Model_lookaheads {x y : Int32} {b S : Nat} {E : Nat → Nat} (rg : RG i n sy) (h9 : i 56 9 = nI b) (hb : b ≤ 1) (h11 : i 56 11 = nI S) (hS : S ≤ 50) (hE : b = 1 → ∀ s r, s < S → r < n → i 65 (75 * s + 5 * r + lnR sy r) = nI (E (75 * s + 5 * r + lnR sy r)) ∧ E (75 * s + 5 * r + lnR sy r) < 2)
    (hX0 : b = 0 → ∀ i1, Fm [] [45] i i1 → i1 56 45 = nI 1 → Q (.ok (some (.int (nI 0)))) (94, g, i1, q, RT t)) (hX1 : ¬ b = 0 → (¬ ∃ s, x = nI s ∧ s < S) → ∀ i1, Fm [] [45] i i1 → i1 56 45 = nI 2 → Q (.ok (some (.int (nI 0)))) (94, g, i1, q, RT t))
    (hX2 : ∀ s, ¬ b = 0 → x = nI s → s < S → (¬ ∃ r, y = nI r ∧ r < n) → ∀ i1, Fm [] [45] i i1 → i1 56 45 = nI 3 → Q (.ok (some (.int (nI 0)))) (94, g, i1, q, RT t))
    (hX3 : ∀ s r, ¬ b = 0 → x = nI s → s < S → y = nI r → r < n → E (75 * s + 5 * r + lnR sy r) = 0 → ∀ i1, Fm [] [45] i i1 → i1 56 45 = nI 3 → Q (.ok (some (.int (nI 0)))) (94, g, i1, q, RT t))
    (hQ : ∀ s r, ¬ b = 0 → x = nI s → s < S → y = nI r → r < n → ¬ E (75 * s + 5 * r + lnR sy r) = 0 → ∀ i1, Fm [] [45] i i1 → i1 56 45 = nI 0 → Q (.ok (some (.int (i 72 (14 * s + r))))) (94, g, i1, q, RT t)) : Wx m_Model_lookaheads 0 [some (.ref 56), some (.int x), some (.int y)] [] (94, g, i, q, RT t) (0, 0) Q := by
  have hn14 := rg.2.2.2.2.1
  by_cases b0 : b = 0
  · subst b0
    refine ex_aload_n (i := 0) dX10_lookaheads_0 rfl rfl ?_
    refine ex_aload_n (i := 0) dX10_lookaheads_1 rfl rfl ?_
    refine ex_getI dX10_lookaheads_2 fl_Model_148 rfl rfl (by decide) ?_
    refine ex_asN (a := 0) h9 ?_
    refine ex_iconst (v := nI 1) dX10_lookaheads_5 (by decide) ?_
    refine ex_cV (ν := m_Model_good) (a := 56) (ci := 10) (as := [.int (nI (0)), .int (nI (1))]) dX10_lookaheads_6 ln_Model_141 mf_Model_good rfl (Nat.le_of_ble_eq_true rfl) rfl rfl np_Model_good rfl rfl ⟨(Nat.le_of_ble_eq_true rfl), (Nat.le_of_ble_eq_true rfl), (Nat.le_of_ble_eq_true rfl), (Nat.le_of_ble_eq_true rfl)⟩ (by decide) ?_
    refine sp_Model_good (b := 0) (by decide) ?_
    refine ⟨_, rfl, ?_⟩
    refine ex_if_eqN (tgt := 31) dX10_lookaheads_9 (by decide) (by omega) (fun h9 => ?_) (fun h9 => by exact absurd h9 (by decide))
    refine ex_iconst (v := nI 0) dX10_lookaheads_31 (by decide) ?_
    refine ex_iret dX10_lookaheads_32 rfl rfl ?_
    exact hX0 rfl _ (Fm.rf.F (by decide)) (cd_at _ _)
  · have b1 : b = 1 := by omega
    subst b1
    have hE := hE rfl
    have e11 : ∀ v, xU i 56 45 v 56 11 = nI S := fun v => by rw [cd_ne _ _ (by decide)]; exact h11
    have e3 : ∀ v w, xU (xU i 56 45 v) 56 45 w 56 3 = nI n := fun v w => by rw [cd_ne _ _ (by decide), cd_ne _ _ (by decide)]; exact rg.1
    by_cases hs : ∃ s, x = nI s ∧ s < S
    · obtain ⟨s, rfl, hs2⟩ := hs
      have eI : inX (nI s) (nI 0) (nI S - nI 1) = 1 := inX_1 (by omega) ⟨s, rfl, hs2⟩
      by_cases hr : ∃ r, y = nI r ∧ r < n
      · obtain ⟨r, rfl, hr2⟩ := hr
        have eR : inX (nI r) (nI 0) (nI n - nI 1) = 1 := inX_1 (by omega) ⟨r, rfl, hr2⟩
        have hl := lnR_le sy r
        have e59 : ∀ v w, xU (xU i 56 45 v) 56 45 w 59 r = nI (lnR sy r) := fun v w => by rw [xU_ne _ _ _ (show (59 : Nat) ≠ 56 by decide), xU_ne _ _ _ (show (59 : Nat) ≠ 56 by decide)]; exact rg.2.2.2.1 r hr2
        have e65 : ∀ v w, xU (xU i 56 45 v) 56 45 w 65 (75 * s + 5 * r + lnR sy r) = nI (E (75 * s + 5 * r + lnR sy r)) := fun v w => by rw [xU_ne _ _ _ (show (65 : Nat) ≠ 56 by decide), xU_ne _ _ _ (show (65 : Nat) ≠ 56 by decide)]; exact (hE s r hs2 hr2).1
        have hE2 := (hE s r hs2 hr2).2
        by_cases hz : E (75 * s + 5 * r + lnR sy r) = 0
        ·
          refine ex_aload_n (i := 0) dX10_lookaheads_0 rfl rfl ?_
          refine ex_aload_n (i := 0) dX10_lookaheads_1 rfl rfl ?_
          refine ex_getI dX10_lookaheads_2 fl_Model_148 rfl rfl (by decide) ?_
          refine ex_asN (a := 1) h9 ?_
          refine ex_iconst (v := nI 1) dX10_lookaheads_5 (by decide) ?_
          refine ex_cV (ν := m_Model_good) (a := 56) (ci := 10) (as := [.int (nI (1)), .int (nI (1))]) dX10_lookaheads_6 ln_Model_141 mf_Model_good rfl (Nat.le_of_ble_eq_true rfl) rfl rfl np_Model_good rfl rfl ⟨(Nat.le_of_ble_eq_true rfl), (Nat.le_of_ble_eq_true rfl), (Nat.le_of_ble_eq_true rfl), (Nat.le_of_ble_eq_true rfl)⟩ (by decide) ?_
          refine sp_Model_good (b := 1) (by decide) ?_
          refine ⟨_, rfl, ?_⟩
          refine ex_if_eqN (tgt := 31) dX10_lookaheads_9 (by decide) (by omega) (fun h9 => by exact absurd h9 (by decide)) (fun h9 => ?_)
          refine ex_aload_n (i := 0) dX10_lookaheads_12 rfl rfl ?_
          refine ex_iload_n (i := 1) dX10_lookaheads_13 rfl rfl ?_
          refine ex_iconst (v := nI 0) dX10_lookaheads_14 (by decide) ?_
          refine ex_aload_n (i := 0) dX10_lookaheads_15 rfl rfl ?_
          refine ex_getI dX10_lookaheads_16 fl_Model_170 rfl rfl (by decide) ?_
          refine ex_asI (y := nI S) (e11 _) ?_
          refine ex_iconst (v := nI 1) dX10_lookaheads_19 (by decide) ?_
          refine ex_isub dX10_lookaheads_20 ?_
          refine ex_cS (ν := m_Model_in) (as := [.int (nI (s)), .int (nI (0)), .int ((nI S) - (nI (1)))]) dX10_lookaheads_21 ln_Model_127 mf_Model_in np_Model_in rfl rfl ⟨(Nat.le_of_ble_eq_true rfl), (Nat.le_of_ble_eq_true rfl), (Nat.le_of_ble_eq_true rfl), (Nat.le_of_ble_eq_true rfl)⟩ (by decide) ?_
          refine sp_Model_in ?_
          refine ⟨_, rfl, ?_⟩
          refine ex_asN (a := 1) (by rw [eI]) ?_
          refine ex_iconst (v := nI 2) dX10_lookaheads_24 (by decide) ?_
          refine ex_cV (ν := m_Model_good) (a := 56) (ci := 10) (as := [.int (nI (1)), .int (nI (2))]) dX10_lookaheads_25 ln_Model_141 mf_Model_good rfl (Nat.le_of_ble_eq_true rfl) rfl rfl np_Model_good rfl rfl ⟨(Nat.le_of_ble_eq_true rfl), (Nat.le_of_ble_eq_true rfl), (Nat.le_of_ble_eq_true rfl), (Nat.le_of_ble_eq_true rfl)⟩ (by decide) ?_
          refine sp_Model_good (b := 1) (by decide) ?_
          refine ⟨_, rfl, ?_⟩
          refine ex_if_neN (tgt := 33) dX10_lookaheads_28 (by decide) (by omega) (fun h28 => ?_) (fun h28 => by exact absurd h28 (by decide))
          refine ex_aload_n (i := 0) dX10_lookaheads_33 rfl rfl ?_
          refine ex_iload_n (i := 2) dX10_lookaheads_34 rfl rfl ?_
          refine ex_iconst (v := nI 0) dX10_lookaheads_35 (by decide) ?_
          refine ex_aload_n (i := 0) dX10_lookaheads_36 rfl rfl ?_
          refine ex_getI dX10_lookaheads_37 fl_Model_145 rfl rfl (by decide) ?_
          refine ex_asI (y := nI n) (e3 _ _) ?_
          refine ex_iconst (v := nI 1) dX10_lookaheads_40 (by decide) ?_
          refine ex_isub dX10_lookaheads_41 ?_
          refine ex_cS (ν := m_Model_in) (as := [.int (nI (r)), .int (nI (0)), .int ((nI n) - (nI (1)))]) dX10_lookaheads_42 ln_Model_127 mf_Model_in np_Model_in rfl rfl ⟨(Nat.le_of_ble_eq_true rfl), (Nat.le_of_ble_eq_true rfl), (Nat.le_of_ble_eq_true rfl), (Nat.le_of_ble_eq_true rfl)⟩ (by decide) ?_
          refine sp_Model_in ?_
          refine ⟨_, rfl, ?_⟩
          refine ex_asN (a := 1) (by rw [eR]) ?_
          refine ex_if_eqN (tgt := 75) dX10_lookaheads_45 (by decide) (by omega) (fun h45 => by exact absurd h45 (by decide)) (fun h45 => ?_)
          refine ex_aload_n (i := 0) dX10_lookaheads_48 rfl rfl ?_
          refine ex_getR (v := .ref (65)) dX10_lookaheads_49 fl_Model_34 rfl rfl (by decide) rfl ?_
          refine ex_bipush (v := nI 75) dX10_lookaheads_52 (by decide) ?_
          refine ex_iload_n (i := 1) dX10_lookaheads_54 rfl rfl ?_
          refine ex_imulN dX10_lookaheads_55 ?_
          refine ex_iconst (v := nI 5) dX10_lookaheads_56 (by decide) ?_
          refine ex_iload_n (i := 2) dX10_lookaheads_57 rfl rfl ?_
          refine ex_imulN dX10_lookaheads_58 ?_
          refine ex_iaddN dX10_lookaheads_59 ?_
          refine ex_aload_n (i := 0) dX10_lookaheads_60 rfl rfl ?_
          refine ex_getR (v := .ref (59)) dX10_lookaheads_61 fl_Model_16 rfl rfl (by decide) rfl ?_
          refine ex_iload_n (i := 2) dX10_lookaheads_64 rfl rfl ?_
          refine ex_ialdN dX10_lookaheads_65 rfl (by decide) (by omega) rfl ?_
          refine ex_asN (a := lnR sy r) (e59 _ _) ?_
          refine ex_iaddN dX10_lookaheads_66 ?_
          refine ex_baldN dX10_lookaheads_67 rfl (by decide) (by omega) rfl ?_
          refine ex_asN (a := E (75 * s + 5 * r + lnR sy r)) (e65 _ _) ?_
          refine ex_if_eqN (tgt := 75) dX10_lookaheads_68 (by decide) (by omega) (fun h68 => ?_) (fun h68 => by exact absurd hz h68)
          refine ex_iconst (v := nI 0) dX10_lookaheads_75 (by decide) ?_
          refine ex_iconst (v := nI 3) dX10_lookaheads_76 (by decide) ?_
          refine ex_cV (ν := m_Model_good) (a := 56) (ci := 10) (as := [.int (nI (0)), .int (nI (3))]) dX10_lookaheads_77 ln_Model_141 mf_Model_good rfl (Nat.le_of_ble_eq_true rfl) rfl rfl np_Model_good rfl rfl ⟨(Nat.le_of_ble_eq_true rfl), (Nat.le_of_ble_eq_true rfl), (Nat.le_of_ble_eq_true rfl), (Nat.le_of_ble_eq_true rfl)⟩ (by decide) ?_
          refine sp_Model_good (b := 0) (by decide) ?_
          refine ⟨_, rfl, ?_⟩
          refine ex_if_neN (tgt := 85) dX10_lookaheads_80 (by decide) (by omega) (fun h80 => by exact absurd h80 (by decide)) (fun h80 => ?_)
          refine ex_iconst (v := nI 0) dX10_lookaheads_83 (by decide) ?_
          refine ex_iret dX10_lookaheads_84 rfl rfl ?_
          exact hX3 s r (by decide) rfl hs2 rfl hr2 hz _ (((Fm.rf.F (by decide)).F (by decide)).F (by decide)) (cd_at2 _ _ _)
        ·
          refine ex_aload_n (i := 0) dX10_lookaheads_0 rfl rfl ?_
          refine ex_aload_n (i := 0) dX10_lookaheads_1 rfl rfl ?_
          refine ex_getI dX10_lookaheads_2 fl_Model_148 rfl rfl (by decide) ?_
          refine ex_asN (a := 1) h9 ?_
          refine ex_iconst (v := nI 1) dX10_lookaheads_5 (by decide) ?_
          refine ex_cV (ν := m_Model_good) (a := 56) (ci := 10) (as := [.int (nI (1)), .int (nI (1))]) dX10_lookaheads_6 ln_Model_141 mf_Model_good rfl (Nat.le_of_ble_eq_true rfl) rfl rfl np_Model_good rfl rfl ⟨(Nat.le_of_ble_eq_true rfl), (Nat.le_of_ble_eq_true rfl), (Nat.le_of_ble_eq_true rfl), (Nat.le_of_ble_eq_true rfl)⟩ (by decide) ?_
          refine sp_Model_good (b := 1) (by decide) ?_
          refine ⟨_, rfl, ?_⟩
          refine ex_if_eqN (tgt := 31) dX10_lookaheads_9 (by decide) (by omega) (fun h9 => by exact absurd h9 (by decide)) (fun h9 => ?_)
          refine ex_aload_n (i := 0) dX10_lookaheads_12 rfl rfl ?_
          refine ex_iload_n (i := 1) dX10_lookaheads_13 rfl rfl ?_
          refine ex_iconst (v := nI 0) dX10_lookaheads_14 (by decide) ?_
          refine ex_aload_n (i := 0) dX10_lookaheads_15 rfl rfl ?_
          refine ex_getI dX10_lookaheads_16 fl_Model_170 rfl rfl (by decide) ?_
          refine ex_asI (y := nI S) (e11 _) ?_
          refine ex_iconst (v := nI 1) dX10_lookaheads_19 (by decide) ?_
          refine ex_isub dX10_lookaheads_20 ?_
          refine ex_cS (ν := m_Model_in) (as := [.int (nI (s)), .int (nI (0)), .int ((nI S) - (nI (1)))]) dX10_lookaheads_21 ln_Model_127 mf_Model_in np_Model_in rfl rfl ⟨(Nat.le_of_ble_eq_true rfl), (Nat.le_of_ble_eq_true rfl), (Nat.le_of_ble_eq_true rfl), (Nat.le_of_ble_eq_true rfl)⟩ (by decide) ?_
          refine sp_Model_in ?_
          refine ⟨_, rfl, ?_⟩
          refine ex_asN (a := 1) (by rw [eI]) ?_
          refine ex_iconst (v := nI 2) dX10_lookaheads_24 (by decide) ?_
          refine ex_cV (ν := m_Model_good) (a := 56) (ci := 10) (as := [.int (nI (1)), .int (nI (2))]) dX10_lookaheads_25 ln_Model_141 mf_Model_good rfl (Nat.le_of_ble_eq_true rfl) rfl rfl np_Model_good rfl rfl ⟨(Nat.le_of_ble_eq_true rfl), (Nat.le_of_ble_eq_true rfl), (Nat.le_of_ble_eq_true rfl), (Nat.le_of_ble_eq_true rfl)⟩ (by decide) ?_
          refine sp_Model_good (b := 1) (by decide) ?_
          refine ⟨_, rfl, ?_⟩
          refine ex_if_neN (tgt := 33) dX10_lookaheads_28 (by decide) (by omega) (fun h28 => ?_) (fun h28 => by exact absurd h28 (by decide))
          refine ex_aload_n (i := 0) dX10_lookaheads_33 rfl rfl ?_
          refine ex_iload_n (i := 2) dX10_lookaheads_34 rfl rfl ?_
          refine ex_iconst (v := nI 0) dX10_lookaheads_35 (by decide) ?_
          refine ex_aload_n (i := 0) dX10_lookaheads_36 rfl rfl ?_
          refine ex_getI dX10_lookaheads_37 fl_Model_145 rfl rfl (by decide) ?_
          refine ex_asI (y := nI n) (e3 _ _) ?_
          refine ex_iconst (v := nI 1) dX10_lookaheads_40 (by decide) ?_
          refine ex_isub dX10_lookaheads_41 ?_
          refine ex_cS (ν := m_Model_in) (as := [.int (nI (r)), .int (nI (0)), .int ((nI n) - (nI (1)))]) dX10_lookaheads_42 ln_Model_127 mf_Model_in np_Model_in rfl rfl ⟨(Nat.le_of_ble_eq_true rfl), (Nat.le_of_ble_eq_true rfl), (Nat.le_of_ble_eq_true rfl), (Nat.le_of_ble_eq_true rfl)⟩ (by decide) ?_
          refine sp_Model_in ?_
          refine ⟨_, rfl, ?_⟩
          refine ex_asN (a := 1) (by rw [eR]) ?_
          refine ex_if_eqN (tgt := 75) dX10_lookaheads_45 (by decide) (by omega) (fun h45 => by exact absurd h45 (by decide)) (fun h45 => ?_)
          refine ex_aload_n (i := 0) dX10_lookaheads_48 rfl rfl ?_
          refine ex_getR (v := .ref (65)) dX10_lookaheads_49 fl_Model_34 rfl rfl (by decide) rfl ?_
          refine ex_bipush (v := nI 75) dX10_lookaheads_52 (by decide) ?_
          refine ex_iload_n (i := 1) dX10_lookaheads_54 rfl rfl ?_
          refine ex_imulN dX10_lookaheads_55 ?_
          refine ex_iconst (v := nI 5) dX10_lookaheads_56 (by decide) ?_
          refine ex_iload_n (i := 2) dX10_lookaheads_57 rfl rfl ?_
          refine ex_imulN dX10_lookaheads_58 ?_
          refine ex_iaddN dX10_lookaheads_59 ?_
          refine ex_aload_n (i := 0) dX10_lookaheads_60 rfl rfl ?_
          refine ex_getR (v := .ref (59)) dX10_lookaheads_61 fl_Model_16 rfl rfl (by decide) rfl ?_
          refine ex_iload_n (i := 2) dX10_lookaheads_64 rfl rfl ?_
          refine ex_ialdN dX10_lookaheads_65 rfl (by decide) (by omega) rfl ?_
          refine ex_asN (a := lnR sy r) (e59 _ _) ?_
          refine ex_iaddN dX10_lookaheads_66 ?_
          refine ex_baldN dX10_lookaheads_67 rfl (by decide) (by omega) rfl ?_
          refine ex_asN (a := E (75 * s + 5 * r + lnR sy r)) (e65 _ _) ?_
          refine ex_if_eqN (tgt := 75) dX10_lookaheads_68 (by decide) (by omega) (fun h68 => by exact absurd h68 hz) (fun h68 => ?_)
          refine ex_iconst (v := nI 1) dX10_lookaheads_71 (by decide) ?_
          refine ex_goto (tgt := 76) dX10_lookaheads_72 (by decide) ?_
          refine ex_iconst (v := nI 3) dX10_lookaheads_76 (by decide) ?_
          refine ex_cV (ν := m_Model_good) (a := 56) (ci := 10) (as := [.int (nI (1)), .int (nI (3))]) dX10_lookaheads_77 ln_Model_141 mf_Model_good rfl (Nat.le_of_ble_eq_true rfl) rfl rfl np_Model_good rfl rfl ⟨(Nat.le_of_ble_eq_true rfl), (Nat.le_of_ble_eq_true rfl), (Nat.le_of_ble_eq_true rfl), (Nat.le_of_ble_eq_true rfl)⟩ (by decide) ?_
          refine sp_Model_good (b := 1) (by decide) ?_
          refine ⟨_, rfl, ?_⟩
          refine ex_if_neN (tgt := 85) dX10_lookaheads_80 (by decide) (by omega) (fun h80 => ?_) (fun h80 => by exact absurd h80 (by decide))
          refine ex_aload_n (i := 0) dX10_lookaheads_85 rfl rfl ?_
          refine ex_getR (v := .ref (72)) dX10_lookaheads_86 fl_Model_56 rfl rfl (by decide) rfl ?_
          refine ex_bipush (v := nI 14) dX10_lookaheads_89 (by decide) ?_
          refine ex_iload_n (i := 1) dX10_lookaheads_91 rfl rfl ?_
          refine ex_imulN dX10_lookaheads_92 ?_
          refine ex_iload_n (i := 2) dX10_lookaheads_93 rfl rfl ?_
          refine ex_iaddN dX10_lookaheads_94 ?_
          refine ex_ialdN dX10_lookaheads_95 rfl (by decide) (by omega) rfl ?_
          refine ex_iret dX10_lookaheads_96 rfl rfl ?_
          exact hQ s r (by decide) rfl hs2 rfl hr2 hz _ (((Fm.rf.F (by decide)).F (by decide)).F (by decide)) (cd_at2 _ _ _)
      · have eR : inX y (nI 0) (nI n - nI 1) = 0 := inX_0 (by omega) hr
        refine ex_aload_n (i := 0) dX10_lookaheads_0 rfl rfl ?_
        refine ex_aload_n (i := 0) dX10_lookaheads_1 rfl rfl ?_
        refine ex_getI dX10_lookaheads_2 fl_Model_148 rfl rfl (by decide) ?_
        refine ex_asN (a := 1) h9 ?_
        refine ex_iconst (v := nI 1) dX10_lookaheads_5 (by decide) ?_
        refine ex_cV (ν := m_Model_good) (a := 56) (ci := 10) (as := [.int (nI (1)), .int (nI (1))]) dX10_lookaheads_6 ln_Model_141 mf_Model_good rfl (Nat.le_of_ble_eq_true rfl) rfl rfl np_Model_good rfl rfl ⟨(Nat.le_of_ble_eq_true rfl), (Nat.le_of_ble_eq_true rfl), (Nat.le_of_ble_eq_true rfl), (Nat.le_of_ble_eq_true rfl)⟩ (by decide) ?_
        refine sp_Model_good (b := 1) (by decide) ?_
        refine ⟨_, rfl, ?_⟩
        refine ex_if_eqN (tgt := 31) dX10_lookaheads_9 (by decide) (by omega) (fun h9 => by exact absurd h9 (by decide)) (fun h9 => ?_)
        refine ex_aload_n (i := 0) dX10_lookaheads_12 rfl rfl ?_
        refine ex_iload_n (i := 1) dX10_lookaheads_13 rfl rfl ?_
        refine ex_iconst (v := nI 0) dX10_lookaheads_14 (by decide) ?_
        refine ex_aload_n (i := 0) dX10_lookaheads_15 rfl rfl ?_
        refine ex_getI dX10_lookaheads_16 fl_Model_170 rfl rfl (by decide) ?_
        refine ex_asI (y := nI S) (e11 _) ?_
        refine ex_iconst (v := nI 1) dX10_lookaheads_19 (by decide) ?_
        refine ex_isub dX10_lookaheads_20 ?_
        refine ex_cS (ν := m_Model_in) (as := [.int (nI (s)), .int (nI (0)), .int ((nI S) - (nI (1)))]) dX10_lookaheads_21 ln_Model_127 mf_Model_in np_Model_in rfl rfl ⟨(Nat.le_of_ble_eq_true rfl), (Nat.le_of_ble_eq_true rfl), (Nat.le_of_ble_eq_true rfl), (Nat.le_of_ble_eq_true rfl)⟩ (by decide) ?_
        refine sp_Model_in ?_
        refine ⟨_, rfl, ?_⟩
        refine ex_asN (a := 1) (by rw [eI]) ?_
        refine ex_iconst (v := nI 2) dX10_lookaheads_24 (by decide) ?_
        refine ex_cV (ν := m_Model_good) (a := 56) (ci := 10) (as := [.int (nI (1)), .int (nI (2))]) dX10_lookaheads_25 ln_Model_141 mf_Model_good rfl (Nat.le_of_ble_eq_true rfl) rfl rfl np_Model_good rfl rfl ⟨(Nat.le_of_ble_eq_true rfl), (Nat.le_of_ble_eq_true rfl), (Nat.le_of_ble_eq_true rfl), (Nat.le_of_ble_eq_true rfl)⟩ (by decide) ?_
        refine sp_Model_good (b := 1) (by decide) ?_
        refine ⟨_, rfl, ?_⟩
        refine ex_if_neN (tgt := 33) dX10_lookaheads_28 (by decide) (by omega) (fun h28 => ?_) (fun h28 => by exact absurd h28 (by decide))
        refine ex_aload_n (i := 0) dX10_lookaheads_33 rfl rfl ?_
        refine ex_iload_n (i := 2) dX10_lookaheads_34 rfl rfl ?_
        refine ex_iconst (v := nI 0) dX10_lookaheads_35 (by decide) ?_
        refine ex_aload_n (i := 0) dX10_lookaheads_36 rfl rfl ?_
        refine ex_getI dX10_lookaheads_37 fl_Model_145 rfl rfl (by decide) ?_
        refine ex_asI (y := nI n) (e3 _ _) ?_
        refine ex_iconst (v := nI 1) dX10_lookaheads_40 (by decide) ?_
        refine ex_isub dX10_lookaheads_41 ?_
        refine ex_cS (ν := m_Model_in) (as := [.int (y), .int (nI (0)), .int ((nI n) - (nI (1)))]) dX10_lookaheads_42 ln_Model_127 mf_Model_in np_Model_in rfl rfl ⟨(Nat.le_of_ble_eq_true rfl), (Nat.le_of_ble_eq_true rfl), (Nat.le_of_ble_eq_true rfl), (Nat.le_of_ble_eq_true rfl)⟩ (by decide) ?_
        refine sp_Model_in ?_
        refine ⟨_, rfl, ?_⟩
        refine ex_asN (a := 0) (by rw [eR]) ?_
        refine ex_if_eqN (tgt := 75) dX10_lookaheads_45 (by decide) (by omega) (fun h45 => ?_) (fun h45 => by exact absurd h45 (by decide))
        refine ex_iconst (v := nI 0) dX10_lookaheads_75 (by decide) ?_
        refine ex_iconst (v := nI 3) dX10_lookaheads_76 (by decide) ?_
        refine ex_cV (ν := m_Model_good) (a := 56) (ci := 10) (as := [.int (nI (0)), .int (nI (3))]) dX10_lookaheads_77 ln_Model_141 mf_Model_good rfl (Nat.le_of_ble_eq_true rfl) rfl rfl np_Model_good rfl rfl ⟨(Nat.le_of_ble_eq_true rfl), (Nat.le_of_ble_eq_true rfl), (Nat.le_of_ble_eq_true rfl), (Nat.le_of_ble_eq_true rfl)⟩ (by decide) ?_
        refine sp_Model_good (b := 0) (by decide) ?_
        refine ⟨_, rfl, ?_⟩
        refine ex_if_neN (tgt := 85) dX10_lookaheads_80 (by decide) (by omega) (fun h80 => by exact absurd h80 (by decide)) (fun h80 => ?_)
        refine ex_iconst (v := nI 0) dX10_lookaheads_83 (by decide) ?_
        refine ex_iret dX10_lookaheads_84 rfl rfl ?_
        exact hX2 s (by decide) rfl hs2 hr _ (((Fm.rf.F (by decide)).F (by decide)).F (by decide)) (cd_at2 _ _ _)
    · have eI : inX x (nI 0) (nI S - nI 1) = 0 := inX_0 (by omega) hs
      refine ex_aload_n (i := 0) dX10_lookaheads_0 rfl rfl ?_
      refine ex_aload_n (i := 0) dX10_lookaheads_1 rfl rfl ?_
      refine ex_getI dX10_lookaheads_2 fl_Model_148 rfl rfl (by decide) ?_
      refine ex_asN (a := 1) h9 ?_
      refine ex_iconst (v := nI 1) dX10_lookaheads_5 (by decide) ?_
      refine ex_cV (ν := m_Model_good) (a := 56) (ci := 10) (as := [.int (nI (1)), .int (nI (1))]) dX10_lookaheads_6 ln_Model_141 mf_Model_good rfl (Nat.le_of_ble_eq_true rfl) rfl rfl np_Model_good rfl rfl ⟨(Nat.le_of_ble_eq_true rfl), (Nat.le_of_ble_eq_true rfl), (Nat.le_of_ble_eq_true rfl), (Nat.le_of_ble_eq_true rfl)⟩ (by decide) ?_
      refine sp_Model_good (b := 1) (by decide) ?_
      refine ⟨_, rfl, ?_⟩
      refine ex_if_eqN (tgt := 31) dX10_lookaheads_9 (by decide) (by omega) (fun h9 => by exact absurd h9 (by decide)) (fun h9 => ?_)
      refine ex_aload_n (i := 0) dX10_lookaheads_12 rfl rfl ?_
      refine ex_iload_n (i := 1) dX10_lookaheads_13 rfl rfl ?_
      refine ex_iconst (v := nI 0) dX10_lookaheads_14 (by decide) ?_
      refine ex_aload_n (i := 0) dX10_lookaheads_15 rfl rfl ?_
      refine ex_getI dX10_lookaheads_16 fl_Model_170 rfl rfl (by decide) ?_
      refine ex_asI (y := nI S) (e11 _) ?_
      refine ex_iconst (v := nI 1) dX10_lookaheads_19 (by decide) ?_
      refine ex_isub dX10_lookaheads_20 ?_
      refine ex_cS (ν := m_Model_in) (as := [.int (x), .int (nI (0)), .int ((nI S) - (nI (1)))]) dX10_lookaheads_21 ln_Model_127 mf_Model_in np_Model_in rfl rfl ⟨(Nat.le_of_ble_eq_true rfl), (Nat.le_of_ble_eq_true rfl), (Nat.le_of_ble_eq_true rfl), (Nat.le_of_ble_eq_true rfl)⟩ (by decide) ?_
      refine sp_Model_in ?_
      refine ⟨_, rfl, ?_⟩
      refine ex_asN (a := 0) (by rw [eI]) ?_
      refine ex_iconst (v := nI 2) dX10_lookaheads_24 (by decide) ?_
      refine ex_cV (ν := m_Model_good) (a := 56) (ci := 10) (as := [.int (nI (0)), .int (nI (2))]) dX10_lookaheads_25 ln_Model_141 mf_Model_good rfl (Nat.le_of_ble_eq_true rfl) rfl rfl np_Model_good rfl rfl ⟨(Nat.le_of_ble_eq_true rfl), (Nat.le_of_ble_eq_true rfl), (Nat.le_of_ble_eq_true rfl), (Nat.le_of_ble_eq_true rfl)⟩ (by decide) ?_
      refine sp_Model_good (b := 0) (by decide) ?_
      refine ⟨_, rfl, ?_⟩
      refine ex_if_neN (tgt := 33) dX10_lookaheads_28 (by decide) (by omega) (fun h28 => by exact absurd h28 (by decide)) (fun h28 => ?_)
      refine ex_iconst (v := nI 0) dX10_lookaheads_31 (by decide) ?_
      refine ex_iret dX10_lookaheads_32 rfl rfl ?_
      exact hX1 (by decide) hs _ ((Fm.rf.F (by decide)).F (by decide)) (cd_at2 _ _ _)
theorem sp_Model_node {x y : Int32} {a : Nat} (h43 : i 56 43 = nI a) (ha : a ≤ 150) (hX0 : (¬ ∃ s, x = nI s ∧ s < a) → ∀ i1, Fm [] [45] i i1 → i1 56 45 = nI 1 → Q (.ok (some (.int (nI 0)))) (94, g, i1, q, RT t)) (hX1 : ∀ s, x = nI s → s < a → (¬ ∃ k, y = nI k ∧ k < 4) → ∀ i1, Fm [] [45] i i1 → i1 56 45 = nI 2 → Q (.ok (some (.int (nI 0)))) (94, g, i1, q, RT t))
    (hQ : ∀ s k, x = nI s → s < a → y = nI k → k < 4 → ∀ i1, Fm [] [45] i i1 → i1 56 45 = nI 0 → Q (.ok (some (.int (i (86 + k) s)))) (94, g, i1, q, RT t)) : Wx m_Model_node 0 [some (.ref 56), some (.int x), some (.int y)] [] (94, g, i, q, RT t) (0, 0) Q := by
  by_cases hs : ∃ s, x = nI s ∧ s < a
  · obtain ⟨s, rfl, hs2⟩ := hs
    have eI : inX (nI s) (nI 0) (nI a - nI 1) = 1 := inX_1 (by omega) ⟨s, rfl, hs2⟩
    by_cases hk : ∃ k, y = nI k ∧ k < 4
    · have eK : inX y (nI 0) (nI 3) = 1 := inX_c1 (by decide) hk
      obtain ⟨k, rfl, k1⟩ := hk
      rcases (show k = 0 ∨ k = 1 ∨ k = 2 ∨ k = 3 by omega) with rfl | rfl | rfl | rfl
      ·
        refine ex_aload_n (i := 0) dX10_node_0 rfl rfl ?_
        refine ex_iload_n (i := 1) dX10_node_1 rfl rfl ?_
        refine ex_iconst (v := nI 0) dX10_node_2 (by decide) ?_
        refine ex_aload_n (i := 0) dX10_node_3 rfl rfl ?_
        refine ex_getI dX10_node_4 fl_Model_234 rfl rfl (by decide) ?_
        refine ex_asI (y := nI a) h43 ?_
        refine ex_iconst (v := nI 1) dX10_node_7 (by decide) ?_
        refine ex_isub dX10_node_8 ?_
        refine ex_cS (ν := m_Model_in) (as := [.int (nI (s)), .int (nI (0)), .int ((nI a) - (nI (1)))]) dX10_node_9 ln_Model_127 mf_Model_in np_Model_in rfl rfl ⟨(Nat.le_of_ble_eq_true rfl), (Nat.le_of_ble_eq_true rfl), (Nat.le_of_ble_eq_true rfl), (Nat.le_of_ble_eq_true rfl)⟩ (by decide) ?_
        refine sp_Model_in ?_
        refine ⟨_, rfl, ?_⟩
        refine ex_asN (a := 1) (by rw [eI]) ?_
        refine ex_iconst (v := nI 1) dX10_node_12 (by decide) ?_
        refine ex_cV (ν := m_Model_good) (a := 56) (ci := 10) (as := [.int (nI (1)), .int (nI (1))]) dX10_node_13 ln_Model_141 mf_Model_good rfl (Nat.le_of_ble_eq_true rfl) rfl rfl np_Model_good rfl rfl ⟨(Nat.le_of_ble_eq_true rfl), (Nat.le_of_ble_eq_true rfl), (Nat.le_of_ble_eq_true rfl), (Nat.le_of_ble_eq_true rfl)⟩ (by decide) ?_
        refine sp_Model_good (b := 1) (by decide) ?_
        refine ⟨_, rfl, ?_⟩
        refine ex_if_eqN (tgt := 33) dX10_node_16 (by decide) (by omega) (fun h16 => by exact absurd h16 (by decide)) (fun h16 => ?_)
        refine ex_aload_n (i := 0) dX10_node_19 rfl rfl ?_
        refine ex_iload_n (i := 2) dX10_node_20 rfl rfl ?_
        refine ex_iconst (v := nI 0) dX10_node_21 (by decide) ?_
        refine ex_iconst (v := nI 3) dX10_node_22 (by decide) ?_
        refine ex_cS (ν := m_Model_in) (as := [.int (nI (0)), .int (nI (0)), .int (nI (3))]) dX10_node_23 ln_Model_127 mf_Model_in np_Model_in rfl rfl ⟨(Nat.le_of_ble_eq_true rfl), (Nat.le_of_ble_eq_true rfl), (Nat.le_of_ble_eq_true rfl), (Nat.le_of_ble_eq_true rfl)⟩ (by decide) ?_
        refine sp_Model_in ?_
        refine ⟨_, rfl, ?_⟩
        refine ex_asN (a := 1) (by rw [eK]) ?_
        refine ex_iconst (v := nI 2) dX10_node_26 (by decide) ?_
        refine ex_cV (ν := m_Model_good) (a := 56) (ci := 10) (as := [.int (nI (1)), .int (nI (2))]) dX10_node_27 ln_Model_141 mf_Model_good rfl (Nat.le_of_ble_eq_true rfl) rfl rfl np_Model_good rfl rfl ⟨(Nat.le_of_ble_eq_true rfl), (Nat.le_of_ble_eq_true rfl), (Nat.le_of_ble_eq_true rfl), (Nat.le_of_ble_eq_true rfl)⟩ (by decide) ?_
        refine sp_Model_good (b := 1) (by decide) ?_
        refine ⟨_, rfl, ?_⟩
        refine ex_if_neN (tgt := 35) dX10_node_30 (by decide) (by omega) (fun h30 => ?_) (fun h30 => by exact absurd h30 (by decide))
        refine ex_iload_n (i := 2) dX10_node_35 rfl rfl ?_
        refine ex_if_neN (tgt := 48) dX10_node_36 (by decide) (by omega) (fun h36 => by exact absurd h36 (by decide)) (fun h36 => ?_)
        refine ex_aload_n (i := 0) dX10_node_39 rfl rfl ?_
        refine ex_getR (v := .ref (86)) dX10_node_40 fl_Model_98 rfl rfl (by decide) rfl ?_
        refine ex_iload_n (i := 1) dX10_node_43 rfl rfl ?_
        refine ex_ialdN dX10_node_44 rfl (by decide) (by omega) rfl ?_
        refine ex_goto (tgt := 82) dX10_node_45 (by decide) ?_
        refine ex_iret dX10_node_82 rfl rfl ?_
        exact hQ s 0 rfl hs2 rfl k1 _ ((Fm.rf.F (by decide)).F (by decide)) (cd_at2 _ _ _)
      ·
        refine ex_aload_n (i := 0) dX10_node_0 rfl rfl ?_
        refine ex_iload_n (i := 1) dX10_node_1 rfl rfl ?_
        refine ex_iconst (v := nI 0) dX10_node_2 (by decide) ?_
        refine ex_aload_n (i := 0) dX10_node_3 rfl rfl ?_
        refine ex_getI dX10_node_4 fl_Model_234 rfl rfl (by decide) ?_
        refine ex_asI (y := nI a) h43 ?_
        refine ex_iconst (v := nI 1) dX10_node_7 (by decide) ?_
        refine ex_isub dX10_node_8 ?_
        refine ex_cS (ν := m_Model_in) (as := [.int (nI (s)), .int (nI (0)), .int ((nI a) - (nI (1)))]) dX10_node_9 ln_Model_127 mf_Model_in np_Model_in rfl rfl ⟨(Nat.le_of_ble_eq_true rfl), (Nat.le_of_ble_eq_true rfl), (Nat.le_of_ble_eq_true rfl), (Nat.le_of_ble_eq_true rfl)⟩ (by decide) ?_
        refine sp_Model_in ?_
        refine ⟨_, rfl, ?_⟩
        refine ex_asN (a := 1) (by rw [eI]) ?_
        refine ex_iconst (v := nI 1) dX10_node_12 (by decide) ?_
        refine ex_cV (ν := m_Model_good) (a := 56) (ci := 10) (as := [.int (nI (1)), .int (nI (1))]) dX10_node_13 ln_Model_141 mf_Model_good rfl (Nat.le_of_ble_eq_true rfl) rfl rfl np_Model_good rfl rfl ⟨(Nat.le_of_ble_eq_true rfl), (Nat.le_of_ble_eq_true rfl), (Nat.le_of_ble_eq_true rfl), (Nat.le_of_ble_eq_true rfl)⟩ (by decide) ?_
        refine sp_Model_good (b := 1) (by decide) ?_
        refine ⟨_, rfl, ?_⟩
        refine ex_if_eqN (tgt := 33) dX10_node_16 (by decide) (by omega) (fun h16 => by exact absurd h16 (by decide)) (fun h16 => ?_)
        refine ex_aload_n (i := 0) dX10_node_19 rfl rfl ?_
        refine ex_iload_n (i := 2) dX10_node_20 rfl rfl ?_
        refine ex_iconst (v := nI 0) dX10_node_21 (by decide) ?_
        refine ex_iconst (v := nI 3) dX10_node_22 (by decide) ?_
        refine ex_cS (ν := m_Model_in) (as := [.int (nI (1)), .int (nI (0)), .int (nI (3))]) dX10_node_23 ln_Model_127 mf_Model_in np_Model_in rfl rfl ⟨(Nat.le_of_ble_eq_true rfl), (Nat.le_of_ble_eq_true rfl), (Nat.le_of_ble_eq_true rfl), (Nat.le_of_ble_eq_true rfl)⟩ (by decide) ?_
        refine sp_Model_in ?_
        refine ⟨_, rfl, ?_⟩
        refine ex_asN (a := 1) (by rw [eK]) ?_
        refine ex_iconst (v := nI 2) dX10_node_26 (by decide) ?_
        refine ex_cV (ν := m_Model_good) (a := 56) (ci := 10) (as := [.int (nI (1)), .int (nI (2))]) dX10_node_27 ln_Model_141 mf_Model_good rfl (Nat.le_of_ble_eq_true rfl) rfl rfl np_Model_good rfl rfl ⟨(Nat.le_of_ble_eq_true rfl), (Nat.le_of_ble_eq_true rfl), (Nat.le_of_ble_eq_true rfl), (Nat.le_of_ble_eq_true rfl)⟩ (by decide) ?_
        refine sp_Model_good (b := 1) (by decide) ?_
        refine ⟨_, rfl, ?_⟩
        refine ex_if_neN (tgt := 35) dX10_node_30 (by decide) (by omega) (fun h30 => ?_) (fun h30 => by exact absurd h30 (by decide))
        refine ex_iload_n (i := 2) dX10_node_35 rfl rfl ?_
        refine ex_if_neN (tgt := 48) dX10_node_36 (by decide) (by omega) (fun h36 => ?_) (fun h36 => by exact absurd h36 (by decide))
        refine ex_iload_n (i := 2) dX10_node_48 rfl rfl ?_
        refine ex_iconst (v := nI 1) dX10_node_49 (by decide) ?_
        refine ex_icmp_neN (tgt := 62) dX10_node_50 (by decide) (by decide) (by decide) (fun h50 => by exact absurd h50 (by decide)) (fun h50 => ?_)
        refine ex_aload_n (i := 0) dX10_node_53 rfl rfl ?_
        refine ex_getR (v := .ref (87)) dX10_node_54 fl_Model_101 rfl rfl (by decide) rfl ?_
        refine ex_iload_n (i := 1) dX10_node_57 rfl rfl ?_
        refine ex_ialdN dX10_node_58 rfl (by decide) (by omega) rfl ?_
        refine ex_goto (tgt := 82) dX10_node_59 (by decide) ?_
        refine ex_iret dX10_node_82 rfl rfl ?_
        exact hQ s 1 rfl hs2 rfl k1 _ ((Fm.rf.F (by decide)).F (by decide)) (cd_at2 _ _ _)
      ·
        refine ex_aload_n (i := 0) dX10_node_0 rfl rfl ?_
        refine ex_iload_n (i := 1) dX10_node_1 rfl rfl ?_
        refine ex_iconst (v := nI 0) dX10_node_2 (by decide) ?_
        refine ex_aload_n (i := 0) dX10_node_3 rfl rfl ?_
        refine ex_getI dX10_node_4 fl_Model_234 rfl rfl (by decide) ?_
        refine ex_asI (y := nI a) h43 ?_
        refine ex_iconst (v := nI 1) dX10_node_7 (by decide) ?_
        refine ex_isub dX10_node_8 ?_
        refine ex_cS (ν := m_Model_in) (as := [.int (nI (s)), .int (nI (0)), .int ((nI a) - (nI (1)))]) dX10_node_9 ln_Model_127 mf_Model_in np_Model_in rfl rfl ⟨(Nat.le_of_ble_eq_true rfl), (Nat.le_of_ble_eq_true rfl), (Nat.le_of_ble_eq_true rfl), (Nat.le_of_ble_eq_true rfl)⟩ (by decide) ?_
        refine sp_Model_in ?_
        refine ⟨_, rfl, ?_⟩
        refine ex_asN (a := 1) (by rw [eI]) ?_
        refine ex_iconst (v := nI 1) dX10_node_12 (by decide) ?_
        refine ex_cV (ν := m_Model_good) (a := 56) (ci := 10) (as := [.int (nI (1)), .int (nI (1))]) dX10_node_13 ln_Model_141 mf_Model_good rfl (Nat.le_of_ble_eq_true rfl) rfl rfl np_Model_good rfl rfl ⟨(Nat.le_of_ble_eq_true rfl), (Nat.le_of_ble_eq_true rfl), (Nat.le_of_ble_eq_true rfl), (Nat.le_of_ble_eq_true rfl)⟩ (by decide) ?_
        refine sp_Model_good (b := 1) (by decide) ?_
        refine ⟨_, rfl, ?_⟩
        refine ex_if_eqN (tgt := 33) dX10_node_16 (by decide) (by omega) (fun h16 => by exact absurd h16 (by decide)) (fun h16 => ?_)
        refine ex_aload_n (i := 0) dX10_node_19 rfl rfl ?_
        refine ex_iload_n (i := 2) dX10_node_20 rfl rfl ?_
        refine ex_iconst (v := nI 0) dX10_node_21 (by decide) ?_
        refine ex_iconst (v := nI 3) dX10_node_22 (by decide) ?_
        refine ex_cS (ν := m_Model_in) (as := [.int (nI (2)), .int (nI (0)), .int (nI (3))]) dX10_node_23 ln_Model_127 mf_Model_in np_Model_in rfl rfl ⟨(Nat.le_of_ble_eq_true rfl), (Nat.le_of_ble_eq_true rfl), (Nat.le_of_ble_eq_true rfl), (Nat.le_of_ble_eq_true rfl)⟩ (by decide) ?_
        refine sp_Model_in ?_
        refine ⟨_, rfl, ?_⟩
        refine ex_asN (a := 1) (by rw [eK]) ?_
        refine ex_iconst (v := nI 2) dX10_node_26 (by decide) ?_
        refine ex_cV (ν := m_Model_good) (a := 56) (ci := 10) (as := [.int (nI (1)), .int (nI (2))]) dX10_node_27 ln_Model_141 mf_Model_good rfl (Nat.le_of_ble_eq_true rfl) rfl rfl np_Model_good rfl rfl ⟨(Nat.le_of_ble_eq_true rfl), (Nat.le_of_ble_eq_true rfl), (Nat.le_of_ble_eq_true rfl), (Nat.le_of_ble_eq_true rfl)⟩ (by decide) ?_
        refine sp_Model_good (b := 1) (by decide) ?_
        refine ⟨_, rfl, ?_⟩
        refine ex_if_neN (tgt := 35) dX10_node_30 (by decide) (by omega) (fun h30 => ?_) (fun h30 => by exact absurd h30 (by decide))
        refine ex_iload_n (i := 2) dX10_node_35 rfl rfl ?_
        refine ex_if_neN (tgt := 48) dX10_node_36 (by decide) (by omega) (fun h36 => ?_) (fun h36 => by exact absurd h36 (by decide))
        refine ex_iload_n (i := 2) dX10_node_48 rfl rfl ?_
        refine ex_iconst (v := nI 1) dX10_node_49 (by decide) ?_
        refine ex_icmp_neN (tgt := 62) dX10_node_50 (by decide) (by decide) (by decide) (fun h50 => ?_) (fun h50 => by exact absurd h50 (by decide))
        refine ex_iload_n (i := 2) dX10_node_62 rfl rfl ?_
        refine ex_iconst (v := nI 2) dX10_node_63 (by decide) ?_
        refine ex_icmp_neN (tgt := 76) dX10_node_64 (by decide) (by decide) (by decide) (fun h64 => by exact absurd h64 (by decide)) (fun h64 => ?_)
        refine ex_aload_n (i := 0) dX10_node_67 rfl rfl ?_
        refine ex_getR (v := .ref (88)) dX10_node_68 fl_Model_104 rfl rfl (by decide) rfl ?_
        refine ex_iload_n (i := 1) dX10_node_71 rfl rfl ?_
        refine ex_ialdN dX10_node_72 rfl (by decide) (by omega) rfl ?_
        refine ex_goto (tgt := 82) dX10_node_73 (by decide) ?_
        refine ex_iret dX10_node_82 rfl rfl ?_
        exact hQ s 2 rfl hs2 rfl k1 _ ((Fm.rf.F (by decide)).F (by decide)) (cd_at2 _ _ _)
      ·
        refine ex_aload_n (i := 0) dX10_node_0 rfl rfl ?_
        refine ex_iload_n (i := 1) dX10_node_1 rfl rfl ?_
        refine ex_iconst (v := nI 0) dX10_node_2 (by decide) ?_
        refine ex_aload_n (i := 0) dX10_node_3 rfl rfl ?_
        refine ex_getI dX10_node_4 fl_Model_234 rfl rfl (by decide) ?_
        refine ex_asI (y := nI a) h43 ?_
        refine ex_iconst (v := nI 1) dX10_node_7 (by decide) ?_
        refine ex_isub dX10_node_8 ?_
        refine ex_cS (ν := m_Model_in) (as := [.int (nI (s)), .int (nI (0)), .int ((nI a) - (nI (1)))]) dX10_node_9 ln_Model_127 mf_Model_in np_Model_in rfl rfl ⟨(Nat.le_of_ble_eq_true rfl), (Nat.le_of_ble_eq_true rfl), (Nat.le_of_ble_eq_true rfl), (Nat.le_of_ble_eq_true rfl)⟩ (by decide) ?_
        refine sp_Model_in ?_
        refine ⟨_, rfl, ?_⟩
        refine ex_asN (a := 1) (by rw [eI]) ?_
        refine ex_iconst (v := nI 1) dX10_node_12 (by decide) ?_
        refine ex_cV (ν := m_Model_good) (a := 56) (ci := 10) (as := [.int (nI (1)), .int (nI (1))]) dX10_node_13 ln_Model_141 mf_Model_good rfl (Nat.le_of_ble_eq_true rfl) rfl rfl np_Model_good rfl rfl ⟨(Nat.le_of_ble_eq_true rfl), (Nat.le_of_ble_eq_true rfl), (Nat.le_of_ble_eq_true rfl), (Nat.le_of_ble_eq_true rfl)⟩ (by decide) ?_
        refine sp_Model_good (b := 1) (by decide) ?_
        refine ⟨_, rfl, ?_⟩
        refine ex_if_eqN (tgt := 33) dX10_node_16 (by decide) (by omega) (fun h16 => by exact absurd h16 (by decide)) (fun h16 => ?_)
        refine ex_aload_n (i := 0) dX10_node_19 rfl rfl ?_
        refine ex_iload_n (i := 2) dX10_node_20 rfl rfl ?_
        refine ex_iconst (v := nI 0) dX10_node_21 (by decide) ?_
        refine ex_iconst (v := nI 3) dX10_node_22 (by decide) ?_
        refine ex_cS (ν := m_Model_in) (as := [.int (nI (3)), .int (nI (0)), .int (nI (3))]) dX10_node_23 ln_Model_127 mf_Model_in np_Model_in rfl rfl ⟨(Nat.le_of_ble_eq_true rfl), (Nat.le_of_ble_eq_true rfl), (Nat.le_of_ble_eq_true rfl), (Nat.le_of_ble_eq_true rfl)⟩ (by decide) ?_
        refine sp_Model_in ?_
        refine ⟨_, rfl, ?_⟩
        refine ex_asN (a := 1) (by rw [eK]) ?_
        refine ex_iconst (v := nI 2) dX10_node_26 (by decide) ?_
        refine ex_cV (ν := m_Model_good) (a := 56) (ci := 10) (as := [.int (nI (1)), .int (nI (2))]) dX10_node_27 ln_Model_141 mf_Model_good rfl (Nat.le_of_ble_eq_true rfl) rfl rfl np_Model_good rfl rfl ⟨(Nat.le_of_ble_eq_true rfl), (Nat.le_of_ble_eq_true rfl), (Nat.le_of_ble_eq_true rfl), (Nat.le_of_ble_eq_true rfl)⟩ (by decide) ?_
        refine sp_Model_good (b := 1) (by decide) ?_
        refine ⟨_, rfl, ?_⟩
        refine ex_if_neN (tgt := 35) dX10_node_30 (by decide) (by omega) (fun h30 => ?_) (fun h30 => by exact absurd h30 (by decide))
        refine ex_iload_n (i := 2) dX10_node_35 rfl rfl ?_
        refine ex_if_neN (tgt := 48) dX10_node_36 (by decide) (by omega) (fun h36 => ?_) (fun h36 => by exact absurd h36 (by decide))
        refine ex_iload_n (i := 2) dX10_node_48 rfl rfl ?_
        refine ex_iconst (v := nI 1) dX10_node_49 (by decide) ?_
        refine ex_icmp_neN (tgt := 62) dX10_node_50 (by decide) (by decide) (by decide) (fun h50 => ?_) (fun h50 => by exact absurd h50 (by decide))
        refine ex_iload_n (i := 2) dX10_node_62 rfl rfl ?_
        refine ex_iconst (v := nI 2) dX10_node_63 (by decide) ?_
        refine ex_icmp_neN (tgt := 76) dX10_node_64 (by decide) (by decide) (by decide) (fun h64 => ?_) (fun h64 => by exact absurd h64 (by decide))
        refine ex_aload_n (i := 0) dX10_node_76 rfl rfl ?_
        refine ex_getR (v := .ref (89)) dX10_node_77 fl_Model_107 rfl rfl (by decide) rfl ?_
        refine ex_iload_n (i := 1) dX10_node_80 rfl rfl ?_
        refine ex_ialdN dX10_node_81 rfl (by decide) (by omega) rfl ?_
        refine ex_iret dX10_node_82 rfl rfl ?_
        exact hQ s 3 rfl hs2 rfl k1 _ ((Fm.rf.F (by decide)).F (by decide)) (cd_at2 _ _ _)
    · have eK : inX y (nI 0) (nI 3) = 0 := inX_c0 (by decide) hk
      refine ex_aload_n (i := 0) dX10_node_0 rfl rfl ?_
      refine ex_iload_n (i := 1) dX10_node_1 rfl rfl ?_
      refine ex_iconst (v := nI 0) dX10_node_2 (by decide) ?_
      refine ex_aload_n (i := 0) dX10_node_3 rfl rfl ?_
      refine ex_getI dX10_node_4 fl_Model_234 rfl rfl (by decide) ?_
      refine ex_asI (y := nI a) h43 ?_
      refine ex_iconst (v := nI 1) dX10_node_7 (by decide) ?_
      refine ex_isub dX10_node_8 ?_
      refine ex_cS (ν := m_Model_in) (as := [.int (nI (s)), .int (nI (0)), .int ((nI a) - (nI (1)))]) dX10_node_9 ln_Model_127 mf_Model_in np_Model_in rfl rfl ⟨(Nat.le_of_ble_eq_true rfl), (Nat.le_of_ble_eq_true rfl), (Nat.le_of_ble_eq_true rfl), (Nat.le_of_ble_eq_true rfl)⟩ (by decide) ?_
      refine sp_Model_in ?_
      refine ⟨_, rfl, ?_⟩
      refine ex_asN (a := 1) (by rw [eI]) ?_
      refine ex_iconst (v := nI 1) dX10_node_12 (by decide) ?_
      refine ex_cV (ν := m_Model_good) (a := 56) (ci := 10) (as := [.int (nI (1)), .int (nI (1))]) dX10_node_13 ln_Model_141 mf_Model_good rfl (Nat.le_of_ble_eq_true rfl) rfl rfl np_Model_good rfl rfl ⟨(Nat.le_of_ble_eq_true rfl), (Nat.le_of_ble_eq_true rfl), (Nat.le_of_ble_eq_true rfl), (Nat.le_of_ble_eq_true rfl)⟩ (by decide) ?_
      refine sp_Model_good (b := 1) (by decide) ?_
      refine ⟨_, rfl, ?_⟩
      refine ex_if_eqN (tgt := 33) dX10_node_16 (by decide) (by omega) (fun h16 => by exact absurd h16 (by decide)) (fun h16 => ?_)
      refine ex_aload_n (i := 0) dX10_node_19 rfl rfl ?_
      refine ex_iload_n (i := 2) dX10_node_20 rfl rfl ?_
      refine ex_iconst (v := nI 0) dX10_node_21 (by decide) ?_
      refine ex_iconst (v := nI 3) dX10_node_22 (by decide) ?_
      refine ex_cS (ν := m_Model_in) (as := [.int (y), .int (nI (0)), .int (nI (3))]) dX10_node_23 ln_Model_127 mf_Model_in np_Model_in rfl rfl ⟨(Nat.le_of_ble_eq_true rfl), (Nat.le_of_ble_eq_true rfl), (Nat.le_of_ble_eq_true rfl), (Nat.le_of_ble_eq_true rfl)⟩ (by decide) ?_
      refine sp_Model_in ?_
      refine ⟨_, rfl, ?_⟩
      refine ex_asN (a := 0) (by rw [eK]) ?_
      refine ex_iconst (v := nI 2) dX10_node_26 (by decide) ?_
      refine ex_cV (ν := m_Model_good) (a := 56) (ci := 10) (as := [.int (nI (0)), .int (nI (2))]) dX10_node_27 ln_Model_141 mf_Model_good rfl (Nat.le_of_ble_eq_true rfl) rfl rfl np_Model_good rfl rfl ⟨(Nat.le_of_ble_eq_true rfl), (Nat.le_of_ble_eq_true rfl), (Nat.le_of_ble_eq_true rfl), (Nat.le_of_ble_eq_true rfl)⟩ (by decide) ?_
      refine sp_Model_good (b := 0) (by decide) ?_
      refine ⟨_, rfl, ?_⟩
      refine ex_if_neN (tgt := 35) dX10_node_30 (by decide) (by omega) (fun h30 => by exact absurd h30 (by decide)) (fun h30 => ?_)
      refine ex_iconst (v := nI 0) dX10_node_33 (by decide) ?_
      refine ex_iret dX10_node_34 rfl rfl ?_
      exact hX1 s rfl hs2 hk _ ((Fm.rf.F (by decide)).F (by decide)) (cd_at2 _ _ _)
  · have eI : inX x (nI 0) (nI a - nI 1) = 0 := inX_0 (by omega) hs
    refine ex_aload_n (i := 0) dX10_node_0 rfl rfl ?_
    refine ex_iload_n (i := 1) dX10_node_1 rfl rfl ?_
    refine ex_iconst (v := nI 0) dX10_node_2 (by decide) ?_
    refine ex_aload_n (i := 0) dX10_node_3 rfl rfl ?_
    refine ex_getI dX10_node_4 fl_Model_234 rfl rfl (by decide) ?_
    refine ex_asI (y := nI a) h43 ?_
    refine ex_iconst (v := nI 1) dX10_node_7 (by decide) ?_
    refine ex_isub dX10_node_8 ?_
    refine ex_cS (ν := m_Model_in) (as := [.int (x), .int (nI (0)), .int ((nI a) - (nI (1)))]) dX10_node_9 ln_Model_127 mf_Model_in np_Model_in rfl rfl ⟨(Nat.le_of_ble_eq_true rfl), (Nat.le_of_ble_eq_true rfl), (Nat.le_of_ble_eq_true rfl), (Nat.le_of_ble_eq_true rfl)⟩ (by decide) ?_
    refine sp_Model_in ?_
    refine ⟨_, rfl, ?_⟩
    refine ex_asN (a := 0) (by rw [eI]) ?_
    refine ex_iconst (v := nI 1) dX10_node_12 (by decide) ?_
    refine ex_cV (ν := m_Model_good) (a := 56) (ci := 10) (as := [.int (nI (0)), .int (nI (1))]) dX10_node_13 ln_Model_141 mf_Model_good rfl (Nat.le_of_ble_eq_true rfl) rfl rfl np_Model_good rfl rfl ⟨(Nat.le_of_ble_eq_true rfl), (Nat.le_of_ble_eq_true rfl), (Nat.le_of_ble_eq_true rfl), (Nat.le_of_ble_eq_true rfl)⟩ (by decide) ?_
    refine sp_Model_good (b := 0) (by decide) ?_
    refine ⟨_, rfl, ?_⟩
    refine ex_if_eqN (tgt := 33) dX10_node_16 (by decide) (by omega) (fun h16 => ?_) (fun h16 => by exact absurd h16 (by decide))
    refine ex_iconst (v := nI 0) dX10_node_33 (by decide) ?_
    refine ex_iret dX10_node_34 rfl rfl ?_
    exact hX0 hs _ (Fm.rf.F (by decide)) (cd_at _ _)
theorem sp_Model_attribute {x y : Int32} {a : Nat} (h43 : i 56 43 = nI a) (ha : a ≤ 150) (hX0 : (¬ ∃ s, x = nI s ∧ s < a) → ∀ i1, Fm [] [45] i i1 → i1 56 45 = nI 1 → Q (.ok (some (.long 0))) (94, g, i1, q, RT t)) (hX1 : ∀ s, x = nI s → s < a → (¬ ∃ k, y = nI k ∧ k < 3) → ∀ i1, Fm [] [45] i i1 → i1 56 45 = nI 2 → Q (.ok (some (.long 0))) (94, g, i1, q, RT t))
    (hQ : ∀ s k, x = nI s → s < a → y = nI k → k < 3 → ∀ i1, Fm [] [45] i i1 → i1 56 45 = nI 0 → Q (.ok (some (.long (q 91 (3 * s + k))))) (94, g, i1, q, RT t)) : Wx m_Model_attribute 0 [some (.ref 56), some (.int x), some (.int y)] [] (94, g, i, q, RT t) (0, 0) Q := by
  by_cases hs : ∃ s, x = nI s ∧ s < a
  · obtain ⟨s, rfl, hs2⟩ := hs
    have eI : inX (nI s) (nI 0) (nI a - nI 1) = 1 := inX_1 (by omega) ⟨s, rfl, hs2⟩
    by_cases hk : ∃ k, y = nI k ∧ k < 3
    · have eK : inX y (nI 0) (nI 2) = 1 := inX_c1 (by decide) hk
      obtain ⟨k, rfl, k1⟩ := hk
      refine ex_aload_n (i := 0) dX10_attribute_0 rfl rfl ?_
      refine ex_iload_n (i := 1) dX10_attribute_1 rfl rfl ?_
      refine ex_iconst (v := nI 0) dX10_attribute_2 (by decide) ?_
      refine ex_aload_n (i := 0) dX10_attribute_3 rfl rfl ?_
      refine ex_getI dX10_attribute_4 fl_Model_234 rfl rfl (by decide) ?_
      refine ex_asI (y := nI a) h43 ?_
      refine ex_iconst (v := nI 1) dX10_attribute_7 (by decide) ?_
      refine ex_isub dX10_attribute_8 ?_
      refine ex_cS (ν := m_Model_in) (as := [.int (nI (s)), .int (nI (0)), .int ((nI a) - (nI (1)))]) dX10_attribute_9 ln_Model_127 mf_Model_in np_Model_in rfl rfl ⟨(Nat.le_of_ble_eq_true rfl), (Nat.le_of_ble_eq_true rfl), (Nat.le_of_ble_eq_true rfl), (Nat.le_of_ble_eq_true rfl)⟩ (by decide) ?_
      refine sp_Model_in ?_
      refine ⟨_, rfl, ?_⟩
      refine ex_asN (a := 1) (by rw [eI]) ?_
      refine ex_iconst (v := nI 1) dX10_attribute_12 (by decide) ?_
      refine ex_cV (ν := m_Model_good) (a := 56) (ci := 10) (as := [.int (nI (1)), .int (nI (1))]) dX10_attribute_13 ln_Model_141 mf_Model_good rfl (Nat.le_of_ble_eq_true rfl) rfl rfl np_Model_good rfl rfl ⟨(Nat.le_of_ble_eq_true rfl), (Nat.le_of_ble_eq_true rfl), (Nat.le_of_ble_eq_true rfl), (Nat.le_of_ble_eq_true rfl)⟩ (by decide) ?_
      refine sp_Model_good (b := 1) (by decide) ?_
      refine ⟨_, rfl, ?_⟩
      refine ex_if_eqN (tgt := 33) dX10_attribute_16 (by decide) (by omega) (fun h16 => by exact absurd h16 (by decide)) (fun h16 => ?_)
      refine ex_aload_n (i := 0) dX10_attribute_19 rfl rfl ?_
      refine ex_iload_n (i := 2) dX10_attribute_20 rfl rfl ?_
      refine ex_iconst (v := nI 0) dX10_attribute_21 (by decide) ?_
      refine ex_iconst (v := nI 2) dX10_attribute_22 (by decide) ?_
      refine ex_cS (ν := m_Model_in) (as := [.int (nI (k)), .int (nI (0)), .int (nI (2))]) dX10_attribute_23 ln_Model_127 mf_Model_in np_Model_in rfl rfl ⟨(Nat.le_of_ble_eq_true rfl), (Nat.le_of_ble_eq_true rfl), (Nat.le_of_ble_eq_true rfl), (Nat.le_of_ble_eq_true rfl)⟩ (by decide) ?_
      refine sp_Model_in ?_
      refine ⟨_, rfl, ?_⟩
      refine ex_asN (a := 1) (by rw [eK]) ?_
      refine ex_iconst (v := nI 2) dX10_attribute_26 (by decide) ?_
      refine ex_cV (ν := m_Model_good) (a := 56) (ci := 10) (as := [.int (nI (1)), .int (nI (2))]) dX10_attribute_27 ln_Model_141 mf_Model_good rfl (Nat.le_of_ble_eq_true rfl) rfl rfl np_Model_good rfl rfl ⟨(Nat.le_of_ble_eq_true rfl), (Nat.le_of_ble_eq_true rfl), (Nat.le_of_ble_eq_true rfl), (Nat.le_of_ble_eq_true rfl)⟩ (by decide) ?_
      refine sp_Model_good (b := 1) (by decide) ?_
      refine ⟨_, rfl, ?_⟩
      refine ex_if_neN (tgt := 35) dX10_attribute_30 (by decide) (by omega) (fun h30 => ?_) (fun h30 => by exact absurd h30 (by decide))
      refine ex_aload_n (i := 0) dX10_attribute_35 rfl rfl ?_
      refine ex_getR (v := .ref (91)) dX10_attribute_36 fl_Model_113 rfl rfl (by decide) rfl ?_
      refine ex_iconst (v := nI 3) dX10_attribute_39 (by decide) ?_
      refine ex_iload_n (i := 1) dX10_attribute_40 rfl rfl ?_
      refine ex_imulN dX10_attribute_41 ?_
      refine ex_iload_n (i := 2) dX10_attribute_42 rfl rfl ?_
      refine ex_iaddN dX10_attribute_43 ?_
      refine ex_laldN dX10_attribute_44 rfl (by decide) (by omega) rfl ?_
      refine ex_lret dX10_attribute_45 rfl ?_
      exact hQ s k rfl hs2 rfl k1 _ ((Fm.rf.F (by decide)).F (by decide)) (cd_at2 _ _ _)
    · have eK : inX y (nI 0) (nI 2) = 0 := inX_c0 (by decide) hk
      refine ex_aload_n (i := 0) dX10_attribute_0 rfl rfl ?_
      refine ex_iload_n (i := 1) dX10_attribute_1 rfl rfl ?_
      refine ex_iconst (v := nI 0) dX10_attribute_2 (by decide) ?_
      refine ex_aload_n (i := 0) dX10_attribute_3 rfl rfl ?_
      refine ex_getI dX10_attribute_4 fl_Model_234 rfl rfl (by decide) ?_
      refine ex_asI (y := nI a) h43 ?_
      refine ex_iconst (v := nI 1) dX10_attribute_7 (by decide) ?_
      refine ex_isub dX10_attribute_8 ?_
      refine ex_cS (ν := m_Model_in) (as := [.int (nI (s)), .int (nI (0)), .int ((nI a) - (nI (1)))]) dX10_attribute_9 ln_Model_127 mf_Model_in np_Model_in rfl rfl ⟨(Nat.le_of_ble_eq_true rfl), (Nat.le_of_ble_eq_true rfl), (Nat.le_of_ble_eq_true rfl), (Nat.le_of_ble_eq_true rfl)⟩ (by decide) ?_
      refine sp_Model_in ?_
      refine ⟨_, rfl, ?_⟩
      refine ex_asN (a := 1) (by rw [eI]) ?_
      refine ex_iconst (v := nI 1) dX10_attribute_12 (by decide) ?_
      refine ex_cV (ν := m_Model_good) (a := 56) (ci := 10) (as := [.int (nI (1)), .int (nI (1))]) dX10_attribute_13 ln_Model_141 mf_Model_good rfl (Nat.le_of_ble_eq_true rfl) rfl rfl np_Model_good rfl rfl ⟨(Nat.le_of_ble_eq_true rfl), (Nat.le_of_ble_eq_true rfl), (Nat.le_of_ble_eq_true rfl), (Nat.le_of_ble_eq_true rfl)⟩ (by decide) ?_
      refine sp_Model_good (b := 1) (by decide) ?_
      refine ⟨_, rfl, ?_⟩
      refine ex_if_eqN (tgt := 33) dX10_attribute_16 (by decide) (by omega) (fun h16 => by exact absurd h16 (by decide)) (fun h16 => ?_)
      refine ex_aload_n (i := 0) dX10_attribute_19 rfl rfl ?_
      refine ex_iload_n (i := 2) dX10_attribute_20 rfl rfl ?_
      refine ex_iconst (v := nI 0) dX10_attribute_21 (by decide) ?_
      refine ex_iconst (v := nI 2) dX10_attribute_22 (by decide) ?_
      refine ex_cS (ν := m_Model_in) (as := [.int (y), .int (nI (0)), .int (nI (2))]) dX10_attribute_23 ln_Model_127 mf_Model_in np_Model_in rfl rfl ⟨(Nat.le_of_ble_eq_true rfl), (Nat.le_of_ble_eq_true rfl), (Nat.le_of_ble_eq_true rfl), (Nat.le_of_ble_eq_true rfl)⟩ (by decide) ?_
      refine sp_Model_in ?_
      refine ⟨_, rfl, ?_⟩
      refine ex_asN (a := 0) (by rw [eK]) ?_
      refine ex_iconst (v := nI 2) dX10_attribute_26 (by decide) ?_
      refine ex_cV (ν := m_Model_good) (a := 56) (ci := 10) (as := [.int (nI (0)), .int (nI (2))]) dX10_attribute_27 ln_Model_141 mf_Model_good rfl (Nat.le_of_ble_eq_true rfl) rfl rfl np_Model_good rfl rfl ⟨(Nat.le_of_ble_eq_true rfl), (Nat.le_of_ble_eq_true rfl), (Nat.le_of_ble_eq_true rfl), (Nat.le_of_ble_eq_true rfl)⟩ (by decide) ?_
      refine sp_Model_good (b := 0) (by decide) ?_
      refine ⟨_, rfl, ?_⟩
      refine ex_if_neN (tgt := 35) dX10_attribute_30 (by decide) (by omega) (fun h30 => by exact absurd h30 (by decide)) (fun h30 => ?_)
      refine ex_lconst (v := 0) dX10_attribute_33 (by decide) ?_
      refine ex_lret dX10_attribute_34 rfl ?_
      exact hX1 s rfl hs2 hk _ ((Fm.rf.F (by decide)).F (by decide)) (cd_at2 _ _ _)
  · have eI : inX x (nI 0) (nI a - nI 1) = 0 := inX_0 (by omega) hs
    refine ex_aload_n (i := 0) dX10_attribute_0 rfl rfl ?_
    refine ex_iload_n (i := 1) dX10_attribute_1 rfl rfl ?_
    refine ex_iconst (v := nI 0) dX10_attribute_2 (by decide) ?_
    refine ex_aload_n (i := 0) dX10_attribute_3 rfl rfl ?_
    refine ex_getI dX10_attribute_4 fl_Model_234 rfl rfl (by decide) ?_
    refine ex_asI (y := nI a) h43 ?_
    refine ex_iconst (v := nI 1) dX10_attribute_7 (by decide) ?_
    refine ex_isub dX10_attribute_8 ?_
    refine ex_cS (ν := m_Model_in) (as := [.int (x), .int (nI (0)), .int ((nI a) - (nI (1)))]) dX10_attribute_9 ln_Model_127 mf_Model_in np_Model_in rfl rfl ⟨(Nat.le_of_ble_eq_true rfl), (Nat.le_of_ble_eq_true rfl), (Nat.le_of_ble_eq_true rfl), (Nat.le_of_ble_eq_true rfl)⟩ (by decide) ?_
    refine sp_Model_in ?_
    refine ⟨_, rfl, ?_⟩
    refine ex_asN (a := 0) (by rw [eI]) ?_
    refine ex_iconst (v := nI 1) dX10_attribute_12 (by decide) ?_
    refine ex_cV (ν := m_Model_good) (a := 56) (ci := 10) (as := [.int (nI (0)), .int (nI (1))]) dX10_attribute_13 ln_Model_141 mf_Model_good rfl (Nat.le_of_ble_eq_true rfl) rfl rfl np_Model_good rfl rfl ⟨(Nat.le_of_ble_eq_true rfl), (Nat.le_of_ble_eq_true rfl), (Nat.le_of_ble_eq_true rfl), (Nat.le_of_ble_eq_true rfl)⟩ (by decide) ?_
    refine sp_Model_good (b := 0) (by decide) ?_
    refine ⟨_, rfl, ?_⟩
    refine ex_if_eqN (tgt := 33) dX10_attribute_16 (by decide) (by omega) (fun h16 => ?_) (fun h16 => by exact absurd h16 (by decide))
    refine ex_lconst (v := 0) dX10_attribute_33 (by decide) ?_
    refine ex_lret dX10_attribute_34 rfl ?_
    exact hX0 hs _ (Fm.rf.F (by decide)) (cd_at _ _)
end S60
