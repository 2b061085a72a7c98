/-! ===== the reference: rule, level, equation, token, clear ===== -/
section S58
variable {g : Nat} {i : Nat → Nat → Int32} {q : Nat → Nat → Int64} {t : Bool} {Q : xRes → xMem → Prop} {n : Nat} {sy : Nat → Nat → Nat} {op xp yp : Nat → Nat}
theorem sp_Model_level {x y z : Int32} (hX : (tmX x = 0 ∨ y < 0 ∨ nI 9 < y ∨ z < 0 ∨ nI 2 < z) → ∀ i1, Fm [] [45] i i1 → i1 56 45 = nI 1 → Q (.ok (some (.int (nI 0)))) (94, g, i1, q, RT t))
    (hQ : ∀ s, x = nI s → 1 ≤ s → s ≤ 6 → ¬ y < 0 → ¬ nI 9 < y → ¬ z < 0 → ¬ nI 2 < z → ∀ i1, Fm [60, 61] [9, 45] i i1 → i1 56 45 = nI 0 → i1 56 9 = nI 0 → i1 60 = upd (i 60) s y → i1 61 = upd (i 61) s z → Q (.ok (some (.int (i 60 s)))) (94, g, i1, q, RT t)) : Wx m_Model_level 0 [some (.ref 56), some (.int x), some (.int y), some (.int z), none] [] (94, g, i, q, RT t) (0, 0) Q := by
  have HX : (tmX x = 0 ∨ y < 0 ∨ nI 9 < y ∨ z < 0 ∨ nI 2 < z) → Q (.ok (some (.int (nI 0)))) (94, g, xU i 56 45 (nI 1), q, RT t) := fun h => hX h _ (Fm.rf.F (by decide)) (by rw [xU_at]; simp [upd])
  by_cases h : tmX x = 0
  ·
    refine ex_aload_n (i := 0) dX10_level_0 rfl rfl ?_
    refine ex_iload_n (i := 1) dX10_level_1 rfl rfl ?_
    refine ex_iconst (v := nI 1) dX10_level_2 (by decide) ?_
    refine ex_bipush (v := nI 6) dX10_level_3 (by decide) ?_
    refine ex_cS (ν := m_Model_in) (as := [.int (x), .int (nI (1)), .int (nI (6))]) dX10_level_5 ln_Model_127 mf_Model_in np_Model_in rfl rfl ⟨(Nat.le_of_ble_eq_true rfl), (Nat.le_of_ble_eq_true rfl), (Nat.le_of_ble_eq_true rfl), (Nat.le_of_ble_eq_true rfl)⟩ (by decide) ?_
    refine sp_Model_in ?_
    refine ⟨_, rfl, ?_⟩
    refine ex_asN (a := 0) (by rw [inX_tm, h]) ?_
    refine ex_if_eqN (tgt := 34) dX10_level_8 (by decide) (by omega) (fun h8 => ?_) (fun h8 => by exact absurd h8 (by decide))
    refine ex_iconst (v := nI 0) dX10_level_34 (by decide) ?_
    refine ex_iconst (v := nI 1) dX10_level_35 (by decide) ?_
    refine ex_cV (ν := m_Model_good) (a := 56) (ci := 10) (as := [.int (nI (0)), .int (nI (1))]) dX10_level_36 ln_Model_141 mf_Model_good rfl (Nat.le_of_ble_eq_true rfl) rfl rfl np_Model_good rfl rfl ⟨(Nat.le_of_ble_eq_true rfl), (Nat.le_of_ble_eq_true rfl), (Nat.le_of_ble_eq_true rfl), (Nat.le_of_ble_eq_true rfl)⟩ (by decide) ?_
    refine sp_Model_good (by decide) ?_
    refine ⟨_, rfl, ?_⟩
    refine ex_if_neN (tgt := 44) dX10_level_39 (by decide) (by omega) (fun h39 => by exact absurd h39 (by decide)) (fun h39 => ?_)
    refine ex_iconst (v := nI 0) dX10_level_42 (by decide) ?_
    refine ex_iret dX10_level_43 rfl rfl ?_
    exact HX (Or.inl h)
  · obtain ⟨s, rfl, s1, s2⟩ := tmX_s h
    have e1 : inX (nI s) (nI 1) (nI 6) = 1 := by unfold inX; rw [if_pos ⟨(nI_leI (by decide) (by omega)).mpr s1, (nI_leI (by omega) (by decide)).mpr s2⟩]
    by_cases h2 : y < 0 ∨ nI 9 < y
    · have e2 : inX y (nI 0) (nI 9) = 0 := by
        unfold inX
        rw [if_neg (fun c => by
          rcases h2 with z | z
          · exact absurd c.1 (Int32.not_le.mpr z)
          · exact absurd c.2 (Int32.not_le.mpr z))]
      refine ex_aload_n (i := 0) dX10_level_0 rfl rfl ?_
      refine ex_iload_n (i := 1) dX10_level_1 rfl rfl ?_
      refine ex_iconst (v := nI 1) dX10_level_2 (by decide) ?_
      refine ex_bipush (v := nI 6) dX10_level_3 (by decide) ?_
      refine ex_cS (ν := m_Model_in) (as := [.int (nI (s)), .int (nI (1)), .int (nI (6))]) dX10_level_5 ln_Model_127 mf_Model_in np_Model_in rfl rfl ⟨(Nat.le_of_ble_eq_true rfl), (Nat.le_of_ble_eq_true rfl), (Nat.le_of_ble_eq_true rfl), (Nat.le_of_ble_eq_true rfl)⟩ (by decide) ?_
      refine sp_Model_in ?_
      refine ⟨_, rfl, ?_⟩
      refine ex_asN (a := 1) (by rw [e1]) ?_
      refine ex_if_eqN (tgt := 34) dX10_level_8 (by decide) (by omega) (fun h8 => by exact absurd h8 (by decide)) (fun h8 => ?_)
      refine ex_iload_n (i := 2) dX10_level_11 rfl rfl ?_
      refine ex_iconst (v := nI 0) dX10_level_12 (by decide) ?_
      refine ex_bipush (v := nI 9) dX10_level_13 (by decide) ?_
      refine ex_cS (ν := m_Model_in) (as := [.int (y), .int (nI (0)), .int (nI (9))]) dX10_level_15 ln_Model_127 mf_Model_in np_Model_in rfl rfl ⟨(Nat.le_of_ble_eq_true rfl), (Nat.le_of_ble_eq_true rfl), (Nat.le_of_ble_eq_true rfl), (Nat.le_of_ble_eq_true rfl)⟩ (by decide) ?_
      refine sp_Model_in ?_
      refine ⟨_, rfl, ?_⟩
      refine ex_asN (a := 0) (by rw [e2]) ?_
      refine ex_if_eqN (tgt := 34) dX10_level_18 (by decide) (by omega) (fun h18 => ?_) (fun h18 => by exact absurd h18 (by decide))
      refine ex_iconst (v := nI 0) dX10_level_34 (by decide) ?_
      refine ex_iconst (v := nI 1) dX10_level_35 (by decide) ?_
      refine ex_cV (ν := m_Model_good) (a := 56) (ci := 10) (as := [.int (nI (0)), .int (nI (1))]) dX10_level_36 ln_Model_141 mf_Model_good rfl (Nat.le_of_ble_eq_true rfl) rfl rfl np_Model_good rfl rfl ⟨(Nat.le_of_ble_eq_true rfl), (Nat.le_of_ble_eq_true rfl), (Nat.le_of_ble_eq_true rfl), (Nat.le_of_ble_eq_true rfl)⟩ (by decide) ?_
      refine sp_Model_good (by decide) ?_
      refine ⟨_, rfl, ?_⟩
      refine ex_if_neN (tgt := 44) dX10_level_39 (by decide) (by omega) (fun h39 => by exact absurd h39 (by decide)) (fun h39 => ?_)
      refine ex_iconst (v := nI 0) dX10_level_42 (by decide) ?_
      refine ex_iret dX10_level_43 rfl rfl ?_
      exact HX (Or.inr (h2.elim Or.inl (fun z => Or.inr (Or.inl z))))
    · have y0 : ¬ y < 0 := fun z => h2 (Or.inl z)
      have y9 : ¬ nI 9 < y := fun z => h2 (Or.inr z)
      have e2 : inX y (nI 0) (nI 9) = 1 := by unfold inX; rw [if_pos ⟨Int32.not_lt.mp y0, Int32.not_lt.mp y9⟩]
      by_cases h3 : z < 0 ∨ nI 2 < z
      · have e3 : inX z (nI 0) (nI 2) = 0 := by
          unfold inX
          rw [if_neg (fun c => by
            rcases h3 with z | z
            · exact absurd c.1 (Int32.not_le.mpr z)
            · exact absurd c.2 (Int32.not_le.mpr z))]
        refine ex_aload_n (i := 0) dX10_level_0 rfl rfl ?_
        refine ex_iload_n (i := 1) dX10_level_1 rfl rfl ?_
        refine ex_iconst (v := nI 1) dX10_level_2 (by decide) ?_
        refine ex_bipush (v := nI 6) dX10_level_3 (by decide) ?_
        refine ex_cS (ν := m_Model_in) (as := [.int (nI (s)), .int (nI (1)), .int (nI (6))]) dX10_level_5 ln_Model_127 mf_Model_in np_Model_in rfl rfl ⟨(Nat.le_of_ble_eq_true rfl), (Nat.le_of_ble_eq_true rfl), (Nat.le_of_ble_eq_true rfl), (Nat.le_of_ble_eq_true rfl)⟩ (by decide) ?_
        refine sp_Model_in ?_
        refine ⟨_, rfl, ?_⟩
        refine ex_asN (a := 1) (by rw [e1]) ?_
        refine ex_if_eqN (tgt := 34) dX10_level_8 (by decide) (by omega) (fun h8 => by exact absurd h8 (by decide)) (fun h8 => ?_)
        refine ex_iload_n (i := 2) dX10_level_11 rfl rfl ?_
        refine ex_iconst (v := nI 0) dX10_level_12 (by decide) ?_
        refine ex_bipush (v := nI 9) dX10_level_13 (by decide) ?_
        refine ex_cS (ν := m_Model_in) (as := [.int (y), .int (nI (0)), .int (nI (9))]) dX10_level_15 ln_Model_127 mf_Model_in np_Model_in rfl rfl ⟨(Nat.le_of_ble_eq_true rfl), (Nat.le_of_ble_eq_true rfl), (Nat.le_of_ble_eq_true rfl), (Nat.le_of_ble_eq_true rfl)⟩ (by decide) ?_
        refine sp_Model_in ?_
        refine ⟨_, rfl, ?_⟩
        refine ex_asN (a := 1) (by rw [e2]) ?_
        refine ex_if_eqN (tgt := 34) dX10_level_18 (by decide) (by omega) (fun h18 => by exact absurd h18 (by decide)) (fun h18 => ?_)
        refine ex_iload_n (i := 3) dX10_level_21 rfl rfl ?_
        refine ex_iconst (v := nI 0) dX10_level_22 (by decide) ?_
        refine ex_iconst (v := nI 2) dX10_level_23 (by decide) ?_
        refine ex_cS (ν := m_Model_in) (as := [.int (z), .int (nI (0)), .int (nI (2))]) dX10_level_24 ln_Model_127 mf_Model_in np_Model_in rfl rfl ⟨(Nat.le_of_ble_eq_true rfl), (Nat.le_of_ble_eq_true rfl), (Nat.le_of_ble_eq_true rfl), (Nat.le_of_ble_eq_true rfl)⟩ (by decide) ?_
        refine sp_Model_in ?_
        refine ⟨_, rfl, ?_⟩
        refine ex_asN (a := 0) (by rw [e3]) ?_
        refine ex_if_eqN (tgt := 34) dX10_level_27 (by decide) (by omega) (fun h27 => ?_) (fun h27 => by exact absurd h27 (by decide))
        refine ex_iconst (v := nI 0) dX10_level_34 (by decide) ?_
        refine ex_iconst (v := nI 1) dX10_level_35 (by decide) ?_
        refine ex_cV (ν := m_Model_good) (a := 56) (ci := 10) (as := [.int (nI (0)), .int (nI (1))]) dX10_level_36 ln_Model_141 mf_Model_good rfl (Nat.le_of_ble_eq_true rfl) rfl rfl np_Model_good rfl rfl ⟨(Nat.le_of_ble_eq_true rfl), (Nat.le_of_ble_eq_true rfl), (Nat.le_of_ble_eq_true rfl), (Nat.le_of_ble_eq_true rfl)⟩ (by decide) ?_
        refine sp_Model_good (by decide) ?_
        refine ⟨_, rfl, ?_⟩
        refine ex_if_neN (tgt := 44) dX10_level_39 (by decide) (by omega) (fun h39 => by exact absurd h39 (by decide)) (fun h39 => ?_)
        refine ex_iconst (v := nI 0) dX10_level_42 (by decide) ?_
        refine ex_iret dX10_level_43 rfl rfl ?_
        exact HX (Or.inr (Or.inr (Or.inr (h3.elim Or.inl Or.inr))))
      · have z0 : ¬ z < 0 := fun c => h3 (Or.inl c)
        have z2 : ¬ nI 2 < z := fun c => h3 (Or.inr c)
        have e3 : inX z (nI 0) (nI 2) = 1 := by unfold inX; rw [if_pos ⟨Int32.not_lt.mp z0, Int32.not_lt.mp z2⟩]
        refine ex_aload_n (i := 0) dX10_level_0 rfl rfl ?_
        refine ex_iload_n (i := 1) dX10_level_1 rfl rfl ?_
        refine ex_iconst (v := nI 1) dX10_level_2 (by decide) ?_
        refine ex_bipush (v := nI 6) dX10_level_3 (by decide) ?_
        refine ex_cS (ν := m_Model_in) (as := [.int (nI (s)), .int (nI (1)), .int (nI (6))]) dX10_level_5 ln_Model_127 mf_Model_in np_Model_in rfl rfl ⟨(Nat.le_of_ble_eq_true rfl), (Nat.le_of_ble_eq_true rfl), (Nat.le_of_ble_eq_true rfl), (Nat.le_of_ble_eq_true rfl)⟩ (by decide) ?_
        refine sp_Model_in ?_
        refine ⟨_, rfl, ?_⟩
        refine ex_asN (a := 1) (by rw [e1]) ?_
        refine ex_if_eqN (tgt := 34) dX10_level_8 (by decide) (by omega) (fun h8 => by exact absurd h8 (by decide)) (fun h8 => ?_)
        refine ex_iload_n (i := 2) dX10_level_11 rfl rfl ?_
        refine ex_iconst (v := nI 0) dX10_level_12 (by decide) ?_
        refine ex_bipush (v := nI 9) dX10_level_13 (by decide) ?_
        refine ex_cS (ν := m_Model_in) (as := [.int (y), .int (nI (0)), .int (nI (9))]) dX10_level_15 ln_Model_127 mf_Model_in np_Model_in rfl rfl ⟨(Nat.le_of_ble_eq_true rfl), (Nat.le_of_ble_eq_true rfl), (Nat.le_of_ble_eq_true rfl), (Nat.le_of_ble_eq_true rfl)⟩ (by decide) ?_
        refine sp_Model_in ?_
        refine ⟨_, rfl, ?_⟩
        refine ex_asN (a := 1) (by rw [e2]) ?_
        refine ex_if_eqN (tgt := 34) dX10_level_18 (by decide) (by omega) (fun h18 => by exact absurd h18 (by decide)) (fun h18 => ?_)
        refine ex_iload_n (i := 3) dX10_level_21 rfl rfl ?_
        refine ex_iconst (v := nI 0) dX10_level_22 (by decide) ?_
        refine ex_iconst (v := nI 2) dX10_level_23 (by decide) ?_
        refine ex_cS (ν := m_Model_in) (as := [.int (z), .int (nI (0)), .int (nI (2))]) dX10_level_24 ln_Model_127 mf_Model_in np_Model_in rfl rfl ⟨(Nat.le_of_ble_eq_true rfl), (Nat.le_of_ble_eq_true rfl), (Nat.le_of_ble_eq_true rfl), (Nat.le_of_ble_eq_true rfl)⟩ (by decide) ?_
        refine sp_Model_in ?_
        refine ⟨_, rfl, ?_⟩
        refine ex_asN (a := 1) (by rw [e3]) ?_
        refine ex_if_eqN (tgt := 34) dX10_level_27 (by decide) (by omega) (fun h27 => by exact absurd h27 (by decide)) (fun h27 => ?_)
        refine ex_iconst (v := nI 1) dX10_level_30 (by decide) ?_
        refine ex_goto (tgt := 35) dX10_level_31 (by decide) ?_
        refine ex_iconst (v := nI 1) dX10_level_35 (by decide) ?_
        refine ex_cV (ν := m_Model_good) (a := 56) (ci := 10) (as := [.int (nI (1)), .int (nI (1))]) dX10_level_36 ln_Model_141 mf_Model_good rfl (Nat.le_of_ble_eq_true rfl) rfl rfl np_Model_good rfl rfl ⟨(Nat.le_of_ble_eq_true rfl), (Nat.le_of_ble_eq_true rfl), (Nat.le_of_ble_eq_true rfl), (Nat.le_of_ble_eq_true rfl)⟩ (by decide) ?_
        refine sp_Model_good (c := 1) (by decide) ?_
        refine ⟨_, rfl, ?_⟩
        refine ex_if_neN (tgt := 44) dX10_level_39 (by decide) (by omega) (fun h39 => ?_) (fun h39 => by exact absurd h39 (by decide))
        refine ex_aload_n (i := 0) dX10_level_44 rfl rfl ?_
        refine ex_getR (v := .ref (60)) dX10_level_45 fl_Model_19 rfl rfl (by decide) rfl ?_
        refine ex_iload_n (i := 1) dX10_level_48 rfl rfl ?_
        refine ex_ialdN dX10_level_49 rfl (by decide) (by omega) rfl ?_
        refine ex_istore (L' := [some (.ref (56)), some (.int (nI (s))), some (.int (y)), some (.int (z)), some (.int ((xU i 56 45 (nI 0)) (60) (s)))]) dX10_level_50 (by decide) rfl ?_
        refine ex_aload_n (i := 0) dX10_level_52 rfl rfl ?_
        refine ex_getR (v := .ref (60)) dX10_level_53 fl_Model_19 rfl rfl (by decide) rfl ?_
        refine ex_iload_n (i := 1) dX10_level_56 rfl rfl ?_
        refine ex_iload_n (i := 2) dX10_level_57 rfl rfl ?_
        refine ex_iastN dX10_level_58 rfl (by decide) (by omega) ?_
        refine ex_aload_n (i := 0) dX10_level_59 rfl rfl ?_
        refine ex_getR (v := .ref (61)) dX10_level_60 fl_Model_22 rfl rfl (by decide) rfl ?_
        refine ex_iload_n (i := 1) dX10_level_63 rfl rfl ?_
        refine ex_iload_n (i := 3) dX10_level_64 rfl rfl ?_
        refine ex_iastN dX10_level_65 rfl (by decide) (by omega) ?_
        refine ex_aload_n (i := 0) dX10_level_66 rfl rfl ?_
        refine ex_iconst (v := nI 0) dX10_level_67 (by decide) ?_
        refine ex_putI dX10_level_68 fl_Model_148 cf_10 rfl (Or.inl rfl) (by decide) (by decide) rfl (by decide) ?_
        refine ex_iload dX10_level_71 rfl ?_
        refine ex_iret dX10_level_73 rfl rfl ?_
        refine hQ s rfl s1 s2 y0 y9 z0 z2 _ ((((Fm.rf.F (by decide)).U (by decide) (by decide)).U (by decide) (by decide)).F (by decide)) ?_ ?_ ?_ ?_
        · rw [xU_at, xU_ne _ _ _ (show (56 : Nat) ≠ 61 by decide), xU_ne _ _ _ (show (56 : Nat) ≠ 60 by decide), xU_at]; simp [upd]
        · rw [xU_at]; simp [upd]
        · rw [xU_ne _ _ _ (show (60 : Nat) ≠ 56 by decide), xU_ne _ _ _ (show (60 : Nat) ≠ 61 by decide), xU_at, xU_ne _ _ _ (show (60 : Nat) ≠ 56 by decide)]
        · rw [xU_ne _ _ _ (show (61 : Nat) ≠ 56 by decide), xU_at, xU_ne _ _ _ (show (61 : Nat) ≠ 60 by decide), xU_ne _ _ _ (show (61 : Nat) ≠ 56 by decide)]
theorem sp_Model_token {x y : Int32} {a : Nat} (h27 : i 56 27 = nI a) (ha : a ≤ 40) (hX1 : tmX x = 0 → ∀ i1, Fm [] [45] i i1 → i1 56 45 = nI 1 → Q (.ok (some (.int (nI 0)))) (94, g, i1, q, RT t)) (hX2 : ¬ tmX x = 0 → 40 ≤ a → ∀ i1, Fm [] [45] i i1 → i1 56 45 = nI 2 → Q (.ok (some (.int (nI 0)))) (94, g, i1, q, RT t))
    (hQ : ¬ tmX x = 0 → a < 40 → ∀ i1, Fm [77, 78] [27, 45] i i1 → i1 56 45 = nI 0 → i1 56 27 = nI (a + 1) → i1 77 = upd (i 77) a x → i1 78 = upd (i 78) a y → Q (.ok (some (.int (nI (a + 1))))) (94, g, i1, q, RT t)) : Wx m_Model_token 0 [some (.ref 56), some (.int x), some (.int y)] [] (94, g, i, q, RT t) (0, 0) Q := by
  have e27 : ∀ v, xU i 56 45 v 56 27 = nI a := fun v => by rw [xU_at]; simp [upd, h27]
  by_cases h : tmX x = 0
  ·
    refine ex_aload_n (i := 0) dX10_token_0 rfl rfl ?_
    refine ex_iload_n (i := 1) dX10_token_1 rfl rfl ?_
    refine ex_iconst (v := nI 1) dX10_token_2 (by decide) ?_
    refine ex_bipush (v := nI 6) dX10_token_3 (by decide) ?_
    refine ex_cS (ν := m_Model_in) (as := [.int (x), .int (nI (1)), .int (nI (6))]) dX10_token_5 ln_Model_127 mf_Model_in np_Model_in rfl rfl ⟨(Nat.le_of_ble_eq_true rfl), (Nat.le_of_ble_eq_true rfl), (Nat.le_of_ble_eq_true rfl), (Nat.le_of_ble_eq_true rfl)⟩ (by decide) ?_
    refine sp_Model_in ?_
    refine ⟨_, rfl, ?_⟩
    refine ex_asN (a := 0) (by rw [inX_tm, h]) ?_
    refine ex_iconst (v := nI 1) dX10_token_8 (by decide) ?_
    refine ex_cV (ν := m_Model_good) (a := 56) (ci := 10) (as := [.int (nI (0)), .int (nI (1))]) dX10_token_9 ln_Model_141 mf_Model_good rfl (Nat.le_of_ble_eq_true rfl) rfl rfl np_Model_good rfl rfl ⟨(Nat.le_of_ble_eq_true rfl), (Nat.le_of_ble_eq_true rfl), (Nat.le_of_ble_eq_true rfl), (Nat.le_of_ble_eq_true rfl)⟩ (by decide) ?_
    refine sp_Model_good (by decide) ?_
    refine ⟨_, rfl, ?_⟩
    refine ex_if_eqN (tgt := 37) dX10_token_12 (by decide) (by omega) (fun h12 => ?_) (fun h12 => by exact absurd h12 (by decide))
    refine ex_iconst (v := nI 0) dX10_token_37 (by decide) ?_
    refine ex_iret dX10_token_38 rfl rfl ?_
    exact hX1 h _ (Fm.rf.F (by decide)) (by rw [xU_at]; simp [upd])
  · have e1 : inX x (nI 1) (nI 6) = 1 := by rw [inX_tm]; unfold tmX at h ⊢; split at h; rename_i c; rw [if_pos c]; exact absurd rfl h
    by_cases h2 : 40 ≤ a
    ·
      refine ex_aload_n (i := 0) dX10_token_0 rfl rfl ?_
      refine ex_iload_n (i := 1) dX10_token_1 rfl rfl ?_
      refine ex_iconst (v := nI 1) dX10_token_2 (by decide) ?_
      refine ex_bipush (v := nI 6) dX10_token_3 (by decide) ?_
      refine ex_cS (ν := m_Model_in) (as := [.int (x), .int (nI (1)), .int (nI (6))]) dX10_token_5 ln_Model_127 mf_Model_in np_Model_in rfl rfl ⟨(Nat.le_of_ble_eq_true rfl), (Nat.le_of_ble_eq_true rfl), (Nat.le_of_ble_eq_true rfl), (Nat.le_of_ble_eq_true rfl)⟩ (by decide) ?_
      refine sp_Model_in ?_
      refine ⟨_, rfl, ?_⟩
      refine ex_asN (a := 1) (by rw [e1]) ?_
      refine ex_iconst (v := nI 1) dX10_token_8 (by decide) ?_
      refine ex_cV (ν := m_Model_good) (a := 56) (ci := 10) (as := [.int (nI (1)), .int (nI (1))]) dX10_token_9 ln_Model_141 mf_Model_good rfl (Nat.le_of_ble_eq_true rfl) rfl rfl np_Model_good rfl rfl ⟨(Nat.le_of_ble_eq_true rfl), (Nat.le_of_ble_eq_true rfl), (Nat.le_of_ble_eq_true rfl), (Nat.le_of_ble_eq_true rfl)⟩ (by decide) ?_
      refine sp_Model_good (c := 1) (by decide) ?_
      refine ⟨_, rfl, ?_⟩
      refine ex_if_eqN (tgt := 37) dX10_token_12 (by decide) (by omega) (fun h12 => by exact absurd h12 (by decide)) (fun h12 => ?_)
      refine ex_aload_n (i := 0) dX10_token_15 rfl rfl ?_
      refine ex_aload_n (i := 0) dX10_token_16 rfl rfl ?_
      refine ex_getI dX10_token_17 fl_Model_224 rfl rfl (by decide) ?_
      refine ex_asN (a := a) (e27 _) ?_
      refine ex_bipush (v := nI 40) dX10_token_20 (by decide) ?_
      refine ex_icmp_geN (tgt := 29) dX10_token_22 (by decide) (by omega) (by omega) (fun h22 => ?_) (fun h22 => by omega)
      refine ex_iconst (v := nI 0) dX10_token_29 (by decide) ?_
      refine ex_iconst (v := nI 2) dX10_token_30 (by decide) ?_
      refine ex_cV (ν := m_Model_good) (a := 56) (ci := 10) (as := [.int (nI (0)), .int (nI (2))]) dX10_token_31 ln_Model_141 mf_Model_good rfl (Nat.le_of_ble_eq_true rfl) rfl rfl np_Model_good rfl rfl ⟨(Nat.le_of_ble_eq_true rfl), (Nat.le_of_ble_eq_true rfl), (Nat.le_of_ble_eq_true rfl), (Nat.le_of_ble_eq_true rfl)⟩ (by decide) ?_
      refine sp_Model_good (by decide) ?_
      refine ⟨_, rfl, ?_⟩
      refine ex_if_neN (tgt := 39) dX10_token_34 (by decide) (by omega) (fun h34 => by exact absurd h34 (by decide)) (fun h34 => ?_)
      refine ex_iconst (v := nI 0) dX10_token_37 (by decide) ?_
      refine ex_iret dX10_token_38 rfl rfl ?_
      exact hX2 h h2 _ ((Fm.rf.F (by decide)).F (by decide)) (by rw [xU_at]; simp [upd])
    · have h27b : ∀ v w, xU (xU i 56 45 v) 56 45 w 56 27 = nI a := fun v w => by rw [xU_at]; simp only [upd]; rw [if_neg (by decide), e27]
      refine ex_aload_n (i := 0) dX10_token_0 rfl rfl ?_
      refine ex_iload_n (i := 1) dX10_token_1 rfl rfl ?_
      refine ex_iconst (v := nI 1) dX10_token_2 (by decide) ?_
      refine ex_bipush (v := nI 6) dX10_token_3 (by decide) ?_
      refine ex_cS (ν := m_Model_in) (as := [.int (x), .int (nI (1)), .int (nI (6))]) dX10_token_5 ln_Model_127 mf_Model_in np_Model_in rfl rfl ⟨(Nat.le_of_ble_eq_true rfl), (Nat.le_of_ble_eq_true rfl), (Nat.le_of_ble_eq_true rfl), (Nat.le_of_ble_eq_true rfl)⟩ (by decide) ?_
      refine sp_Model_in ?_
      refine ⟨_, rfl, ?_⟩
      refine ex_asN (a := 1) (by rw [e1]) ?_
      refine ex_iconst (v := nI 1) dX10_token_8 (by decide) ?_
      refine ex_cV (ν := m_Model_good) (a := 56) (ci := 10) (as := [.int (nI (1)), .int (nI (1))]) dX10_token_9 ln_Model_141 mf_Model_good rfl (Nat.le_of_ble_eq_true rfl) rfl rfl np_Model_good rfl rfl ⟨(Nat.le_of_ble_eq_true rfl), (Nat.le_of_ble_eq_true rfl), (Nat.le_of_ble_eq_true rfl), (Nat.le_of_ble_eq_true rfl)⟩ (by decide) ?_
      refine sp_Model_good (c := 1) (by decide) ?_
      refine ⟨_, rfl, ?_⟩
      refine ex_if_eqN (tgt := 37) dX10_token_12 (by decide) (by omega) (fun h12 => by exact absurd h12 (by decide)) (fun h12 => ?_)
      refine ex_aload_n (i := 0) dX10_token_15 rfl rfl ?_
      refine ex_aload_n (i := 0) dX10_token_16 rfl rfl ?_
      refine ex_getI dX10_token_17 fl_Model_224 rfl rfl (by decide) ?_
      refine ex_asN (a := a) (e27 _) ?_
      refine ex_bipush (v := nI 40) dX10_token_20 (by decide) ?_
      refine ex_icmp_geN (tgt := 29) dX10_token_22 (by decide) (by omega) (by omega) (fun h22 => by omega) (fun h22 => ?_)
      refine ex_iconst (v := nI 1) dX10_token_25 (by decide) ?_
      refine ex_goto (tgt := 30) dX10_token_26 (by decide) ?_
      refine ex_iconst (v := nI 2) dX10_token_30 (by decide) ?_
      refine ex_cV (ν := m_Model_good) (a := 56) (ci := 10) (as := [.int (nI (1)), .int (nI (2))]) dX10_token_31 ln_Model_141 mf_Model_good rfl (Nat.le_of_ble_eq_true rfl) rfl rfl np_Model_good rfl rfl ⟨(Nat.le_of_ble_eq_true rfl), (Nat.le_of_ble_eq_true rfl), (Nat.le_of_ble_eq_true rfl), (Nat.le_of_ble_eq_true rfl)⟩ (by decide) ?_
      refine sp_Model_good (c := 2) (by decide) ?_
      refine ⟨_, rfl, ?_⟩
      refine ex_if_neN (tgt := 39) dX10_token_34 (by decide) (by omega) (fun h34 => ?_) (fun h34 => by exact absurd h34 (by decide))
      refine ex_aload_n (i := 0) dX10_token_39 rfl rfl ?_
      refine ex_getR (v := .ref (77)) dX10_token_40 fl_Model_71 rfl rfl (by decide) rfl ?_
      refine ex_aload_n (i := 0) dX10_token_43 rfl rfl ?_
      refine ex_getI dX10_token_44 fl_Model_224 rfl rfl (by decide) ?_
      refine ex_asN (a := a) (h27b _ _) ?_
      refine ex_iload_n (i := 1) dX10_token_47 rfl rfl ?_
      refine ex_iastN dX10_token_48 rfl (by decide) (by omega) ?_
      refine ex_aload_n (i := 0) dX10_token_49 rfl rfl ?_
      refine ex_getR (v := .ref (78)) dX10_token_50 fl_Model_74 rfl rfl (by decide) rfl ?_
      refine ex_aload_n (i := 0) dX10_token_53 rfl rfl ?_
      refine ex_getI dX10_token_54 fl_Model_224 rfl rfl (by decide) ?_
      refine ex_asI (y := (xU (xU i 56 45 (nI 0)) 56 45 (nI 0)) (56) (27)) (by first | rfl | simp [xU, upd]) ?_
      refine ex_asN (a := a) (h27b _ _) ?_
      refine ex_iload_n (i := 2) dX10_token_57 rfl rfl ?_
      refine ex_iastN dX10_token_58 rfl (by decide) (by omega) ?_
      refine ex_aload_n (i := 0) dX10_token_59 rfl rfl ?_
      refine ex_dup dX10_token_60 rfl ?_
      refine ex_getI dX10_token_61 fl_Model_224 rfl rfl (by decide) ?_
      refine ex_asI (y := (xU (xU i 56 45 (nI 0)) 56 45 (nI 0)) (56) (27)) (by first | rfl | simp [xU, upd]) ?_
      refine ex_asN (a := a) (h27b _ _) ?_
      refine ex_iconst (v := nI 1) dX10_token_64 (by decide) ?_
      refine ex_iaddN dX10_token_65 ?_
      refine ex_putI dX10_token_66 fl_Model_224 cf_10 rfl (Or.inl rfl) rfl rfl rfl (by decide) ?_
      refine ex_aload_n (i := 0) dX10_token_69 rfl rfl ?_
      refine ex_getI dX10_token_70 fl_Model_224 rfl rfl (by decide) ?_
      refine ex_asN (a := a + 1) (by first | rfl | simp [xU, upd]) ?_
      refine ex_iret dX10_token_73 rfl rfl ?_
      refine hQ h (by omega) _ (((((Fm.rf.F (by decide)).F (by decide)).U (by decide) (by decide)).U (by decide) (by decide)).F (by decide)) ?_ ?_ ?_ ?_
      · rw [xU_at]; simp only [upd]; rw [if_neg (by decide), xU_ne _ _ _ (show (56 : Nat) ≠ 78 by decide), xU_ne _ _ _ (show (56 : Nat) ≠ 77 by decide), xU_at]; simp [upd]
      · rw [xU_at]; simp [upd]
      · rw [xU_ne _ _ _ (show (77 : Nat) ≠ 56 by decide), xU_ne _ _ _ (show (77 : Nat) ≠ 78 by decide), xU_at, xU_ne _ _ _ (show (77 : Nat) ≠ 56 by decide), xU_ne _ _ _ (show (77 : Nat) ≠ 56 by decide)]
      · rw [xU_ne _ _ _ (show (78 : Nat) ≠ 56 by decide), xU_at, xU_ne _ _ _ (show (78 : Nat) ≠ 77 by decide), xU_ne _ _ _ (show (78 : Nat) ≠ 56 by decide), xU_ne _ _ _ (show (78 : Nat) ≠ 56 by decide)]
end S58
