/-! ===== the reference: answers about what is built, the tree, count, clear ===== -/
section S59
variable {g : Nat} {i : Nat → Nat → Int32} {q : Nat → Nat → Int64} {t : Bool} {Q : xRes → xMem → Prop} {n : Nat} {sy : Nat → Nat → Nat} {op xp yp : Nat → Nat}
theorem cd_at (i : Nat → Nat → Int32) (v : Int32) : xU i 56 45 v 56 45 = v := by rw [xU_at]; simp [upd]
theorem cd_at2 (i : Nat → Nat → Int32) (v w : Int32) : xU (xU i 56 45 v) 56 45 w 56 45 = w := by rw [xU_at]; simp [upd]
theorem cd_ne (i : Nat → Nat → Int32) (v : Int32) {k : Nat} (h : k ≠ 45) : xU i 56 45 v 56 k = i 56 k := by rw [xU_at]; simp [upd, h]
theorem sp_Model_go {x y : Int32} {b S : Nat} (h9 : i 56 9 = nI b) (hb : b ≤ 1) (h11 : i 56 11 = nI S) (hS : S ≤ 50) (hX0 : b = 0 → ∀ i1, Fm [] [45] i i1 → i1 56 45 = nI 1 → Q (.ok (some (.int (nI 0)))) (94, g, i1, q, RT t)) (hX1 : ¬ b = 0 → (¬ ∃ s, x = nI s ∧ s < S) ∨ ntX y = 0 → ∀ i1, Fm [] [45] i i1 → i1 56 45 = nI 2 → Q (.ok (some (.int (nI 0)))) (94, g, i1, q, RT t))
    (hQ : ∀ s k, ¬ b = 0 → x = nI s → s < S → y = nI k → 8 ≤ k → k ≤ 13 → ∀ i1, Fm [] [45] i i1 → i1 56 45 = nI 0 → Q (.ok (some (.int (i 67 (14 * s + k))))) (94, g, i1, q, RT t)) : Wx m_Model_go 0 [some (.ref 56), some (.int x), some (.int y)] [] (94, g, i, q, RT t) (0, 0) Q := by
  by_cases b0 : b = 0
  · subst b0
    refine ex_aload_n (i := 0) dX10_go_0 rfl rfl ?_
    refine ex_aload_n (i := 0) dX10_go_1 rfl rfl ?_
    refine ex_getI dX10_go_2 fl_Model_148 rfl rfl (by decide) ?_
    refine ex_asN (a := 0) h9 ?_
    refine ex_iconst (v := nI 1) dX10_go_5 (by decide) ?_
    refine ex_cV (ν := m_Model_good) (a := 56) (ci := 10) (as := [.int (nI (0)), .int (nI (1))]) dX10_go_6 ln_Model_141 mf_Model_good rfl (Nat.le_of_ble_eq_true rfl) rfl rfl np_Model_good rfl rfl ⟨(Nat.le_of_ble_eq_true rfl), (Nat.le_of_ble_eq_true rfl), (Nat.le_of_ble_eq_true rfl), (Nat.le_of_ble_eq_true rfl)⟩ (by decide) ?_
    refine sp_Model_good (b := 0) (by decide) ?_
    refine ⟨_, rfl, ?_⟩
    refine ex_if_eqN (tgt := 50) dX10_go_9 (by decide) (by omega) (fun h9 => ?_) (fun h9 => by exact absurd h9 (by decide))
    refine ex_iconst (v := nI 0) dX10_go_50 (by decide) ?_
    refine ex_iret dX10_go_51 rfl rfl ?_
    exact hX0 rfl _ (Fm.rf.F (by decide)) (cd_at _ _)
  · have b1 : b = 1 := by omega
    subst b1
    have e11 : ∀ v, xU i 56 45 v 56 11 = nI S := fun v => by rw [cd_ne _ _ (by decide)]; exact h11
    by_cases hs : ∃ s, x = nI s ∧ s < S
    · obtain ⟨s, rfl, hs2⟩ := hs
      have eI : inX (nI s) (nI 0) (nI S - nI 1) = 1 := inX_1 (by omega) ⟨s, rfl, hs2⟩
      by_cases hn : ntX y = 0
      ·
        refine ex_aload_n (i := 0) dX10_go_0 rfl rfl ?_
        refine ex_aload_n (i := 0) dX10_go_1 rfl rfl ?_
        refine ex_getI dX10_go_2 fl_Model_148 rfl rfl (by decide) ?_
        refine ex_asN (a := 1) h9 ?_
        refine ex_iconst (v := nI 1) dX10_go_5 (by decide) ?_
        refine ex_cV (ν := m_Model_good) (a := 56) (ci := 10) (as := [.int (nI (1)), .int (nI (1))]) dX10_go_6 ln_Model_141 mf_Model_good rfl (Nat.le_of_ble_eq_true rfl) rfl rfl np_Model_good rfl rfl ⟨(Nat.le_of_ble_eq_true rfl), (Nat.le_of_ble_eq_true rfl), (Nat.le_of_ble_eq_true rfl), (Nat.le_of_ble_eq_true rfl)⟩ (by decide) ?_
        refine sp_Model_good (b := 1) (by decide) ?_
        refine ⟨_, rfl, ?_⟩
        refine ex_if_eqN (tgt := 50) dX10_go_9 (by decide) (by omega) (fun h9 => by exact absurd h9 (by decide)) (fun h9 => ?_)
        refine ex_aload_n (i := 0) dX10_go_12 rfl rfl ?_
        refine ex_iload_n (i := 1) dX10_go_13 rfl rfl ?_
        refine ex_iconst (v := nI 0) dX10_go_14 (by decide) ?_
        refine ex_aload_n (i := 0) dX10_go_15 rfl rfl ?_
        refine ex_getI dX10_go_16 fl_Model_170 rfl rfl (by decide) ?_
        refine ex_asI (y := nI S) (e11 _) ?_
        refine ex_iconst (v := nI 1) dX10_go_19 (by decide) ?_
        refine ex_isub dX10_go_20 ?_
        refine ex_cS (ν := m_Model_in) (as := [.int (nI (s)), .int (nI (0)), .int ((nI S) - (nI (1)))]) dX10_go_21 ln_Model_127 mf_Model_in np_Model_in rfl rfl ⟨(Nat.le_of_ble_eq_true rfl), (Nat.le_of_ble_eq_true rfl), (Nat.le_of_ble_eq_true rfl), (Nat.le_of_ble_eq_true rfl)⟩ (by decide) ?_
        refine sp_Model_in ?_
        refine ⟨_, rfl, ?_⟩
        refine ex_asN (a := 1) (by rw [eI]) ?_
        refine ex_if_eqN (tgt := 42) dX10_go_24 (by decide) (by omega) (fun h24 => by exact absurd h24 (by decide)) (fun h24 => ?_)
        refine ex_iload_n (i := 2) dX10_go_27 rfl rfl ?_
        refine ex_bipush (v := nI 8) dX10_go_28 (by decide) ?_
        refine ex_bipush (v := nI 13) dX10_go_30 (by decide) ?_
        refine ex_cS (ν := m_Model_in) (as := [.int (y), .int (nI (8)), .int (nI (13))]) dX10_go_32 ln_Model_127 mf_Model_in np_Model_in rfl rfl ⟨(Nat.le_of_ble_eq_true rfl), (Nat.le_of_ble_eq_true rfl), (Nat.le_of_ble_eq_true rfl), (Nat.le_of_ble_eq_true rfl)⟩ (by decide) ?_
        refine sp_Model_in ?_
        refine ⟨_, rfl, ?_⟩
        refine ex_asN (a := 0) (by rw [inX_nt, hn]) ?_
        refine ex_if_eqN (tgt := 42) dX10_go_35 (by decide) (by omega) (fun h35 => ?_) (fun h35 => by exact absurd h35 (by decide))
        refine ex_iconst (v := nI 0) dX10_go_42 (by decide) ?_
        refine ex_iconst (v := nI 2) dX10_go_43 (by decide) ?_
        refine ex_cV (ν := m_Model_good) (a := 56) (ci := 10) (as := [.int (nI (0)), .int (nI (2))]) dX10_go_44 ln_Model_141 mf_Model_good rfl (Nat.le_of_ble_eq_true rfl) rfl rfl np_Model_good rfl rfl ⟨(Nat.le_of_ble_eq_true rfl), (Nat.le_of_ble_eq_true rfl), (Nat.le_of_ble_eq_true rfl), (Nat.le_of_ble_eq_true rfl)⟩ (by decide) ?_
        refine sp_Model_good (b := 0) (by decide) ?_
        refine ⟨_, rfl, ?_⟩
        refine ex_if_neN (tgt := 52) dX10_go_47 (by decide) (by omega) (fun h47 => by exact absurd h47 (by decide)) (fun h47 => ?_)
        refine ex_iconst (v := nI 0) dX10_go_50 (by decide) ?_
        refine ex_iret dX10_go_51 rfl rfl ?_
        exact hX1 (by decide) (Or.inr hn) _ ((Fm.rf.F (by decide)).F (by decide)) (cd_at2 _ _ _)
      · obtain ⟨k, rfl, k1, k2⟩ := ntX_s hn
        have eN : ntX (nI k) = 1 := by rw [ntX_n (by omega)]; unfold ntB; rw [if_pos ⟨k1, k2⟩]
        refine ex_aload_n (i := 0) dX10_go_0 rfl rfl ?_
        refine ex_aload_n (i := 0) dX10_go_1 rfl rfl ?_
        refine ex_getI dX10_go_2 fl_Model_148 rfl rfl (by decide) ?_
        refine ex_asN (a := 1) h9 ?_
        refine ex_iconst (v := nI 1) dX10_go_5 (by decide) ?_
        refine ex_cV (ν := m_Model_good) (a := 56) (ci := 10) (as := [.int (nI (1)), .int (nI (1))]) dX10_go_6 ln_Model_141 mf_Model_good rfl (Nat.le_of_ble_eq_true rfl) rfl rfl np_Model_good rfl rfl ⟨(Nat.le_of_ble_eq_true rfl), (Nat.le_of_ble_eq_true rfl), (Nat.le_of_ble_eq_true rfl), (Nat.le_of_ble_eq_true rfl)⟩ (by decide) ?_
        refine sp_Model_good (b := 1) (by decide) ?_
        refine ⟨_, rfl, ?_⟩
        refine ex_if_eqN (tgt := 50) dX10_go_9 (by decide) (by omega) (fun h9 => by exact absurd h9 (by decide)) (fun h9 => ?_)
        refine ex_aload_n (i := 0) dX10_go_12 rfl rfl ?_
        refine ex_iload_n (i := 1) dX10_go_13 rfl rfl ?_
        refine ex_iconst (v := nI 0) dX10_go_14 (by decide) ?_
        refine ex_aload_n (i := 0) dX10_go_15 rfl rfl ?_
        refine ex_getI dX10_go_16 fl_Model_170 rfl rfl (by decide) ?_
        refine ex_asI (y := nI S) (e11 _) ?_
        refine ex_iconst (v := nI 1) dX10_go_19 (by decide) ?_
        refine ex_isub dX10_go_20 ?_
        refine ex_cS (ν := m_Model_in) (as := [.int (nI (s)), .int (nI (0)), .int ((nI S) - (nI (1)))]) dX10_go_21 ln_Model_127 mf_Model_in np_Model_in rfl rfl ⟨(Nat.le_of_ble_eq_true rfl), (Nat.le_of_ble_eq_true rfl), (Nat.le_of_ble_eq_true rfl), (Nat.le_of_ble_eq_true rfl)⟩ (by decide) ?_
        refine sp_Model_in ?_
        refine ⟨_, rfl, ?_⟩
        refine ex_asN (a := 1) (by rw [eI]) ?_
        refine ex_if_eqN (tgt := 42) dX10_go_24 (by decide) (by omega) (fun h24 => by exact absurd h24 (by decide)) (fun h24 => ?_)
        refine ex_iload_n (i := 2) dX10_go_27 rfl rfl ?_
        refine ex_bipush (v := nI 8) dX10_go_28 (by decide) ?_
        refine ex_bipush (v := nI 13) dX10_go_30 (by decide) ?_
        refine ex_cS (ν := m_Model_in) (as := [.int (nI (k)), .int (nI (8)), .int (nI (13))]) dX10_go_32 ln_Model_127 mf_Model_in np_Model_in rfl rfl ⟨(Nat.le_of_ble_eq_true rfl), (Nat.le_of_ble_eq_true rfl), (Nat.le_of_ble_eq_true rfl), (Nat.le_of_ble_eq_true rfl)⟩ (by decide) ?_
        refine sp_Model_in ?_
        refine ⟨_, rfl, ?_⟩
        refine ex_asN (a := 1) (by rw [inX_nt, eN]) ?_
        refine ex_if_eqN (tgt := 42) dX10_go_35 (by decide) (by omega) (fun h35 => by exact absurd h35 (by decide)) (fun h35 => ?_)
        refine ex_iconst (v := nI 1) dX10_go_38 (by decide) ?_
        refine ex_goto (tgt := 43) dX10_go_39 (by decide) ?_
        refine ex_iconst (v := nI 2) dX10_go_43 (by decide) ?_
        refine ex_cV (ν := m_Model_good) (a := 56) (ci := 10) (as := [.int (nI (1)), .int (nI (2))]) dX10_go_44 ln_Model_141 mf_Model_good rfl (Nat.le_of_ble_eq_true rfl) rfl rfl np_Model_good rfl rfl ⟨(Nat.le_of_ble_eq_true rfl), (Nat.le_of_ble_eq_true rfl), (Nat.le_of_ble_eq_true rfl), (Nat.le_of_ble_eq_true rfl)⟩ (by decide) ?_
        refine sp_Model_good (b := 1) (by decide) ?_
        refine ⟨_, rfl, ?_⟩
        refine ex_if_neN (tgt := 52) dX10_go_47 (by decide) (by omega) (fun h47 => ?_) (fun h47 => by exact absurd h47 (by decide))
        refine ex_aload_n (i := 0) dX10_go_52 rfl rfl ?_
        refine ex_getR (v := .ref (67)) dX10_go_53 fl_Model_41 rfl rfl (by decide) rfl ?_
        refine ex_bipush (v := nI 14) dX10_go_56 (by decide) ?_
        refine ex_iload_n (i := 1) dX10_go_58 rfl rfl ?_
        refine ex_imulN dX10_go_59 ?_
        refine ex_iload_n (i := 2) dX10_go_60 rfl rfl ?_
        refine ex_iaddN dX10_go_61 ?_
        refine ex_ialdN dX10_go_62 rfl (by decide) (by omega) rfl ?_
        refine ex_iret dX10_go_63 rfl rfl ?_
        exact hQ s k (by decide) rfl hs2 rfl k1 k2 _ ((Fm.rf.F (by decide)).F (by decide)) (cd_at2 _ _ _)
    · have eI : inX x (nI 0) (nI S - nI 1) = 0 := inX_0 (by omega) hs
      refine ex_aload_n (i := 0) dX10_go_0 rfl rfl ?_
      refine ex_aload_n (i := 0) dX10_go_1 rfl rfl ?_
      refine ex_getI dX10_go_2 fl_Model_148 rfl rfl (by decide) ?_
      refine ex_asN (a := 1) h9 ?_
      refine ex_iconst (v := nI 1) dX10_go_5 (by decide) ?_
      refine ex_cV (ν := m_Model_good) (a := 56) (ci := 10) (as := [.int (nI (1)), .int (nI (1))]) dX10_go_6 ln_Model_141 mf_Model_good rfl (Nat.le_of_ble_eq_true rfl) rfl rfl np_Model_good rfl rfl ⟨(Nat.le_of_ble_eq_true rfl), (Nat.le_of_ble_eq_true rfl), (Nat.le_of_ble_eq_true rfl), (Nat.le_of_ble_eq_true rfl)⟩ (by decide) ?_
      refine sp_Model_good (b := 1) (by decide) ?_
      refine ⟨_, rfl, ?_⟩
      refine ex_if_eqN (tgt := 50) dX10_go_9 (by decide) (by omega) (fun h9 => by exact absurd h9 (by decide)) (fun h9 => ?_)
      refine ex_aload_n (i := 0) dX10_go_12 rfl rfl ?_
      refine ex_iload_n (i := 1) dX10_go_13 rfl rfl ?_
      refine ex_iconst (v := nI 0) dX10_go_14 (by decide) ?_
      refine ex_aload_n (i := 0) dX10_go_15 rfl rfl ?_
      refine ex_getI dX10_go_16 fl_Model_170 rfl rfl (by decide) ?_
      refine ex_asI (y := nI S) (e11 _) ?_
      refine ex_iconst (v := nI 1) dX10_go_19 (by decide) ?_
      refine ex_isub dX10_go_20 ?_
      refine ex_cS (ν := m_Model_in) (as := [.int (x), .int (nI (0)), .int ((nI S) - (nI (1)))]) dX10_go_21 ln_Model_127 mf_Model_in np_Model_in rfl rfl ⟨(Nat.le_of_ble_eq_true rfl), (Nat.le_of_ble_eq_true rfl), (Nat.le_of_ble_eq_true rfl), (Nat.le_of_ble_eq_true rfl)⟩ (by decide) ?_
      refine sp_Model_in ?_
      refine ⟨_, rfl, ?_⟩
      refine ex_asN (a := 0) (by rw [eI]) ?_
      refine ex_if_eqN (tgt := 42) dX10_go_24 (by decide) (by omega) (fun h24 => ?_) (fun h24 => by exact absurd h24 (by decide))
      refine ex_iconst (v := nI 0) dX10_go_42 (by decide) ?_
      refine ex_iconst (v := nI 2) dX10_go_43 (by decide) ?_
      refine ex_cV (ν := m_Model_good) (a := 56) (ci := 10) (as := [.int (nI (0)), .int (nI (2))]) dX10_go_44 ln_Model_141 mf_Model_good rfl (Nat.le_of_ble_eq_true rfl) rfl rfl np_Model_good rfl rfl ⟨(Nat.le_of_ble_eq_true rfl), (Nat.le_of_ble_eq_true rfl), (Nat.le_of_ble_eq_true rfl), (Nat.le_of_ble_eq_true rfl)⟩ (by decide) ?_
      refine sp_Model_good (b := 0) (by decide) ?_
      refine ⟨_, rfl, ?_⟩
      refine ex_if_neN (tgt := 52) dX10_go_47 (by decide) (by omega) (fun h47 => by exact absurd h47 (by decide)) (fun h47 => ?_)
      refine ex_iconst (v := nI 0) dX10_go_50 (by decide) ?_
      refine ex_iret dX10_go_51 rfl rfl ?_
      exact hX1 (by decide) (Or.inl hs) _ ((Fm.rf.F (by decide)).F (by decide)) (cd_at2 _ _ _)
end S59
