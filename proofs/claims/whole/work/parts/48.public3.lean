/-! ===== the public methods: action, go ===== -/
section S48
variable {g : Nat} {i : Nat → Nat → Int32} {q : Nat → Nat → Int64} {t : Bool} {Q : xRes → xMem → Prop} {n : Nat} {sy : Nat → Nat → Nat}
theorem sp_Works_go {x y : Int32} {b S : Nat} (sc : SC i) (h7 : i 0 7 = nI b) (hb : b ≤ 1) (h6 : i 16 6 = nI S) (hS : S ≤ 50) (hX0 : b = 0 → Q (.error "java/lang/IllegalStateException") (94, g + 1, i, q, RT t)) (hX1 : ¬ b = 0 → (¬ ∃ s, x = nI s ∧ s < S) ∨ ntX y = 0 → Q (.error "java/lang/IllegalArgumentException") (94, g + 1, i, q, RT t))
    (hQ : ∀ s k, ¬ b = 0 → x = nI s → s < S → y = nI k → 8 ≤ k → k ≤ 13 → Q (.ok (some (.int (i 24 (s * 14 + k))))) (94, g, i, q, RT t)) : Wx m_Works_go 0 [some (.ref 0), some (.int x), some (.int y)] [] (94, g, i, q, RT t) (1, 6) Q := by
  by_cases hs : ∃ s, x = nI s ∧ s < S
  · obtain ⟨s, rfl, hs2⟩ := hs
    by_cases hn : ntX y = 0
    ·
      refine ex_aload_n (i := 0) dX9_go_0 rfl rfl ?_
      refine ex_getI dX9_go_1 fl_Works_58 rfl rfl (by decide) ?_
      refine ex_asN (a := b) h7 ?_
      refine ex_if_neN (tgt := 17) dX9_go_4 (by decide) (by omega) (fun h4 => ?_) (fun h4 => ?_)
      · refine ex_aload_n (i := 0) dX9_go_17 rfl rfl ?_
        refine ex_getR (v := .ref (16)) dX9_go_18 fl_Works_21 rfl rfl (by decide) rfl ?_
        refine ex_iload_n (i := 1) dX9_go_21 rfl rfl ?_
        refine ex_cV (ν := m_States_hasState) (a := 16) (ci := 7) (as := [.int (nI (s))]) dX9_go_22 ln_Works_171 mf_States_hasState rfl (Nat.le_of_ble_eq_true rfl) rfl rfl np_States_hasState rfl rfl ⟨(Nat.le_of_ble_eq_true rfl), (Nat.le_of_ble_eq_true rfl), (Nat.le_of_ble_eq_true rfl), (Nat.le_of_ble_eq_true rfl)⟩ (by decide) ?_
        refine sp_States_hasState (by omega) h6 hS ?_
        refine ⟨_, rfl, ?_⟩
        refine ex_asN (a := 1) (by rw [if_pos hs2]) ?_
        refine ex_if_neN (tgt := 38) dX9_go_25 (by decide) (by omega) (fun h25 => ?_) (fun h25 => by exact absurd h25 (by decide))
        refine ex_iload_n (i := 2) dX9_go_38 rfl rfl ?_
        refine ex_cS (ν := m_Works_isNonterminal) (as := [.int (y)]) dX9_go_39 ln_Works_66 mf_Works_isNonterminal np_Works_isNonterminal rfl rfl ⟨(Nat.le_of_ble_eq_true rfl), (Nat.le_of_ble_eq_true rfl), (Nat.le_of_ble_eq_true rfl), (Nat.le_of_ble_eq_true rfl)⟩ (by decide) ?_
        refine sp_Works_isNonterminal_I ?_
        refine ⟨_, rfl, ?_⟩
        refine ex_asN (a := 0) (by rw [hn]) ?_
        refine ex_if_neN (tgt := 55) dX9_go_42 (by decide) (by omega) (fun h42 => by exact absurd h42 (by decide)) (fun h42 => ?_)
        refine ex_throw th_Works_go_45 (by decide) ?_
        exact hX1 (by omega) (Or.inr hn)
      · refine ex_throw th_Works_go_7 (by decide) ?_
        exact hX0 (by omega)
    · obtain ⟨k, rfl, k1, k2⟩ := ntX_s hn
      refine ex_aload_n (i := 0) dX9_go_0 rfl rfl ?_
      refine ex_getI dX9_go_1 fl_Works_58 rfl rfl (by decide) ?_
      refine ex_asN (a := b) h7 ?_
      refine ex_if_neN (tgt := 17) dX9_go_4 (by decide) (by omega) (fun h4 => ?_) (fun h4 => ?_)
      · refine ex_aload_n (i := 0) dX9_go_17 rfl rfl ?_
        refine ex_getR (v := .ref (16)) dX9_go_18 fl_Works_21 rfl rfl (by decide) rfl ?_
        refine ex_iload_n (i := 1) dX9_go_21 rfl rfl ?_
        refine ex_cV (ν := m_States_hasState) (a := 16) (ci := 7) (as := [.int (nI (s))]) dX9_go_22 ln_Works_171 mf_States_hasState rfl (Nat.le_of_ble_eq_true rfl) rfl rfl np_States_hasState rfl rfl ⟨(Nat.le_of_ble_eq_true rfl), (Nat.le_of_ble_eq_true rfl), (Nat.le_of_ble_eq_true rfl), (Nat.le_of_ble_eq_true rfl)⟩ (by decide) ?_
        refine sp_States_hasState (by omega) h6 hS ?_
        refine ⟨_, rfl, ?_⟩
        refine ex_asN (a := 1) (by rw [if_pos hs2]) ?_
        refine ex_if_neN (tgt := 38) dX9_go_25 (by decide) (by omega) (fun h25 => ?_) (fun h25 => by exact absurd h25 (by decide))
        refine ex_iload_n (i := 2) dX9_go_38 rfl rfl ?_
        refine ex_cS (ν := m_Works_isNonterminal) (as := [.int (nI (k))]) dX9_go_39 ln_Works_66 mf_Works_isNonterminal np_Works_isNonterminal rfl rfl ⟨(Nat.le_of_ble_eq_true rfl), (Nat.le_of_ble_eq_true rfl), (Nat.le_of_ble_eq_true rfl), (Nat.le_of_ble_eq_true rfl)⟩ (by decide) ?_
        refine sp_Works_isNonterminal_I ?_
        refine ⟨_, rfl, ?_⟩
        refine ex_if_neN (tgt := 55) dX9_go_42 (by decide) (ntX_b _) (fun h42 => ?_) (fun h42 => by exact absurd h42 hn)
        refine ex_aload_n (i := 0) dX9_go_55 rfl rfl ?_
        refine ex_getR (v := .ref (16)) dX9_go_56 fl_Works_21 rfl rfl (by decide) rfl ?_
        refine ex_iload_n (i := 1) dX9_go_59 rfl rfl ?_
        refine ex_iload_n (i := 2) dX9_go_60 rfl rfl ?_
        refine ex_cV (ν := m_States_target) (a := 16) (ci := 7) (as := [.int (nI (s)), .int (nI (k))]) dX9_go_61 ln_Works_183 mf_States_target rfl (Nat.le_of_ble_eq_true rfl) rfl rfl np_States_target rfl rfl ⟨(Nat.le_of_ble_eq_true rfl), (Nat.le_of_ble_eq_true rfl), (Nat.le_of_ble_eq_true rfl), (Nat.le_of_ble_eq_true rfl)⟩ (by decide) ?_
        refine sp_States_target sc (by omega) (by omega) ?_
        refine ⟨_, rfl, ?_⟩
        refine ex_K0 ?_
        refine ex_iret dX9_go_64 rfl rfl ?_
        exact hQ s k (by omega) rfl hs2 rfl k1 k2
      · refine ex_throw th_Works_go_7 (by decide) ?_
        exact hX0 (by omega)
  ·
    refine ex_aload_n (i := 0) dX9_go_0 rfl rfl ?_
    refine ex_getI dX9_go_1 fl_Works_58 rfl rfl (by decide) ?_
    refine ex_asN (a := b) h7 ?_
    refine ex_if_neN (tgt := 17) dX9_go_4 (by decide) (by omega) (fun h4 => ?_) (fun h4 => ?_)
    · refine ex_aload_n (i := 0) dX9_go_17 rfl rfl ?_
      refine ex_getR (v := .ref (16)) dX9_go_18 fl_Works_21 rfl rfl (by decide) rfl ?_
      refine ex_iload_n (i := 1) dX9_go_21 rfl rfl ?_
      refine ex_cV (ν := m_States_hasState) (a := 16) (ci := 7) (as := [.int (x)]) dX9_go_22 ln_Works_171 mf_States_hasState rfl (Nat.le_of_ble_eq_true rfl) rfl rfl np_States_hasState rfl rfl ⟨(Nat.le_of_ble_eq_true rfl), (Nat.le_of_ble_eq_true rfl), (Nat.le_of_ble_eq_true rfl), (Nat.le_of_ble_eq_true rfl)⟩ (by decide) ?_
      refine sp_States_hasState_I h6 hS (fun _ => ?_) (fun s e1 e2 => absurd ⟨s, e1, e2⟩ hs)
      refine ⟨_, rfl, ?_⟩
      refine ex_if_neN (tgt := 38) dX9_go_25 (by decide) (by omega) (fun h25 => by exact absurd h25 (by decide)) (fun h25 => ?_)
      refine ex_throw th_Works_go_28 (by decide) ?_
      exact hX1 (by omega) (Or.inl hs)
    · refine ex_throw th_Works_go_7 (by decide) ?_
      exact hX0 (by omega)
theorem sp_Works_action {x y : Int32} {b S : Nat} (sc : SC i) (h7 : i 0 7 = nI b) (hb : b ≤ 1) (h6 : i 16 6 = nI S) (hS : S ≤ 50) (hX0 : b = 0 → Q (.error "java/lang/IllegalStateException") (94, g + 1, i, q, RT t)) (hX1 : ¬ b = 0 → (¬ ∃ s, x = nI s ∧ s < S) ∨ (¬ y = 0 ∧ tmX y = 0) → Q (.error "java/lang/IllegalArgumentException") (94, g + 1, i, q, RT t))
    (hQ : ∀ s k, ¬ b = 0 → x = nI s → s < S → y = nI k → k ≤ 6 → Q (.ok (some (.int (i 26 (s * 7 + k))))) (94, g, i, q, RT t)) : Wx m_Works_action 0 [some (.ref 0), some (.int x), some (.int y)] [] (94, g, i, q, RT t) (1, 6) Q := by
  by_cases hs : ∃ s, x = nI s ∧ s < S
  · obtain ⟨s, rfl, hs2⟩ := hs
    by_cases hz : y = 0
    · have hz2 : y = nI 0 := hz
      subst hz2
      refine ex_aload_n (i := 0) dX9_action_0 rfl rfl ?_
      refine ex_getI dX9_action_1 fl_Works_58 rfl rfl (by decide) ?_
      refine ex_asN (a := b) h7 ?_
      refine ex_if_neN (tgt := 17) dX9_action_4 (by decide) (by omega) (fun h4 => ?_) (fun h4 => ?_)
      · refine ex_aload_n (i := 0) dX9_action_17 rfl rfl ?_
        refine ex_getR (v := .ref (16)) dX9_action_18 fl_Works_21 rfl rfl (by decide) rfl ?_
        refine ex_iload_n (i := 1) dX9_action_21 rfl rfl ?_
        refine ex_cV (ν := m_States_hasState) (a := 16) (ci := 7) (as := [.int (nI (s))]) dX9_action_22 ln_Works_171 mf_States_hasState rfl (Nat.le_of_ble_eq_true rfl) rfl rfl np_States_hasState rfl rfl ⟨(Nat.le_of_ble_eq_true rfl), (Nat.le_of_ble_eq_true rfl), (Nat.le_of_ble_eq_true rfl), (Nat.le_of_ble_eq_true rfl)⟩ (by decide) ?_
        refine sp_States_hasState (by omega) h6 hS ?_
        refine ⟨_, rfl, ?_⟩
        refine ex_asN (a := 1) (by rw [if_pos hs2]) ?_
        refine ex_if_neN (tgt := 38) dX9_action_25 (by decide) (by omega) (fun h25 => ?_) (fun h25 => by exact absurd h25 (by decide))
        refine ex_iload_n (i := 2) dX9_action_38 rfl rfl ?_
        refine ex_if_eqN (tgt := 59) dX9_action_39 (by decide) (by omega) (fun h39 => ?_) (fun h39 => by exact absurd h39 (by decide))
        refine ex_aload_n (i := 0) dX9_action_59 rfl rfl ?_
        refine ex_getR (v := .ref (16)) dX9_action_60 fl_Works_21 rfl rfl (by decide) rfl ?_
        refine ex_iload_n (i := 1) dX9_action_63 rfl rfl ?_
        refine ex_iload_n (i := 2) dX9_action_64 rfl rfl ?_
        refine ex_cV (ν := m_States_deedAt) (a := 16) (ci := 7) (as := [.int (nI (s)), .int (nI (0))]) dX9_action_65 ln_Works_178 mf_States_deedAt rfl (Nat.le_of_ble_eq_true rfl) rfl rfl np_States_deedAt rfl rfl ⟨(Nat.le_of_ble_eq_true rfl), (Nat.le_of_ble_eq_true rfl), (Nat.le_of_ble_eq_true rfl), (Nat.le_of_ble_eq_true rfl)⟩ (by decide) ?_
        refine sp_States_deedAt sc (by omega) (by omega) ?_
        refine ⟨_, rfl, ?_⟩
        refine ex_K0 ?_
        refine ex_iret dX9_action_68 rfl rfl ?_
        exact hQ s 0 (by omega) rfl hs2 rfl (by decide)
      · refine ex_throw th_Works_action_7 (by decide) ?_
        exact hX0 (by omega)
    · by_cases hn : tmX y = 0
      ·
        refine ex_aload_n (i := 0) dX9_action_0 rfl rfl ?_
        refine ex_getI dX9_action_1 fl_Works_58 rfl rfl (by decide) ?_
        refine ex_asN (a := b) h7 ?_
        refine ex_if_neN (tgt := 17) dX9_action_4 (by decide) (by omega) (fun h4 => ?_) (fun h4 => ?_)
        · refine ex_aload_n (i := 0) dX9_action_17 rfl rfl ?_
          refine ex_getR (v := .ref (16)) dX9_action_18 fl_Works_21 rfl rfl (by decide) rfl ?_
          refine ex_iload_n (i := 1) dX9_action_21 rfl rfl ?_
          refine ex_cV (ν := m_States_hasState) (a := 16) (ci := 7) (as := [.int (nI (s))]) dX9_action_22 ln_Works_171 mf_States_hasState rfl (Nat.le_of_ble_eq_true rfl) rfl rfl np_States_hasState rfl rfl ⟨(Nat.le_of_ble_eq_true rfl), (Nat.le_of_ble_eq_true rfl), (Nat.le_of_ble_eq_true rfl), (Nat.le_of_ble_eq_true rfl)⟩ (by decide) ?_
          refine sp_States_hasState (by omega) h6 hS ?_
          refine ⟨_, rfl, ?_⟩
          refine ex_asN (a := 1) (by rw [if_pos hs2]) ?_
          refine ex_if_neN (tgt := 38) dX9_action_25 (by decide) (by omega) (fun h25 => ?_) (fun h25 => by exact absurd h25 (by decide))
          refine ex_iload_n (i := 2) dX9_action_38 rfl rfl ?_
          refine ex_if_eq (tgt := 59) dX9_action_39 (by decide) (fun h39 => by exact absurd h39 hz) (fun h39 => ?_)
          refine ex_iload_n (i := 2) dX9_action_42 rfl rfl ?_
          refine ex_cS (ν := m_Works_isTerminal) (as := [.int (y)]) dX9_action_43 ln_Works_99 mf_Works_isTerminal np_Works_isTerminal rfl rfl ⟨(Nat.le_of_ble_eq_true rfl), (Nat.le_of_ble_eq_true rfl), (Nat.le_of_ble_eq_true rfl), (Nat.le_of_ble_eq_true rfl)⟩ (by decide) ?_
          refine sp_Works_isTerminal_I ?_
          refine ⟨_, rfl, ?_⟩
          refine ex_asN (a := 0) (by rw [hn]) ?_
          refine ex_if_neN (tgt := 59) dX9_action_46 (by decide) (by omega) (fun h46 => by exact absurd h46 (by decide)) (fun h46 => ?_)
          refine ex_throw th_Works_action_49 (by decide) ?_
          exact hX1 (by omega) (Or.inr ⟨hz, hn⟩)
        · refine ex_throw th_Works_action_7 (by decide) ?_
          exact hX0 (by omega)
      · obtain ⟨k, rfl, k1, k2⟩ := tmX_s hn
        refine ex_aload_n (i := 0) dX9_action_0 rfl rfl ?_
        refine ex_getI dX9_action_1 fl_Works_58 rfl rfl (by decide) ?_
        refine ex_asN (a := b) h7 ?_
        refine ex_if_neN (tgt := 17) dX9_action_4 (by decide) (by omega) (fun h4 => ?_) (fun h4 => ?_)
        · refine ex_aload_n (i := 0) dX9_action_17 rfl rfl ?_
          refine ex_getR (v := .ref (16)) dX9_action_18 fl_Works_21 rfl rfl (by decide) rfl ?_
          refine ex_iload_n (i := 1) dX9_action_21 rfl rfl ?_
          refine ex_cV (ν := m_States_hasState) (a := 16) (ci := 7) (as := [.int (nI (s))]) dX9_action_22 ln_Works_171 mf_States_hasState rfl (Nat.le_of_ble_eq_true rfl) rfl rfl np_States_hasState rfl rfl ⟨(Nat.le_of_ble_eq_true rfl), (Nat.le_of_ble_eq_true rfl), (Nat.le_of_ble_eq_true rfl), (Nat.le_of_ble_eq_true rfl)⟩ (by decide) ?_
          refine sp_States_hasState (by omega) h6 hS ?_
          refine ⟨_, rfl, ?_⟩
          refine ex_asN (a := 1) (by rw [if_pos hs2]) ?_
          refine ex_if_neN (tgt := 38) dX9_action_25 (by decide) (by omega) (fun h25 => ?_) (fun h25 => by exact absurd h25 (by decide))
          refine ex_iload_n (i := 2) dX9_action_38 rfl rfl ?_
          refine ex_if_eqN (tgt := 59) dX9_action_39 (by decide) (by omega) (fun h39 => by omega) (fun h39 => ?_)
          refine ex_iload_n (i := 2) dX9_action_42 rfl rfl ?_
          refine ex_cS (ν := m_Works_isTerminal) (as := [.int (nI (k))]) dX9_action_43 ln_Works_99 mf_Works_isTerminal np_Works_isTerminal rfl rfl ⟨(Nat.le_of_ble_eq_true rfl), (Nat.le_of_ble_eq_true rfl), (Nat.le_of_ble_eq_true rfl), (Nat.le_of_ble_eq_true rfl)⟩ (by decide) ?_
          refine sp_Works_isTerminal_I ?_
          refine ⟨_, rfl, ?_⟩
          refine ex_if_neN (tgt := 59) dX9_action_46 (by decide) (tmX_b _) (fun h46 => ?_) (fun h46 => by exact absurd h46 hn)
          refine ex_aload_n (i := 0) dX9_action_59 rfl rfl ?_
          refine ex_getR (v := .ref (16)) dX9_action_60 fl_Works_21 rfl rfl (by decide) rfl ?_
          refine ex_iload_n (i := 1) dX9_action_63 rfl rfl ?_
          refine ex_iload_n (i := 2) dX9_action_64 rfl rfl ?_
          refine ex_cV (ν := m_States_deedAt) (a := 16) (ci := 7) (as := [.int (nI (s)), .int (nI (k))]) dX9_action_65 ln_Works_178 mf_States_deedAt rfl (Nat.le_of_ble_eq_true rfl) rfl rfl np_States_deedAt rfl rfl ⟨(Nat.le_of_ble_eq_true rfl), (Nat.le_of_ble_eq_true rfl), (Nat.le_of_ble_eq_true rfl), (Nat.le_of_ble_eq_true rfl)⟩ (by decide) ?_
          refine sp_States_deedAt sc (by omega) (by omega) ?_
          refine ⟨_, rfl, ?_⟩
          refine ex_K0 ?_
          refine ex_iret dX9_action_68 rfl rfl ?_
          exact hQ s k (by omega) rfl hs2 rfl k2
        · refine ex_throw th_Works_action_7 (by decide) ?_
          exact hX0 (by omega)
  ·
    refine ex_aload_n (i := 0) dX9_action_0 rfl rfl ?_
    refine ex_getI dX9_action_1 fl_Works_58 rfl rfl (by decide) ?_
    refine ex_asN (a := b) h7 ?_
    refine ex_if_neN (tgt := 17) dX9_action_4 (by decide) (by omega) (fun h4 => ?_) (fun h4 => ?_)
    · refine ex_aload_n (i := 0) dX9_action_17 rfl rfl ?_
      refine ex_getR (v := .ref (16)) dX9_action_18 fl_Works_21 rfl rfl (by decide) rfl ?_
      refine ex_iload_n (i := 1) dX9_action_21 rfl rfl ?_
      refine ex_cV (ν := m_States_hasState) (a := 16) (ci := 7) (as := [.int (x)]) dX9_action_22 ln_Works_171 mf_States_hasState rfl (Nat.le_of_ble_eq_true rfl) rfl rfl np_States_hasState rfl rfl ⟨(Nat.le_of_ble_eq_true rfl), (Nat.le_of_ble_eq_true rfl), (Nat.le_of_ble_eq_true rfl), (Nat.le_of_ble_eq_true rfl)⟩ (by decide) ?_
      refine sp_States_hasState_I h6 hS (fun _ => ?_) (fun s e1 e2 => absurd ⟨s, e1, e2⟩ hs)
      refine ⟨_, rfl, ?_⟩
      refine ex_if_neN (tgt := 38) dX9_action_25 (by decide) (by omega) (fun h25 => by exact absurd h25 (by decide)) (fun h25 => ?_)
      refine ex_throw th_Works_action_28 (by decide) ?_
      exact hX1 (by omega) (Or.inl hs)
    · refine ex_throw th_Works_action_7 (by decide) ?_
      exact hX0 (by omega)
end S48
