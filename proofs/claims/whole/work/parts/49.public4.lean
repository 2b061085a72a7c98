/-! ===== the public methods: clear, level ===== -/
section S49
variable {g : Nat} {i : Nat → Nat → Int32} {q : Nat → Nat → Int64} {t : Bool} {Q : xRes → xMem → Prop}
/-- what a wipe of the grammar leaves -/
def wpI (i : Nat → Nat → Int32) : Nat → Nat → Int32 := xU (xU (xSet (xSet (xSet (xSet (xSet i 3 (zb (i 3) 75)) 5 (zb (i 5) 7)) 7 (zb (i 7) 7)) 9 (zb (i 9) 14)) 11 (zb (i 11) 210)) 1 7 (nI 0)) 1 8 (nI 0)
theorem sp_Works_clear (hQ : Q (.ok (some (.int (i 1 7)))) (94, g, xU (xU (wpI i) 32 6 (nI 0)) 0 7 (nI 0), q, RT t)) : Wx m_Works_clear 0 [some (.ref 0), none] [] (94, g, i, q, RT t) (0, 0) Q := by
  refine ex_aload_n (i := 0) dX9_clear_0 rfl rfl ?_
  refine ex_getR (v := .ref (1)) dX9_clear_1 fl_Works_12 rfl rfl (by decide) rfl ?_
  refine ex_cV (ν := m_Grammar_size) (a := 1) (ci := 1) (as := []) dX9_clear_4 ln_Works_86 mf_Grammar_size rfl (Nat.le_of_ble_eq_true rfl) rfl rfl np_Grammar_size rfl rfl ⟨(Nat.le_of_ble_eq_true rfl), (Nat.le_of_ble_eq_true rfl), (Nat.le_of_ble_eq_true rfl), (Nat.le_of_ble_eq_true rfl)⟩ (by decide) ?_
  refine sp_Grammar_size ?_
  refine ⟨_, rfl, ?_⟩
  refine ex_istore_n (L' := [some (.ref (0)), some (.int (i (1) (7)))]) dX9_clear_7 (i := 1) rfl (by decide) rfl ?_
  refine ex_aload_n (i := 0) dX9_clear_8 rfl rfl ?_
  refine ex_getR (v := .ref (1)) dX9_clear_9 fl_Works_12 rfl rfl (by decide) rfl ?_
  refine ex_cV (ν := m_Grammar_wipe) (a := 1) (ci := 1) (as := []) dX9_clear_12 ln_Works_242 mf_Grammar_wipe rfl (Nat.le_of_ble_eq_true rfl) rfl rfl np_Grammar_wipe rfl rfl ⟨(Nat.le_of_ble_eq_true rfl), (Nat.le_of_ble_eq_true rfl), (Nat.le_of_ble_eq_true rfl), (Nat.le_of_ble_eq_true rfl)⟩ (by decide) ?_
  refine sp_Grammar_wipe ?_
  refine ⟨_, rfl, ?_⟩
  refine ex_aload_n (i := 0) dX9_clear_15 rfl rfl ?_
  refine ex_getR (v := .ref (32)) dX9_clear_16 fl_Works_37 rfl rfl (by decide) rfl ?_
  refine ex_cV (ν := m_Parser_dropTokens) (a := 32) (ci := 4) (as := []) dX9_clear_19 ln_Works_214 mf_Parser_dropTokens rfl (Nat.le_of_ble_eq_true rfl) rfl rfl np_Parser_dropTokens rfl rfl ⟨(Nat.le_of_ble_eq_true rfl), (Nat.le_of_ble_eq_true rfl), (Nat.le_of_ble_eq_true rfl), (Nat.le_of_ble_eq_true rfl)⟩ (by decide) ?_
  refine sp_Parser_dropTokens ?_
  refine ⟨_, rfl, ?_⟩
  refine ex_aload_n (i := 0) dX9_clear_22 rfl rfl ?_
  refine ex_iconst (v := nI 0) dX9_clear_23 (by decide) ?_
  refine ex_putI dX9_clear_24 fl_Works_58 cf_9 rfl (Or.inl rfl) (by decide) (by decide) rfl (by decide) ?_
  refine ex_iload_n (i := 1) dX9_clear_27 rfl rfl ?_
  refine ex_iret dX9_clear_28 rfl rfl ?_
  exact hQ
theorem sp_Works_level {x y z : Int32} (hX : (tmX x = 0 ∨ y < 0 ∨ nI 9 < y ∨ z < 0 ∨ nI 2 < z) → Q (.error "java/lang/IllegalArgumentException") (94, g + 1, i, q, RT t)) (hQ : ∀ s, x = nI s → 1 ≤ s → s ≤ 6 → ¬ y < 0 → ¬ nI 9 < y → ¬ z < 0 → ¬ nI 2 < z → Q (.ok (some (.int (i 5 s)))) (94, g, xU (xU (xU i 0 7 (nI 0)) 5 s y) 7 s z, q, RT t)) : Wx m_Works_level 0 [some (.ref 0), some (.int x), some (.int y), some (.int z), none] [] (94, g, i, q, RT t) (1, 6) Q := by
  by_cases h : tmX x = 0
  ·
    refine ex_iload_n (i := 1) dX9_level_0 rfl rfl ?_
    refine ex_cS (ν := m_Works_isTerminal) (as := [.int (x)]) dX9_level_1 ln_Works_99 mf_Works_isTerminal np_Works_isTerminal rfl rfl ⟨(Nat.le_of_ble_eq_true rfl), (Nat.le_of_ble_eq_true rfl), (Nat.le_of_ble_eq_true rfl), (Nat.le_of_ble_eq_true rfl)⟩ (by decide) ?_
    refine sp_Works_isTerminal_I ?_
    refine ⟨_, rfl, ?_⟩
    refine ex_if_neN (tgt := 17) dX9_level_4 (by decide) (tmX_b _) (fun h4 => by exact absurd h h4) (fun h4 => ?_)
    refine ex_throw th_Works_level_7 (by decide) ?_
    exact hX (Or.inl h)
  · obtain ⟨s, rfl, s1, s2⟩ := tmX_s h
    refine ex_iload_n (i := 1) dX9_level_0 rfl rfl ?_
    refine ex_cS (ν := m_Works_isTerminal) (as := [.int (nI (s))]) dX9_level_1 ln_Works_99 mf_Works_isTerminal np_Works_isTerminal rfl rfl ⟨(Nat.le_of_ble_eq_true rfl), (Nat.le_of_ble_eq_true rfl), (Nat.le_of_ble_eq_true rfl), (Nat.le_of_ble_eq_true rfl)⟩ (by decide) ?_
    refine sp_Works_isTerminal_I ?_
    refine ⟨_, rfl, ?_⟩
    refine ex_if_neN (tgt := 17) dX9_level_4 (by decide) (tmX_b _) (fun h4 => ?_) (fun h4 => by exact absurd h4 h)
    refine ex_iload_n (i := 2) dX9_level_17 rfl rfl ?_
    refine ex_if_lt (tgt := 27) dX9_level_18 (by decide) (fun h18 => ?_) (fun h18 => ?_)
    · refine ex_throw th_Works_level_27 (by decide) ?_
      first | exact hX (Or.inr (Or.inl h18)) | exact hX (Or.inr (Or.inr (Or.inl (Int32.not_le.mp h24)))) | exact hX (Or.inr (Or.inr (Or.inr (Or.inl h38)))) | exact hX (Or.inr (Or.inr (Or.inr (Or.inr (Int32.not_le.mp h43)))))
    · refine ex_iload_n (i := 2) dX9_level_21 rfl rfl ?_
      refine ex_bipush (v := nI 9) dX9_level_22 (by decide) ?_
      refine ex_icmp_le (tgt := 37) dX9_level_24 (by decide) (fun h24 => ?_) (fun h24 => ?_)
      · refine ex_iload_n (i := 3) dX9_level_37 rfl rfl ?_
        refine ex_if_lt (tgt := 46) dX9_level_38 (by decide) (fun h38 => ?_) (fun h38 => ?_)
        · refine ex_throw th_Works_level_46 (by decide) ?_
          first | exact hX (Or.inr (Or.inl h18)) | exact hX (Or.inr (Or.inr (Or.inl (Int32.not_le.mp h24)))) | exact hX (Or.inr (Or.inr (Or.inr (Or.inl h38)))) | exact hX (Or.inr (Or.inr (Or.inr (Or.inr (Int32.not_le.mp h43)))))
        · refine ex_iload_n (i := 3) dX9_level_41 rfl rfl ?_
          refine ex_iconst (v := nI 2) dX9_level_42 (by decide) ?_
          refine ex_icmp_le (tgt := 56) dX9_level_43 (by decide) (fun h43 => ?_) (fun h43 => ?_)
          · refine ex_aload_n (i := 0) dX9_level_56 rfl rfl ?_
            refine ex_iconst (v := nI 0) dX9_level_57 (by decide) ?_
            refine ex_putI dX9_level_58 fl_Works_58 cf_9 rfl (Or.inl rfl) (by decide) (by decide) rfl (by decide) ?_
            refine ex_aload_n (i := 0) dX9_level_61 rfl rfl ?_
            refine ex_getR (v := .ref (1)) dX9_level_62 fl_Works_12 rfl rfl (by decide) rfl ?_
            refine ex_iload_n (i := 1) dX9_level_65 rfl rfl ?_
            refine ex_cV (ν := m_Grammar_levelOf) (a := 1) (ci := 1) (as := [.int (nI (s))]) dX9_level_66 ln_Works_108 mf_Grammar_levelOf rfl (Nat.le_of_ble_eq_true rfl) rfl rfl np_Grammar_levelOf rfl rfl ⟨(Nat.le_of_ble_eq_true rfl), (Nat.le_of_ble_eq_true rfl), (Nat.le_of_ble_eq_true rfl), (Nat.le_of_ble_eq_true rfl)⟩ (by decide) ?_
            refine sp_Grammar_levelOf (by omega) ?_
            refine ⟨_, rfl, ?_⟩
            refine ex_asI (y := i (5) (s)) (by first | rfl | simp [xU, upd]) ?_
            refine ex_istore (L' := [some (.ref (0)), some (.int (nI (s))), some (.int (y)), some (.int (z)), some (.int (i (5) (s)))]) dX9_level_69 (by decide) rfl ?_
            refine ex_aload_n (i := 0) dX9_level_71 rfl rfl ?_
            refine ex_getR (v := .ref (1)) dX9_level_72 fl_Works_12 rfl rfl (by decide) rfl ?_
            refine ex_iload_n (i := 1) dX9_level_75 rfl rfl ?_
            refine ex_iload_n (i := 2) dX9_level_76 rfl rfl ?_
            refine ex_iload_n (i := 3) dX9_level_77 rfl rfl ?_
            refine ex_cV (ν := m_Grammar_setLevel) (a := 1) (ci := 1) (as := [.int (nI (s)), .int (y), .int (z)]) dX9_level_78 ln_Works_112 mf_Grammar_setLevel rfl (Nat.le_of_ble_eq_true rfl) rfl rfl np_Grammar_setLevel rfl rfl ⟨(Nat.le_of_ble_eq_true rfl), (Nat.le_of_ble_eq_true rfl), (Nat.le_of_ble_eq_true rfl), (Nat.le_of_ble_eq_true rfl)⟩ (by decide) ?_
            refine sp_Grammar_setLevel (by omega) ?_
            refine ⟨_, rfl, ?_⟩
            refine ex_iload dX9_level_81 rfl ?_
            refine ex_K0 ?_
            refine ex_iret dX9_level_83 rfl rfl ?_
            exact hQ s rfl s1 s2 h18 (Int32.not_lt.mpr h24) h38 (Int32.not_lt.mpr h43)
          · refine ex_throw th_Works_level_46 (by decide) ?_
            first | exact hX (Or.inr (Or.inl h18)) | exact hX (Or.inr (Or.inr (Or.inl (Int32.not_le.mp h24)))) | exact hX (Or.inr (Or.inr (Or.inr (Or.inl h38)))) | exact hX (Or.inr (Or.inr (Or.inr (Or.inr (Int32.not_le.mp h43)))))
      · refine ex_throw th_Works_level_27 (by decide) ?_
        first | exact hX (Or.inr (Or.inl h18)) | exact hX (Or.inr (Or.inr (Or.inl (Int32.not_le.mp h24)))) | exact hX (Or.inr (Or.inr (Or.inr (Or.inl h38)))) | exact hX (Or.inr (Or.inr (Or.inr (Or.inr (Int32.not_le.mp h43)))))
end S49
