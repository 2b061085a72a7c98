/-! ===== the reference: rule ===== -/
section S62
variable {g : Nat} {i : Nat → Nat → Int32} {q : Nat → Nat → Int64} {t : Bool} {Q : xRes → xMem → Prop} {n : Nat} {sy : Nat → Nat → Nat} {op xp yp : Nat → Nat}
theorem rlX_mk {l a b c d : Int32} (hl : ¬ ntX l = 0) (ha : a = 0 ∨ ¬ smX a = 0) (hb : b = 0 ∨ ¬ smX b = 0) (hc : c = 0 ∨ ¬ smX c = 0) (hd : d = 0 ∨ ¬ smX d = 0) (h1 : a = 0 → b = 0) (h2 : b = 0 → c = 0) (h3 : c = 0 → d = 0) : rlX l a b c d := by
  have m : ∀ {x y : Int32}, (y = 0 ∨ ¬ smX y = 0) → (x = 0 → y = 0) → ¬ mfX x y = 0 := by
    intro x y hy hxy
    unfold mfX
    by_cases y0 : y = 0
    · rw [if_pos y0]; decide
    · rw [if_neg y0, if_neg (fun z => y0 (hxy z))]; exact hy.resolve_left y0
  exact ⟨hl, ha, m hb h1, m hc h2, m hd h3⟩
theorem sp_Model_rule_bad {l a b c d : Int32} (r : ¬ rlX l a b c d) (hX1 : ∀ i1, Fm [] [45] i i1 → i1 56 45 = nI 1 → Q (.ok (some (.int (nI 0)))) (94, g, i1, q, RT t)) :
    Wx m_Model_rule 0 [some (.ref 56), some (.int l), some (.int a), some (.int b), some (.int c), some (.int d), none, none] [] (94, g, i, q, RT t) (0, 0) Q := by
  have E : Wx m_Model_rule 101 [some (.ref 56), some (.int l), some (.int a), some (.int b), some (.int c), some (.int d), some (.int (nI 0)), none] [] (94, g, i, q, RT t) (0, 0) Q := by
    refine ex_aload_n (i := 0) dX10_rule_101 rfl rfl ?_
    refine ex_iload dX10_rule_102 rfl ?_
    refine ex_iconst (v := nI 1) dX10_rule_104 (by decide) ?_
    refine ex_cV (ν := m_Model_good) (a := 56) (ci := 10) (as := [.int (nI (0)), .int (nI (1))]) dX10_rule_105 ln_Model_141 mf_Model_good rfl (Nat.le_of_ble_eq_true rfl) rfl rfl np_Model_good rfl rfl ⟨(Nat.le_of_ble_eq_true rfl), (Nat.le_of_ble_eq_true rfl), (Nat.le_of_ble_eq_true rfl), (Nat.le_of_ble_eq_true rfl)⟩ (by decide) ?_
    refine sp_Model_good (b := 0) (by decide) ?_
    refine ⟨_, rfl, ?_⟩
    refine ex_if_eqN (tgt := 133) dX10_rule_108 (by decide) (by omega) (fun h108 => ?_) (fun h108 => by exact absurd h108 (by decide))
    refine ex_iconst (v := nI 0) dX10_rule_133 (by decide) ?_
    refine ex_iret dX10_rule_134 rfl rfl ?_
    exact hX1 _ (Fm.rf.F (by decide)) (cd_at _ _)
  have F0 : Wx m_Model_rule 62 [some (.ref 56), some (.int l), some (.int a), some (.int b), some (.int c), some (.int d), some (.int (nI 0)), none] [] (94, g, i, q, RT t) (0, 0) Q := by
    refine ex_iload dX10_rule_62 rfl ?_
    refine ex_if_eqN (tgt := 98) dX10_rule_64 (by decide) (by omega) (fun h64 => ?_) (fun h64 => by exact absurd h64 (by decide))
    refine ex_iconst (v := nI 0) dX10_rule_98 (by decide) ?_
    refine ex_istore (L' := [some (.ref (56)), some (.int (l)), some (.int (a)), some (.int (b)), some (.int (c)), some (.int (d)), some (.int (nI (0))), none]) dX10_rule_99 (by decide) rfl ?_
    exact E
  have F1 : (¬ ntX l = 0) → (a = 0 ∨ ¬ smX a = 0) → (b = 0 ∨ ¬ smX b = 0) → (c = 0 ∨ ¬ smX c = 0) → (d = 0 ∨ ¬ smX d = 0) → Wx m_Model_rule 62 [some (.ref 56), some (.int l), some (.int a), some (.int b), some (.int c), some (.int d), some (.int (nI 1)), none] [] (94, g, i, q, RT t) (0, 0) Q := by
    intro hl ha hb hc hd
    refine ex_iload dX10_rule_62 rfl ?_
    refine ex_if_eqN (tgt := 98) dX10_rule_64 (by decide) (by omega) (fun h64 => by exact absurd h64 (by decide)) (fun h64 => ?_)
    refine ex_iload_n (i := 2) dX10_rule_67 rfl rfl ?_
    refine ex_if_ne (tgt := 75) dX10_rule_68 (by decide) (fun h68 => ?_) (fun h68 => ?_)
    · refine ex_iload_n (i := 3) dX10_rule_75 rfl rfl ?_
      refine ex_if_ne (tgt := 84) dX10_rule_76 (by decide) (fun h76 => ?_) (fun h76 => ?_)
      · refine ex_iload dX10_rule_84 rfl ?_
        refine ex_if_ne (tgt := 94) dX10_rule_86 (by decide) (fun h86 => ?_) (fun h86 => ?_)
        · refine ex_iconst (v := nI 1) dX10_rule_94 (by decide) ?_
          refine ex_goto (tgt := 99) dX10_rule_95 (by decide) ?_
          refine ex_istore (L' := [some (.ref (56)), some (.int (l)), some (.int (a)), some (.int (b)), some (.int (c)), some (.int (d)), some (.int (nI (1))), none]) dX10_rule_99 (by decide) rfl ?_
          first | exact E | exact absurd (rlX_mk hl ha hb hc hd (fun z => by first | exact absurd z h68 | exact h72) (fun z => by first | exact absurd z h76 | exact h81) (fun z => by first | exact absurd z h86 | exact h91)) r
        · refine ex_iload dX10_rule_89 rfl ?_
          refine ex_if_ne (tgt := 98) dX10_rule_91 (by decide) (fun h91 => ?_) (fun h91 => ?_)
          · refine ex_iconst (v := nI 0) dX10_rule_98 (by decide) ?_
            refine ex_istore (L' := [some (.ref (56)), some (.int (l)), some (.int (a)), some (.int (b)), some (.int (c)), some (.int (d)), some (.int (nI (0))), none]) dX10_rule_99 (by decide) rfl ?_
            first | exact E | exact absurd (rlX_mk hl ha hb hc hd (fun z => by first | exact absurd z h68 | exact h72) (fun z => by first | exact absurd z h76 | exact h81) (fun z => by first | exact absurd z h86 | exact h91)) r
          · refine ex_iconst (v := nI 1) dX10_rule_94 (by decide) ?_
            refine ex_goto (tgt := 99) dX10_rule_95 (by decide) ?_
            refine ex_istore (L' := [some (.ref (56)), some (.int (l)), some (.int (a)), some (.int (b)), some (.int (c)), some (.int (d)), some (.int (nI (1))), none]) dX10_rule_99 (by decide) rfl ?_
            first | exact E | exact absurd (rlX_mk hl ha hb hc hd (fun z => by first | exact absurd z h68 | exact h72) (fun z => by first | exact absurd z h76 | exact h81) (fun z => by first | exact absurd z h86 | exact h91)) r
      · refine ex_iload dX10_rule_79 rfl ?_
        refine ex_if_ne (tgt := 98) dX10_rule_81 (by decide) (fun h81 => ?_) (fun h81 => ?_)
        · refine ex_iconst (v := nI 0) dX10_rule_98 (by decide) ?_
          refine ex_istore (L' := [some (.ref (56)), some (.int (l)), some (.int (a)), some (.int (b)), some (.int (c)), some (.int (d)), some (.int (nI (0))), none]) dX10_rule_99 (by decide) rfl ?_
          first | exact E | exact absurd (rlX_mk hl ha hb hc hd (fun z => by first | exact absurd z h68 | exact h72) (fun z => by first | exact absurd z h76 | exact h81) (fun z => by first | exact absurd z h86 | exact h91)) r
        · refine ex_iload dX10_rule_84 rfl ?_
          refine ex_if_ne (tgt := 94) dX10_rule_86 (by decide) (fun h86 => ?_) (fun h86 => ?_)
          · refine ex_iconst (v := nI 1) dX10_rule_94 (by decide) ?_
            refine ex_goto (tgt := 99) dX10_rule_95 (by decide) ?_
            refine ex_istore (L' := [some (.ref (56)), some (.int (l)), some (.int (a)), some (.int (b)), some (.int (c)), some (.int (d)), some (.int (nI (1))), none]) dX10_rule_99 (by decide) rfl ?_
            first | exact E | exact absurd (rlX_mk hl ha hb hc hd (fun z => by first | exact absurd z h68 | exact h72) (fun z => by first | exact absurd z h76 | exact h81) (fun z => by first | exact absurd z h86 | exact h91)) r
          · refine ex_iload dX10_rule_89 rfl ?_
            refine ex_if_ne (tgt := 98) dX10_rule_91 (by decide) (fun h91 => ?_) (fun h91 => ?_)
            · refine ex_iconst (v := nI 0) dX10_rule_98 (by decide) ?_
              refine ex_istore (L' := [some (.ref (56)), some (.int (l)), some (.int (a)), some (.int (b)), some (.int (c)), some (.int (d)), some (.int (nI (0))), none]) dX10_rule_99 (by decide) rfl ?_
              first | exact E | exact absurd (rlX_mk hl ha hb hc hd (fun z => by first | exact absurd z h68 | exact h72) (fun z => by first | exact absurd z h76 | exact h81) (fun z => by first | exact absurd z h86 | exact h91)) r
            · refine ex_iconst (v := nI 1) dX10_rule_94 (by decide) ?_
              refine ex_goto (tgt := 99) dX10_rule_95 (by decide) ?_
              refine ex_istore (L' := [some (.ref (56)), some (.int (l)), some (.int (a)), some (.int (b)), some (.int (c)), some (.int (d)), some (.int (nI (1))), none]) dX10_rule_99 (by decide) rfl ?_
              first | exact E | exact absurd (rlX_mk hl ha hb hc hd (fun z => by first | exact absurd z h68 | exact h72) (fun z => by first | exact absurd z h76 | exact h81) (fun z => by first | exact absurd z h86 | exact h91)) r
    · refine ex_iload_n (i := 3) dX10_rule_71 rfl rfl ?_
      refine ex_if_ne (tgt := 98) dX10_rule_72 (by decide) (fun h72 => ?_) (fun h72 => ?_)
      · refine ex_iconst (v := nI 0) dX10_rule_98 (by decide) ?_
        refine ex_istore (L' := [some (.ref (56)), some (.int (l)), some (.int (a)), some (.int (b)), some (.int (c)), some (.int (d)), some (.int (nI (0))), none]) dX10_rule_99 (by decide) rfl ?_
        first | exact E | exact absurd (rlX_mk hl ha hb hc hd (fun z => by first | exact absurd z h68 | exact h72) (fun z => by first | exact absurd z h76 | exact h81) (fun z => by first | exact absurd z h86 | exact h91)) r
      · refine ex_iload_n (i := 3) dX10_rule_75 rfl rfl ?_
        refine ex_if_ne (tgt := 84) dX10_rule_76 (by decide) (fun h76 => ?_) (fun h76 => ?_)
        · refine ex_iload dX10_rule_84 rfl ?_
          refine ex_if_ne (tgt := 94) dX10_rule_86 (by decide) (fun h86 => ?_) (fun h86 => ?_)
          · refine ex_iconst (v := nI 1) dX10_rule_94 (by decide) ?_
            refine ex_goto (tgt := 99) dX10_rule_95 (by decide) ?_
            refine ex_istore (L' := [some (.ref (56)), some (.int (l)), some (.int (a)), some (.int (b)), some (.int (c)), some (.int (d)), some (.int (nI (1))), none]) dX10_rule_99 (by decide) rfl ?_
            first | exact E | exact absurd (rlX_mk hl ha hb hc hd (fun z => by first | exact absurd z h68 | exact h72) (fun z => by first | exact absurd z h76 | exact h81) (fun z => by first | exact absurd z h86 | exact h91)) r
          · refine ex_iload dX10_rule_89 rfl ?_
            refine ex_if_ne (tgt := 98) dX10_rule_91 (by decide) (fun h91 => ?_) (fun h91 => ?_)
            · refine ex_iconst (v := nI 0) dX10_rule_98 (by decide) ?_
              refine ex_istore (L' := [some (.ref (56)), some (.int (l)), some (.int (a)), some (.int (b)), some (.int (c)), some (.int (d)), some (.int (nI (0))), none]) dX10_rule_99 (by decide) rfl ?_
              first | exact E | exact absurd (rlX_mk hl ha hb hc hd (fun z => by first | exact absurd z h68 | exact h72) (fun z => by first | exact absurd z h76 | exact h81) (fun z => by first | exact absurd z h86 | exact h91)) r
            · refine ex_iconst (v := nI 1) dX10_rule_94 (by decide) ?_
              refine ex_goto (tgt := 99) dX10_rule_95 (by decide) ?_
              refine ex_istore (L' := [some (.ref (56)), some (.int (l)), some (.int (a)), some (.int (b)), some (.int (c)), some (.int (d)), some (.int (nI (1))), none]) dX10_rule_99 (by decide) rfl ?_
              first | exact E | exact absurd (rlX_mk hl ha hb hc hd (fun z => by first | exact absurd z h68 | exact h72) (fun z => by first | exact absurd z h76 | exact h81) (fun z => by first | exact absurd z h86 | exact h91)) r
        · refine ex_iload dX10_rule_79 rfl ?_
          refine ex_if_ne (tgt := 98) dX10_rule_81 (by decide) (fun h81 => ?_) (fun h81 => ?_)
          · refine ex_iconst (v := nI 0) dX10_rule_98 (by decide) ?_
            refine ex_istore (L' := [some (.ref (56)), some (.int (l)), some (.int (a)), some (.int (b)), some (.int (c)), some (.int (d)), some (.int (nI (0))), none]) dX10_rule_99 (by decide) rfl ?_
            first | exact E | exact absurd (rlX_mk hl ha hb hc hd (fun z => by first | exact absurd z h68 | exact h72) (fun z => by first | exact absurd z h76 | exact h81) (fun z => by first | exact absurd z h86 | exact h91)) r
          · refine ex_iload dX10_rule_84 rfl ?_
            refine ex_if_ne (tgt := 94) dX10_rule_86 (by decide) (fun h86 => ?_) (fun h86 => ?_)
            · refine ex_iconst (v := nI 1) dX10_rule_94 (by decide) ?_
              refine ex_goto (tgt := 99) dX10_rule_95 (by decide) ?_
              refine ex_istore (L' := [some (.ref (56)), some (.int (l)), some (.int (a)), some (.int (b)), some (.int (c)), some (.int (d)), some (.int (nI (1))), none]) dX10_rule_99 (by decide) rfl ?_
              first | exact E | exact absurd (rlX_mk hl ha hb hc hd (fun z => by first | exact absurd z h68 | exact h72) (fun z => by first | exact absurd z h76 | exact h81) (fun z => by first | exact absurd z h86 | exact h91)) r
            · refine ex_iload dX10_rule_89 rfl ?_
              refine ex_if_ne (tgt := 98) dX10_rule_91 (by decide) (fun h91 => ?_) (fun h91 => ?_)
              · refine ex_iconst (v := nI 0) dX10_rule_98 (by decide) ?_
                refine ex_istore (L' := [some (.ref (56)), some (.int (l)), some (.int (a)), some (.int (b)), some (.int (c)), some (.int (d)), some (.int (nI (0))), none]) dX10_rule_99 (by decide) rfl ?_
                first | exact E | exact absurd (rlX_mk hl ha hb hc hd (fun z => by first | exact absurd z h68 | exact h72) (fun z => by first | exact absurd z h76 | exact h81) (fun z => by first | exact absurd z h86 | exact h91)) r
              · refine ex_iconst (v := nI 1) dX10_rule_94 (by decide) ?_
                refine ex_goto (tgt := 99) dX10_rule_95 (by decide) ?_
                refine ex_istore (L' := [some (.ref (56)), some (.int (l)), some (.int (a)), some (.int (b)), some (.int (c)), some (.int (d)), some (.int (nI (1))), none]) dX10_rule_99 (by decide) rfl ?_
                first | exact E | exact absurd (rlX_mk hl ha hb hc hd (fun z => by first | exact absurd z h68 | exact h72) (fun z => by first | exact absurd z h76 | exact h81) (fun z => by first | exact absurd z h86 | exact h91)) r
  refine ex_iload_n (i := 1) dX10_rule_0 rfl rfl ?_
  refine ex_cS (ν := m_Model_nonterminal) (as := [.int (l)]) dX10_rule_1 ln_Model_135 mf_Model_nonterminal np_Model_nonterminal rfl rfl ⟨(Nat.le_of_ble_eq_true rfl), (Nat.le_of_ble_eq_true rfl), (Nat.le_of_ble_eq_true rfl), (Nat.le_of_ble_eq_true rfl)⟩ (by decide) ?_
  refine sp_Model_nonterminal ?_
  refine ⟨_, rfl, ?_⟩
  refine ex_if_eqN (tgt := 59) dX10_rule_4 (by decide) (ntX_b _) (fun h4 => ?_) (fun h4 => ?_)
  · refine ex_iconst (v := nI 0) dX10_rule_59 (by decide) ?_
    refine ex_istore (L' := [some (.ref (56)), some (.int (l)), some (.int (a)), some (.int (b)), some (.int (c)), some (.int (d)), some (.int (nI (0))), none]) dX10_rule_60 (by decide) rfl ?_
    first | exact F0 | exact F1 h4 (by first | exact Or.inl h8 | exact Or.inr h15) (by first | exact Or.inl h19 | exact Or.inr h26) (by first | exact Or.inl h31 | exact Or.inr h39) (by first | exact Or.inl h44 | exact Or.inr h52)
  · refine ex_iload_n (i := 2) dX10_rule_7 rfl rfl ?_
    refine ex_if_eq (tgt := 18) dX10_rule_8 (by decide) (fun h8 => ?_) (fun h8 => ?_)
    · refine ex_iload_n (i := 3) dX10_rule_18 rfl rfl ?_
      refine ex_if_eq (tgt := 29) dX10_rule_19 (by decide) (fun h19 => ?_) (fun h19 => ?_)
      · refine ex_iload dX10_rule_29 rfl ?_
        refine ex_if_eq (tgt := 42) dX10_rule_31 (by decide) (fun h31 => ?_) (fun h31 => ?_)
        · refine ex_iload dX10_rule_42 rfl ?_
          refine ex_if_eq (tgt := 55) dX10_rule_44 (by decide) (fun h44 => ?_) (fun h44 => ?_)
          · refine ex_iconst (v := nI 1) dX10_rule_55 (by decide) ?_
            refine ex_goto (tgt := 60) dX10_rule_56 (by decide) ?_
            refine ex_istore (L' := [some (.ref (56)), some (.int (l)), some (.int (a)), some (.int (b)), some (.int (c)), some (.int (d)), some (.int (nI (1))), none]) dX10_rule_60 (by decide) rfl ?_
            first | exact F0 | exact F1 h4 (by first | exact Or.inl h8 | exact Or.inr h15) (by first | exact Or.inl h19 | exact Or.inr h26) (by first | exact Or.inl h31 | exact Or.inr h39) (by first | exact Or.inl h44 | exact Or.inr h52)
          · refine ex_iload dX10_rule_47 rfl ?_
            refine ex_cS (ν := m_Model_isSymbol) (as := [.int (d)]) dX10_rule_49 ln_Model_138 mf_Model_isSymbol np_Model_isSymbol rfl rfl ⟨(Nat.le_of_ble_eq_true rfl), (Nat.le_of_ble_eq_true rfl), (Nat.le_of_ble_eq_true rfl), (Nat.le_of_ble_eq_true rfl)⟩ (by decide) ?_
            refine sp_Model_isSymbol ?_
            refine ⟨_, rfl, ?_⟩
            refine ex_if_eqN (tgt := 59) dX10_rule_52 (by decide) (smX_b _) (fun h52 => ?_) (fun h52 => ?_)
            · refine ex_iconst (v := nI 0) dX10_rule_59 (by decide) ?_
              refine ex_istore (L' := [some (.ref (56)), some (.int (l)), some (.int (a)), some (.int (b)), some (.int (c)), some (.int (d)), some (.int (nI (0))), none]) dX10_rule_60 (by decide) rfl ?_
              first | exact F0 | exact F1 h4 (by first | exact Or.inl h8 | exact Or.inr h15) (by first | exact Or.inl h19 | exact Or.inr h26) (by first | exact Or.inl h31 | exact Or.inr h39) (by first | exact Or.inl h44 | exact Or.inr h52)
            · refine ex_iconst (v := nI 1) dX10_rule_55 (by decide) ?_
              refine ex_goto (tgt := 60) dX10_rule_56 (by decide) ?_
              refine ex_istore (L' := [some (.ref (56)), some (.int (l)), some (.int (a)), some (.int (b)), some (.int (c)), some (.int (d)), some (.int (nI (1))), none]) dX10_rule_60 (by decide) rfl ?_
              first | exact F0 | exact F1 h4 (by first | exact Or.inl h8 | exact Or.inr h15) (by first | exact Or.inl h19 | exact Or.inr h26) (by first | exact Or.inl h31 | exact Or.inr h39) (by first | exact Or.inl h44 | exact Or.inr h52)
        · refine ex_iload dX10_rule_34 rfl ?_
          refine ex_cS (ν := m_Model_isSymbol) (as := [.int (c)]) dX10_rule_36 ln_Model_138 mf_Model_isSymbol np_Model_isSymbol rfl rfl ⟨(Nat.le_of_ble_eq_true rfl), (Nat.le_of_ble_eq_true rfl), (Nat.le_of_ble_eq_true rfl), (Nat.le_of_ble_eq_true rfl)⟩ (by decide) ?_
          refine sp_Model_isSymbol ?_
          refine ⟨_, rfl, ?_⟩
          refine ex_if_eqN (tgt := 59) dX10_rule_39 (by decide) (smX_b _) (fun h39 => ?_) (fun h39 => ?_)
          · refine ex_iconst (v := nI 0) dX10_rule_59 (by decide) ?_
            refine ex_istore (L' := [some (.ref (56)), some (.int (l)), some (.int (a)), some (.int (b)), some (.int (c)), some (.int (d)), some (.int (nI (0))), none]) dX10_rule_60 (by decide) rfl ?_
            first | exact F0 | exact F1 h4 (by first | exact Or.inl h8 | exact Or.inr h15) (by first | exact Or.inl h19 | exact Or.inr h26) (by first | exact Or.inl h31 | exact Or.inr h39) (by first | exact Or.inl h44 | exact Or.inr h52)
          · refine ex_iload dX10_rule_42 rfl ?_
            refine ex_if_eq (tgt := 55) dX10_rule_44 (by decide) (fun h44 => ?_) (fun h44 => ?_)
            · refine ex_iconst (v := nI 1) dX10_rule_55 (by decide) ?_
              refine ex_goto (tgt := 60) dX10_rule_56 (by decide) ?_
              refine ex_istore (L' := [some (.ref (56)), some (.int (l)), some (.int (a)), some (.int (b)), some (.int (c)), some (.int (d)), some (.int (nI (1))), none]) dX10_rule_60 (by decide) rfl ?_
              first | exact F0 | exact F1 h4 (by first | exact Or.inl h8 | exact Or.inr h15) (by first | exact Or.inl h19 | exact Or.inr h26) (by first | exact Or.inl h31 | exact Or.inr h39) (by first | exact Or.inl h44 | exact Or.inr h52)
            · refine ex_iload dX10_rule_47 rfl ?_
              refine ex_cS (ν := m_Model_isSymbol) (as := [.int (d)]) dX10_rule_49 ln_Model_138 mf_Model_isSymbol np_Model_isSymbol rfl rfl ⟨(Nat.le_of_ble_eq_true rfl), (Nat.le_of_ble_eq_true rfl), (Nat.le_of_ble_eq_true rfl), (Nat.le_of_ble_eq_true rfl)⟩ (by decide) ?_
              refine sp_Model_isSymbol ?_
              refine ⟨_, rfl, ?_⟩
              refine ex_if_eqN (tgt := 59) dX10_rule_52 (by decide) (smX_b _) (fun h52 => ?_) (fun h52 => ?_)
              · refine ex_iconst (v := nI 0) dX10_rule_59 (by decide) ?_
                refine ex_istore (L' := [some (.ref (56)), some (.int (l)), some (.int (a)), some (.int (b)), some (.int (c)), some (.int (d)), some (.int (nI (0))), none]) dX10_rule_60 (by decide) rfl ?_
                first | exact F0 | exact F1 h4 (by first | exact Or.inl h8 | exact Or.inr h15) (by first | exact Or.inl h19 | exact Or.inr h26) (by first | exact Or.inl h31 | exact Or.inr h39) (by first | exact Or.inl h44 | exact Or.inr h52)
              · refine ex_iconst (v := nI 1) dX10_rule_55 (by decide) ?_
                refine ex_goto (tgt := 60) dX10_rule_56 (by decide) ?_
                refine ex_istore (L' := [some (.ref (56)), some (.int (l)), some (.int (a)), some (.int (b)), some (.int (c)), some (.int (d)), some (.int (nI (1))), none]) dX10_rule_60 (by decide) rfl ?_
                first | exact F0 | exact F1 h4 (by first | exact Or.inl h8 | exact Or.inr h15) (by first | exact Or.inl h19 | exact Or.inr h26) (by first | exact Or.inl h31 | exact Or.inr h39) (by first | exact Or.inl h44 | exact Or.inr h52)
      · refine ex_iload_n (i := 3) dX10_rule_22 rfl rfl ?_
        refine ex_cS (ν := m_Model_isSymbol) (as := [.int (b)]) dX10_rule_23 ln_Model_138 mf_Model_isSymbol np_Model_isSymbol rfl rfl ⟨(Nat.le_of_ble_eq_true rfl), (Nat.le_of_ble_eq_true rfl), (Nat.le_of_ble_eq_true rfl), (Nat.le_of_ble_eq_true rfl)⟩ (by decide) ?_
        refine sp_Model_isSymbol ?_
        refine ⟨_, rfl, ?_⟩
        refine ex_if_eqN (tgt := 59) dX10_rule_26 (by decide) (smX_b _) (fun h26 => ?_) (fun h26 => ?_)
        · refine ex_iconst (v := nI 0) dX10_rule_59 (by decide) ?_
          refine ex_istore (L' := [some (.ref (56)), some (.int (l)), some (.int (a)), some (.int (b)), some (.int (c)), some (.int (d)), some (.int (nI (0))), none]) dX10_rule_60 (by decide) rfl ?_
          first | exact F0 | exact F1 h4 (by first | exact Or.inl h8 | exact Or.inr h15) (by first | exact Or.inl h19 | exact Or.inr h26) (by first | exact Or.inl h31 | exact Or.inr h39) (by first | exact Or.inl h44 | exact Or.inr h52)
        · refine ex_iload dX10_rule_29 rfl ?_
          refine ex_if_eq (tgt := 42) dX10_rule_31 (by decide) (fun h31 => ?_) (fun h31 => ?_)
          · refine ex_iload dX10_rule_42 rfl ?_
            refine ex_if_eq (tgt := 55) dX10_rule_44 (by decide) (fun h44 => ?_) (fun h44 => ?_)
            · refine ex_iconst (v := nI 1) dX10_rule_55 (by decide) ?_
              refine ex_goto (tgt := 60) dX10_rule_56 (by decide) ?_
              refine ex_istore (L' := [some (.ref (56)), some (.int (l)), some (.int (a)), some (.int (b)), some (.int (c)), some (.int (d)), some (.int (nI (1))), none]) dX10_rule_60 (by decide) rfl ?_
              first | exact F0 | exact F1 h4 (by first | exact Or.inl h8 | exact Or.inr h15) (by first | exact Or.inl h19 | exact Or.inr h26) (by first | exact Or.inl h31 | exact Or.inr h39) (by first | exact Or.inl h44 | exact Or.inr h52)
            · refine ex_iload dX10_rule_47 rfl ?_
              refine ex_cS (ν := m_Model_isSymbol) (as := [.int (d)]) dX10_rule_49 ln_Model_138 mf_Model_isSymbol np_Model_isSymbol rfl rfl ⟨(Nat.le_of_ble_eq_true rfl), (Nat.le_of_ble_eq_true rfl), (Nat.le_of_ble_eq_true rfl), (Nat.le_of_ble_eq_true rfl)⟩ (by decide) ?_
              refine sp_Model_isSymbol ?_
              refine ⟨_, rfl, ?_⟩
              refine ex_if_eqN (tgt := 59) dX10_rule_52 (by decide) (smX_b _) (fun h52 => ?_) (fun h52 => ?_)
              · refine ex_iconst (v := nI 0) dX10_rule_59 (by decide) ?_
                refine ex_istore (L' := [some (.ref (56)), some (.int (l)), some (.int (a)), some (.int (b)), some (.int (c)), some (.int (d)), some (.int (nI (0))), none]) dX10_rule_60 (by decide) rfl ?_
                first | exact F0 | exact F1 h4 (by first | exact Or.inl h8 | exact Or.inr h15) (by first | exact Or.inl h19 | exact Or.inr h26) (by first | exact Or.inl h31 | exact Or.inr h39) (by first | exact Or.inl h44 | exact Or.inr h52)
              · refine ex_iconst (v := nI 1) dX10_rule_55 (by decide) ?_
                refine ex_goto (tgt := 60) dX10_rule_56 (by decide) ?_
                refine ex_istore (L' := [some (.ref (56)), some (.int (l)), some (.int (a)), some (.int (b)), some (.int (c)), some (.int (d)), some (.int (nI (1))), none]) dX10_rule_60 (by decide) rfl ?_
                first | exact F0 | exact F1 h4 (by first | exact Or.inl h8 | exact Or.inr h15) (by first | exact Or.inl h19 | exact Or.inr h26) (by first | exact Or.inl h31 | exact Or.inr h39) (by first | exact Or.inl h44 | exact Or.inr h52)
          · refine ex_iload dX10_rule_34 rfl ?_
            refine ex_cS (ν := m_Model_isSymbol) (as := [.int (c)]) dX10_rule_36 ln_Model_138 mf_Model_isSymbol np_Model_isSymbol rfl rfl ⟨(Nat.le_of_ble_eq_true rfl), (Nat.le_of_ble_eq_true rfl), (Nat.le_of_ble_eq_true rfl), (Nat.le_of_ble_eq_true rfl)⟩ (by decide) ?_
            refine sp_Model_isSymbol ?_
            refine ⟨_, rfl, ?_⟩
            refine ex_if_eqN (tgt := 59) dX10_rule_39 (by decide) (smX_b _) (fun h39 => ?_) (fun h39 => ?_)
            · refine ex_iconst (v := nI 0) dX10_rule_59 (by decide) ?_
              refine ex_istore (L' := [some (.ref (56)), some (.int (l)), some (.int (a)), some (.int (b)), some (.int (c)), some (.int (d)), some (.int (nI (0))), none]) dX10_rule_60 (by decide) rfl ?_
              first | exact F0 | exact F1 h4 (by first | exact Or.inl h8 | exact Or.inr h15) (by first | exact Or.inl h19 | exact Or.inr h26) (by first | exact Or.inl h31 | exact Or.inr h39) (by first | exact Or.inl h44 | exact Or.inr h52)
            · refine ex_iload dX10_rule_42 rfl ?_
              refine ex_if_eq (tgt := 55) dX10_rule_44 (by decide) (fun h44 => ?_) (fun h44 => ?_)
              · refine ex_iconst (v := nI 1) dX10_rule_55 (by decide) ?_
                refine ex_goto (tgt := 60) dX10_rule_56 (by decide) ?_
                refine ex_istore (L' := [some (.ref (56)), some (.int (l)), some (.int (a)), some (.int (b)), some (.int (c)), some (.int (d)), some (.int (nI (1))), none]) dX10_rule_60 (by decide) rfl ?_
                first | exact F0 | exact F1 h4 (by first | exact Or.inl h8 | exact Or.inr h15) (by first | exact Or.inl h19 | exact Or.inr h26) (by first | exact Or.inl h31 | exact Or.inr h39) (by first | exact Or.inl h44 | exact Or.inr h52)
              · refine ex_iload dX10_rule_47 rfl ?_
                refine ex_cS (ν := m_Model_isSymbol) (as := [.int (d)]) dX10_rule_49 ln_Model_138 mf_Model_isSymbol np_Model_isSymbol rfl rfl ⟨(Nat.le_of_ble_eq_true rfl), (Nat.le_of_ble_eq_true rfl), (Nat.le_of_ble_eq_true rfl), (Nat.le_of_ble_eq_true rfl)⟩ (by decide) ?_
                refine sp_Model_isSymbol ?_
                refine ⟨_, rfl, ?_⟩
                refine ex_if_eqN (tgt := 59) dX10_rule_52 (by decide) (smX_b _) (fun h52 => ?_) (fun h52 => ?_)
                · refine ex_iconst (v := nI 0) dX10_rule_59 (by decide) ?_
                  refine ex_istore (L' := [some (.ref (56)), some (.int (l)), some (.int (a)), some (.int (b)), some (.int (c)), some (.int (d)), some (.int (nI (0))), none]) dX10_rule_60 (by decide) rfl ?_
                  first | exact F0 | exact F1 h4 (by first | exact Or.inl h8 | exact Or.inr h15) (by first | exact Or.inl h19 | exact Or.inr h26) (by first | exact Or.inl h31 | exact Or.inr h39) (by first | exact Or.inl h44 | exact Or.inr h52)
                · refine ex_iconst (v := nI 1) dX10_rule_55 (by decide) ?_
                  refine ex_goto (tgt := 60) dX10_rule_56 (by decide) ?_
                  refine ex_istore (L' := [some (.ref (56)), some (.int (l)), some (.int (a)), some (.int (b)), some (.int (c)), some (.int (d)), some (.int (nI (1))), none]) dX10_rule_60 (by decide) rfl ?_
                  first | exact F0 | exact F1 h4 (by first | exact Or.inl h8 | exact Or.inr h15) (by first | exact Or.inl h19 | exact Or.inr h26) (by first | exact Or.inl h31 | exact Or.inr h39) (by first | exact Or.inl h44 | exact Or.inr h52)
    · refine ex_iload_n (i := 2) dX10_rule_11 rfl rfl ?_
      refine ex_cS (ν := m_Model_isSymbol) (as := [.int (a)]) dX10_rule_12 ln_Model_138 mf_Model_isSymbol np_Model_isSymbol rfl rfl ⟨(Nat.le_of_ble_eq_true rfl), (Nat.le_of_ble_eq_true rfl), (Nat.le_of_ble_eq_true rfl), (Nat.le_of_ble_eq_true rfl)⟩ (by decide) ?_
      refine sp_Model_isSymbol ?_
      refine ⟨_, rfl, ?_⟩
      refine ex_if_eqN (tgt := 59) dX10_rule_15 (by decide) (smX_b _) (fun h15 => ?_) (fun h15 => ?_)
      · refine ex_iconst (v := nI 0) dX10_rule_59 (by decide) ?_
        refine ex_istore (L' := [some (.ref (56)), some (.int (l)), some (.int (a)), some (.int (b)), some (.int (c)), some (.int (d)), some (.int (nI (0))), none]) dX10_rule_60 (by decide) rfl ?_
        first | exact F0 | exact F1 h4 (by first | exact Or.inl h8 | exact Or.inr h15) (by first | exact Or.inl h19 | exact Or.inr h26) (by first | exact Or.inl h31 | exact Or.inr h39) (by first | exact Or.inl h44 | exact Or.inr h52)
      · refine ex_iload_n (i := 3) dX10_rule_18 rfl rfl ?_
        refine ex_if_eq (tgt := 29) dX10_rule_19 (by decide) (fun h19 => ?_) (fun h19 => ?_)
        · refine ex_iload dX10_rule_29 rfl ?_
          refine ex_if_eq (tgt := 42) dX10_rule_31 (by decide) (fun h31 => ?_) (fun h31 => ?_)
          · refine ex_iload dX10_rule_42 rfl ?_
            refine ex_if_eq (tgt := 55) dX10_rule_44 (by decide) (fun h44 => ?_) (fun h44 => ?_)
            · refine ex_iconst (v := nI 1) dX10_rule_55 (by decide) ?_
              refine ex_goto (tgt := 60) dX10_rule_56 (by decide) ?_
              refine ex_istore (L' := [some (.ref (56)), some (.int (l)), some (.int (a)), some (.int (b)), some (.int (c)), some (.int (d)), some (.int (nI (1))), none]) dX10_rule_60 (by decide) rfl ?_
              first | exact F0 | exact F1 h4 (by first | exact Or.inl h8 | exact Or.inr h15) (by first | exact Or.inl h19 | exact Or.inr h26) (by first | exact Or.inl h31 | exact Or.inr h39) (by first | exact Or.inl h44 | exact Or.inr h52)
            · refine ex_iload dX10_rule_47 rfl ?_
              refine ex_cS (ν := m_Model_isSymbol) (as := [.int (d)]) dX10_rule_49 ln_Model_138 mf_Model_isSymbol np_Model_isSymbol rfl rfl ⟨(Nat.le_of_ble_eq_true rfl), (Nat.le_of_ble_eq_true rfl), (Nat.le_of_ble_eq_true rfl), (Nat.le_of_ble_eq_true rfl)⟩ (by decide) ?_
              refine sp_Model_isSymbol ?_
              refine ⟨_, rfl, ?_⟩
              refine ex_if_eqN (tgt := 59) dX10_rule_52 (by decide) (smX_b _) (fun h52 => ?_) (fun h52 => ?_)
              · refine ex_iconst (v := nI 0) dX10_rule_59 (by decide) ?_
                refine ex_istore (L' := [some (.ref (56)), some (.int (l)), some (.int (a)), some (.int (b)), some (.int (c)), some (.int (d)), some (.int (nI (0))), none]) dX10_rule_60 (by decide) rfl ?_
                first | exact F0 | exact F1 h4 (by first | exact Or.inl h8 | exact Or.inr h15) (by first | exact Or.inl h19 | exact Or.inr h26) (by first | exact Or.inl h31 | exact Or.inr h39) (by first | exact Or.inl h44 | exact Or.inr h52)
              · refine ex_iconst (v := nI 1) dX10_rule_55 (by decide) ?_
                refine ex_goto (tgt := 60) dX10_rule_56 (by decide) ?_
                refine ex_istore (L' := [some (.ref (56)), some (.int (l)), some (.int (a)), some (.int (b)), some (.int (c)), some (.int (d)), some (.int (nI (1))), none]) dX10_rule_60 (by decide) rfl ?_
                first | exact F0 | exact F1 h4 (by first | exact Or.inl h8 | exact Or.inr h15) (by first | exact Or.inl h19 | exact Or.inr h26) (by first | exact Or.inl h31 | exact Or.inr h39) (by first | exact Or.inl h44 | exact Or.inr h52)
          · refine ex_iload dX10_rule_34 rfl ?_
            refine ex_cS (ν := m_Model_isSymbol) (as := [.int (c)]) dX10_rule_36 ln_Model_138 mf_Model_isSymbol np_Model_isSymbol rfl rfl ⟨(Nat.le_of_ble_eq_true rfl), (Nat.le_of_ble_eq_true rfl), (Nat.le_of_ble_eq_true rfl), (Nat.le_of_ble_eq_true rfl)⟩ (by decide) ?_
            refine sp_Model_isSymbol ?_
            refine ⟨_, rfl, ?_⟩
            refine ex_if_eqN (tgt := 59) dX10_rule_39 (by decide) (smX_b _) (fun h39 => ?_) (fun h39 => ?_)
            · refine ex_iconst (v := nI 0) dX10_rule_59 (by decide) ?_
              refine ex_istore (L' := [some (.ref (56)), some (.int (l)), some (.int (a)), some (.int (b)), some (.int (c)), some (.int (d)), some (.int (nI (0))), none]) dX10_rule_60 (by decide) rfl ?_
              first | exact F0 | exact F1 h4 (by first | exact Or.inl h8 | exact Or.inr h15) (by first | exact Or.inl h19 | exact Or.inr h26) (by first | exact Or.inl h31 | exact Or.inr h39) (by first | exact Or.inl h44 | exact Or.inr h52)
            · refine ex_iload dX10_rule_42 rfl ?_
              refine ex_if_eq (tgt := 55) dX10_rule_44 (by decide) (fun h44 => ?_) (fun h44 => ?_)
              · refine ex_iconst (v := nI 1) dX10_rule_55 (by decide) ?_
                refine ex_goto (tgt := 60) dX10_rule_56 (by decide) ?_
                refine ex_istore (L' := [some (.ref (56)), some (.int (l)), some (.int (a)), some (.int (b)), some (.int (c)), some (.int (d)), some (.int (nI (1))), none]) dX10_rule_60 (by decide) rfl ?_
                first | exact F0 | exact F1 h4 (by first | exact Or.inl h8 | exact Or.inr h15) (by first | exact Or.inl h19 | exact Or.inr h26) (by first | exact Or.inl h31 | exact Or.inr h39) (by first | exact Or.inl h44 | exact Or.inr h52)
              · refine ex_iload dX10_rule_47 rfl ?_
                refine ex_cS (ν := m_Model_isSymbol) (as := [.int (d)]) dX10_rule_49 ln_Model_138 mf_Model_isSymbol np_Model_isSymbol rfl rfl ⟨(Nat.le_of_ble_eq_true rfl), (Nat.le_of_ble_eq_true rfl), (Nat.le_of_ble_eq_true rfl), (Nat.le_of_ble_eq_true rfl)⟩ (by decide) ?_
                refine sp_Model_isSymbol ?_
                refine ⟨_, rfl, ?_⟩
                refine ex_if_eqN (tgt := 59) dX10_rule_52 (by decide) (smX_b _) (fun h52 => ?_) (fun h52 => ?_)
                · refine ex_iconst (v := nI 0) dX10_rule_59 (by decide) ?_
                  refine ex_istore (L' := [some (.ref (56)), some (.int (l)), some (.int (a)), some (.int (b)), some (.int (c)), some (.int (d)), some (.int (nI (0))), none]) dX10_rule_60 (by decide) rfl ?_
                  first | exact F0 | exact F1 h4 (by first | exact Or.inl h8 | exact Or.inr h15) (by first | exact Or.inl h19 | exact Or.inr h26) (by first | exact Or.inl h31 | exact Or.inr h39) (by first | exact Or.inl h44 | exact Or.inr h52)
                · refine ex_iconst (v := nI 1) dX10_rule_55 (by decide) ?_
                  refine ex_goto (tgt := 60) dX10_rule_56 (by decide) ?_
                  refine ex_istore (L' := [some (.ref (56)), some (.int (l)), some (.int (a)), some (.int (b)), some (.int (c)), some (.int (d)), some (.int (nI (1))), none]) dX10_rule_60 (by decide) rfl ?_
                  first | exact F0 | exact F1 h4 (by first | exact Or.inl h8 | exact Or.inr h15) (by first | exact Or.inl h19 | exact Or.inr h26) (by first | exact Or.inl h31 | exact Or.inr h39) (by first | exact Or.inl h44 | exact Or.inr h52)
        · refine ex_iload_n (i := 3) dX10_rule_22 rfl rfl ?_
          refine ex_cS (ν := m_Model_isSymbol) (as := [.int (b)]) dX10_rule_23 ln_Model_138 mf_Model_isSymbol np_Model_isSymbol rfl rfl ⟨(Nat.le_of_ble_eq_true rfl), (Nat.le_of_ble_eq_true rfl), (Nat.le_of_ble_eq_true rfl), (Nat.le_of_ble_eq_true rfl)⟩ (by decide) ?_
          refine sp_Model_isSymbol ?_
          refine ⟨_, rfl, ?_⟩
          refine ex_if_eqN (tgt := 59) dX10_rule_26 (by decide) (smX_b _) (fun h26 => ?_) (fun h26 => ?_)
          · refine ex_iconst (v := nI 0) dX10_rule_59 (by decide) ?_
            refine ex_istore (L' := [some (.ref (56)), some (.int (l)), some (.int (a)), some (.int (b)), some (.int (c)), some (.int (d)), some (.int (nI (0))), none]) dX10_rule_60 (by decide) rfl ?_
            first | exact F0 | exact F1 h4 (by first | exact Or.inl h8 | exact Or.inr h15) (by first | exact Or.inl h19 | exact Or.inr h26) (by first | exact Or.inl h31 | exact Or.inr h39) (by first | exact Or.inl h44 | exact Or.inr h52)
          · refine ex_iload dX10_rule_29 rfl ?_
            refine ex_if_eq (tgt := 42) dX10_rule_31 (by decide) (fun h31 => ?_) (fun h31 => ?_)
            · refine ex_iload dX10_rule_42 rfl ?_
              refine ex_if_eq (tgt := 55) dX10_rule_44 (by decide) (fun h44 => ?_) (fun h44 => ?_)
              · refine ex_iconst (v := nI 1) dX10_rule_55 (by decide) ?_
                refine ex_goto (tgt := 60) dX10_rule_56 (by decide) ?_
                refine ex_istore (L' := [some (.ref (56)), some (.int (l)), some (.int (a)), some (.int (b)), some (.int (c)), some (.int (d)), some (.int (nI (1))), none]) dX10_rule_60 (by decide) rfl ?_
                first | exact F0 | exact F1 h4 (by first | exact Or.inl h8 | exact Or.inr h15) (by first | exact Or.inl h19 | exact Or.inr h26) (by first | exact Or.inl h31 | exact Or.inr h39) (by first | exact Or.inl h44 | exact Or.inr h52)
              · refine ex_iload dX10_rule_47 rfl ?_
                refine ex_cS (ν := m_Model_isSymbol) (as := [.int (d)]) dX10_rule_49 ln_Model_138 mf_Model_isSymbol np_Model_isSymbol rfl rfl ⟨(Nat.le_of_ble_eq_true rfl), (Nat.le_of_ble_eq_true rfl), (Nat.le_of_ble_eq_true rfl), (Nat.le_of_ble_eq_true rfl)⟩ (by decide) ?_
                refine sp_Model_isSymbol ?_
                refine ⟨_, rfl, ?_⟩
                refine ex_if_eqN (tgt := 59) dX10_rule_52 (by decide) (smX_b _) (fun h52 => ?_) (fun h52 => ?_)
                · refine ex_iconst (v := nI 0) dX10_rule_59 (by decide) ?_
                  refine ex_istore (L' := [some (.ref (56)), some (.int (l)), some (.int (a)), some (.int (b)), some (.int (c)), some (.int (d)), some (.int (nI (0))), none]) dX10_rule_60 (by decide) rfl ?_
                  first | exact F0 | exact F1 h4 (by first | exact Or.inl h8 | exact Or.inr h15) (by first | exact Or.inl h19 | exact Or.inr h26) (by first | exact Or.inl h31 | exact Or.inr h39) (by first | exact Or.inl h44 | exact Or.inr h52)
                · refine ex_iconst (v := nI 1) dX10_rule_55 (by decide) ?_
                  refine ex_goto (tgt := 60) dX10_rule_56 (by decide) ?_
                  refine ex_istore (L' := [some (.ref (56)), some (.int (l)), some (.int (a)), some (.int (b)), some (.int (c)), some (.int (d)), some (.int (nI (1))), none]) dX10_rule_60 (by decide) rfl ?_
                  first | exact F0 | exact F1 h4 (by first | exact Or.inl h8 | exact Or.inr h15) (by first | exact Or.inl h19 | exact Or.inr h26) (by first | exact Or.inl h31 | exact Or.inr h39) (by first | exact Or.inl h44 | exact Or.inr h52)
            · refine ex_iload dX10_rule_34 rfl ?_
              refine ex_cS (ν := m_Model_isSymbol) (as := [.int (c)]) dX10_rule_36 ln_Model_138 mf_Model_isSymbol np_Model_isSymbol rfl rfl ⟨(Nat.le_of_ble_eq_true rfl), (Nat.le_of_ble_eq_true rfl), (Nat.le_of_ble_eq_true rfl), (Nat.le_of_ble_eq_true rfl)⟩ (by decide) ?_
              refine sp_Model_isSymbol ?_
              refine ⟨_, rfl, ?_⟩
              refine ex_if_eqN (tgt := 59) dX10_rule_39 (by decide) (smX_b _) (fun h39 => ?_) (fun h39 => ?_)
              · refine ex_iconst (v := nI 0) dX10_rule_59 (by decide) ?_
                refine ex_istore (L' := [some (.ref (56)), some (.int (l)), some (.int (a)), some (.int (b)), some (.int (c)), some (.int (d)), some (.int (nI (0))), none]) dX10_rule_60 (by decide) rfl ?_
                first | exact F0 | exact F1 h4 (by first | exact Or.inl h8 | exact Or.inr h15) (by first | exact Or.inl h19 | exact Or.inr h26) (by first | exact Or.inl h31 | exact Or.inr h39) (by first | exact Or.inl h44 | exact Or.inr h52)
              · refine ex_iload dX10_rule_42 rfl ?_
                refine ex_if_eq (tgt := 55) dX10_rule_44 (by decide) (fun h44 => ?_) (fun h44 => ?_)
                · refine ex_iconst (v := nI 1) dX10_rule_55 (by decide) ?_
                  refine ex_goto (tgt := 60) dX10_rule_56 (by decide) ?_
                  refine ex_istore (L' := [some (.ref (56)), some (.int (l)), some (.int (a)), some (.int (b)), some (.int (c)), some (.int (d)), some (.int (nI (1))), none]) dX10_rule_60 (by decide) rfl ?_
                  first | exact F0 | exact F1 h4 (by first | exact Or.inl h8 | exact Or.inr h15) (by first | exact Or.inl h19 | exact Or.inr h26) (by first | exact Or.inl h31 | exact Or.inr h39) (by first | exact Or.inl h44 | exact Or.inr h52)
                · refine ex_iload dX10_rule_47 rfl ?_
                  refine ex_cS (ν := m_Model_isSymbol) (as := [.int (d)]) dX10_rule_49 ln_Model_138 mf_Model_isSymbol np_Model_isSymbol rfl rfl ⟨(Nat.le_of_ble_eq_true rfl), (Nat.le_of_ble_eq_true rfl), (Nat.le_of_ble_eq_true rfl), (Nat.le_of_ble_eq_true rfl)⟩ (by decide) ?_
                  refine sp_Model_isSymbol ?_
                  refine ⟨_, rfl, ?_⟩
                  refine ex_if_eqN (tgt := 59) dX10_rule_52 (by decide) (smX_b _) (fun h52 => ?_) (fun h52 => ?_)
                  · refine ex_iconst (v := nI 0) dX10_rule_59 (by decide) ?_
                    refine ex_istore (L' := [some (.ref (56)), some (.int (l)), some (.int (a)), some (.int (b)), some (.int (c)), some (.int (d)), some (.int (nI (0))), none]) dX10_rule_60 (by decide) rfl ?_
                    first | exact F0 | exact F1 h4 (by first | exact Or.inl h8 | exact Or.inr h15) (by first | exact Or.inl h19 | exact Or.inr h26) (by first | exact Or.inl h31 | exact Or.inr h39) (by first | exact Or.inl h44 | exact Or.inr h52)
                  · refine ex_iconst (v := nI 1) dX10_rule_55 (by decide) ?_
                    refine ex_goto (tgt := 60) dX10_rule_56 (by decide) ?_
                    refine ex_istore (L' := [some (.ref (56)), some (.int (l)), some (.int (a)), some (.int (b)), some (.int (c)), some (.int (d)), some (.int (nI (1))), none]) dX10_rule_60 (by decide) rfl ?_
                    first | exact F0 | exact F1 h4 (by first | exact Or.inl h8 | exact Or.inr h15) (by first | exact Or.inl h19 | exact Or.inr h26) (by first | exact Or.inl h31 | exact Or.inr h39) (by first | exact Or.inl h44 | exact Or.inr h52)
theorem RG_add {i i1 : Nat → Nat → Int32} {n : Nat} {sy : Nat → Nat → Nat} {z : Nat → Nat} (rg : RG i n sy) (hn : n < 14) (hz : okZ z) (e3 : i1 56 3 = nI (n + 1)) (e57 : i1 57 = upd (i 57) n (nI (z 0))) (e58 : i1 58 = upd (upd (upd (upd (i 58) (4 * n) (nI (z 1))) (4 * n + 1) (nI (z 2))) (4 * n + 2) (nI (z 3))) (4 * n + 3) (nI (z 4))) (e59 : i1 59 = upd (i 59) n (nI (lnS z))) : RG i1 (n + 1) (syA n sy z) := by
  obtain ⟨a, b, c, d, e⟩ := rg
  have hs : ∀ r k, r < n → syA n sy z r k = sy r k := fun r k hr => by unfold syA; rw [if_neg (by omega), if_neg (by omega)]
  have hs2 : ∀ k, syA n sy z n k = z k := fun k => by unfold syA; rw [if_pos rfl]
  refine ⟨e3, fun r hr => ?_, fun r k hr hk => ?_, fun r hr => ?_, GW_add e hn hz⟩
  · rw [e57]; unfold upd
    by_cases hrn : r = n
    · rw [if_pos hrn, hrn, hs2]
    · rw [if_neg hrn, hs r 0 (by omega)]; exact b r (by omega)
  · rw [e58]; unfold upd
    by_cases hrn : r = n
    · rw [hrn, hs2]
      rcases (show k = 0 ∨ k = 1 ∨ k = 2 ∨ k = 3 by omega) with rfl | rfl | rfl | rfl
      · rw [if_neg (by omega), if_neg (by omega), if_neg (by omega), if_pos (by omega)]
      · rw [if_neg (by omega), if_neg (by omega), if_pos (by omega)]
      · rw [if_neg (by omega), if_pos (by omega)]
      · rw [if_pos (by omega)]
    · rw [if_neg (by omega), if_neg (by omega), if_neg (by omega), if_neg (by omega), hs r _ (by omega)]; exact c r k (by omega) hk
  · rw [e59]; unfold upd
    by_cases hrn : r = n
    · rw [if_pos hrn, hrn]
      show _ = nI (lnS (syA n sy z n))
      rw [show syA n sy z n = z from funext hs2]
    · rw [if_neg hrn]
      show _ = nI (lnS (syA n sy z r))
      rw [show syA n sy z r = sy r from funext (fun k => hs r k (by omega))]; exact d r (by omega)
theorem sm_n {z : Nat} (h : ¬ z = 0) (h2 : z = 0 ∨ 1 ≤ z ∧ z ≤ 6 ∨ 8 ≤ z ∧ z ≤ 13) : smX (nI z) = 1 := by
  apply smX_1
  unfold smX
  rcases h2.resolve_left h with c | c
  · rw [if_neg (fun y => absurd y.1 (by rw [tmX_n (by omega)]; unfold tmB; rw [if_pos c]; decide))]; decide
  · rw [if_neg (fun y => absurd y.2 (by rw [ntX_n (by omega)]; unfold ntB; rw [if_pos c]; decide))]; decide
theorem sp_Model_rule_ok {z : Nat → Nat} (rg : RG i n sy) (hz : okZ z) (hX2 : 14 ≤ n → ∀ i1, Fm [] [45] i i1 → i1 56 45 = nI 2 → Q (.ok (some (.int (nI 0)))) (94, g, i1, q, RT t))
    (hQ : n < 14 → ∀ i1, Fm [57, 58, 59] [3, 9, 45] i i1 → i1 56 45 = nI 0 → i1 56 9 = nI 0 → RG i1 (n + 1) (syA n sy z) → Q (.ok (some (.int (nI n)))) (94, g, i1, q, RT t)) :
    Wx m_Model_rule 0 [some (.ref 56), some (.int (nI (z 0))), some (.int (nI (z 1))), some (.int (nI (z 2))), some (.int (nI (z 3))), some (.int (nI (z 4))), none, none] [] (94, g, i, q, RT t) (0, 0) Q := by
  have hn14 := rg.2.2.2.2.1
  have eN : ntX (nI (z 0)) = 1 := by rw [ntX_n (by have := hz.1.2; omega)]; unfold ntB; rw [if_pos hz.1]
  have zb : ∀ k, 1 ≤ k → k < 5 → z k < 2 ^ 31 := fun k h1 h5 => by rcases hz.2.1 k h1 h5 with c | c | c <;> omega
  have zb0 : z 0 < 2 ^ 31 := by have := hz.1.2; omega
  have zb1 := zb 1 (by decide) (by decide)
  have zb2 := zb 2 (by decide) (by decide)
  have zb3 := zb 3 (by decide) (by decide)
  have zb4 := zb 4 (by decide) (by decide)
  have s1 := fun h => sm_n h (hz.2.1 1 (by decide) (by decide))
  have s2 := fun h => sm_n h (hz.2.1 2 (by decide) (by decide))
  have s3 := fun h => sm_n h (hz.2.1 3 (by decide) (by decide))
  have s4 := fun h => sm_n h (hz.2.1 4 (by decide) (by decide))
  have z1 := hz.2.2 1 (by decide) (by decide)
  have z2 := hz.2.2 2 (by decide) (by decide)
  have z3 := hz.2.2 3 (by decide) (by decide)
  have e3 : ∀ v, xU i 56 45 v 56 3 = nI n := fun v => by rw [cd_ne _ _ (by decide)]; exact rg.1
  have e3b : ∀ v w, xU (xU i 56 45 v) 56 45 w 56 3 = nI n := fun v w => by rw [cd_ne _ _ (by decide), cd_ne _ _ (by decide)]; exact rg.1
  rcases (show (z 1 = 0 ∧ z 2 = 0 ∧ z 3 = 0 ∧ z 4 = 0) ∨ (z 1 ≠ 0 ∧ z 2 = 0 ∧ z 3 = 0 ∧ z 4 = 0) ∨ (z 1 ≠ 0 ∧ z 2 ≠ 0 ∧ z 3 = 0 ∧ z 4 = 0) ∨ (z 1 ≠ 0 ∧ z 2 ≠ 0 ∧ z 3 ≠ 0 ∧ z 4 = 0) ∨ (z 1 ≠ 0 ∧ z 2 ≠ 0 ∧ z 3 ≠ 0 ∧ z 4 ≠ 0) by
    by_cases c1 : z 1 = 0
    · exact Or.inl ⟨c1, z1 c1, z2 (z1 c1), z3 (z2 (z1 c1))⟩
    · by_cases c2 : z 2 = 0
      · exact Or.inr (Or.inl ⟨c1, c2, z2 c2, z3 (z2 c2)⟩)
      · by_cases c3 : z 3 = 0
        · exact Or.inr (Or.inr (Or.inl ⟨c1, c2, c3, z3 c3⟩))
        · by_cases c4 : z 4 = 0
          · exact Or.inr (Or.inr (Or.inr (Or.inl ⟨c1, c2, c3, c4⟩)))
          · exact Or.inr (Or.inr (Or.inr (Or.inr ⟨c1, c2, c3, c4⟩)))) with ⟨c1, c2, c3, c4⟩ | ⟨c1, c2, c3, c4⟩ | ⟨c1, c2, c3, c4⟩ | ⟨c1, c2, c3, c4⟩ | ⟨c1, c2, c3, c4⟩
  · have el : lnS z = 0 := by unfold lnS; simp [c1, c2, c3, c4]
    by_cases h14 : 14 ≤ n
    ·
      refine ex_iload_n (i := 1) dX10_rule_0 rfl rfl ?_
      refine ex_cS (ν := m_Model_nonterminal) (as := [.int (nI (z 0))]) dX10_rule_1 ln_Model_135 mf_Model_nonterminal np_Model_nonterminal rfl rfl ⟨(Nat.le_of_ble_eq_true rfl), (Nat.le_of_ble_eq_true rfl), (Nat.le_of_ble_eq_true rfl), (Nat.le_of_ble_eq_true rfl)⟩ (by decide) ?_
      refine sp_Model_nonterminal ?_
      refine ⟨_, rfl, ?_⟩
      refine ex_asN (a := 1) (by rw [eN]) ?_
      refine ex_if_eqN (tgt := 59) dX10_rule_4 (by decide) (by omega) (fun h4 => by exact absurd h4 (by decide)) (fun h4 => ?_)
      refine ex_iload_n (i := 2) dX10_rule_7 rfl rfl ?_
      refine ex_if_eqN (tgt := 18) dX10_rule_8 (by decide) (by omega) (fun h8 => ?_) (fun h8 => by omega)
      refine ex_iload_n (i := 3) dX10_rule_18 rfl rfl ?_
      refine ex_if_eqN (tgt := 29) dX10_rule_19 (by decide) (by omega) (fun h19 => ?_) (fun h19 => by omega)
      refine ex_iload dX10_rule_29 rfl ?_
      refine ex_if_eqN (tgt := 42) dX10_rule_31 (by decide) (by omega) (fun h31 => ?_) (fun h31 => by omega)
      refine ex_iload dX10_rule_42 rfl ?_
      refine ex_if_eqN (tgt := 55) dX10_rule_44 (by decide) (by omega) (fun h44 => ?_) (fun h44 => by omega)
      refine ex_iconst (v := nI 1) dX10_rule_55 (by decide) ?_
      refine ex_goto (tgt := 60) dX10_rule_56 (by decide) ?_
      refine ex_istore (L' := [some (.ref (56)), some (.int (nI (z 0))), some (.int (nI (z 1))), some (.int (nI (z 2))), some (.int (nI (z 3))), some (.int (nI (z 4))), some (.int (nI (1))), none]) dX10_rule_60 (by decide) rfl ?_
      refine ex_iload dX10_rule_62 rfl ?_
      refine ex_if_eqN (tgt := 98) dX10_rule_64 (by decide) (by omega) (fun h64 => by exact absurd h64 (by decide)) (fun h64 => ?_)
      refine ex_iload_n (i := 2) dX10_rule_67 rfl rfl ?_
      refine ex_if_neN (tgt := 75) dX10_rule_68 (by decide) (by omega) (fun h68 => by omega) (fun h68 => ?_)
      refine ex_iload_n (i := 3) dX10_rule_71 rfl rfl ?_
      refine ex_if_neN (tgt := 98) dX10_rule_72 (by decide) (by omega) (fun h72 => by omega) (fun h72 => ?_)
      refine ex_iload_n (i := 3) dX10_rule_75 rfl rfl ?_
      refine ex_if_neN (tgt := 84) dX10_rule_76 (by decide) (by omega) (fun h76 => by omega) (fun h76 => ?_)
      refine ex_iload dX10_rule_79 rfl ?_
      refine ex_if_neN (tgt := 98) dX10_rule_81 (by decide) (by omega) (fun h81 => by omega) (fun h81 => ?_)
      refine ex_iload dX10_rule_84 rfl ?_
      refine ex_if_neN (tgt := 94) dX10_rule_86 (by decide) (by omega) (fun h86 => by omega) (fun h86 => ?_)
      refine ex_iload dX10_rule_89 rfl ?_
      refine ex_if_neN (tgt := 98) dX10_rule_91 (by decide) (by omega) (fun h91 => by omega) (fun h91 => ?_)
      refine ex_iconst (v := nI 1) dX10_rule_94 (by decide) ?_
      refine ex_goto (tgt := 99) dX10_rule_95 (by decide) ?_
      refine ex_istore (L' := [some (.ref (56)), some (.int (nI (z 0))), some (.int (nI (z 1))), some (.int (nI (z 2))), some (.int (nI (z 3))), some (.int (nI (z 4))), some (.int (nI (1))), none]) dX10_rule_99 (by decide) rfl ?_
      refine ex_aload_n (i := 0) dX10_rule_101 rfl rfl ?_
      refine ex_iload dX10_rule_102 rfl ?_
      refine ex_iconst (v := nI 1) dX10_rule_104 (by decide) ?_
      refine ex_cV (ν := m_Model_good) (a := 56) (ci := 10) (as := [.int (nI (1)), .int (nI (1))]) dX10_rule_105 ln_Model_141 mf_Model_good rfl (Nat.le_of_ble_eq_true rfl) rfl rfl np_Model_good rfl rfl ⟨(Nat.le_of_ble_eq_true rfl), (Nat.le_of_ble_eq_true rfl), (Nat.le_of_ble_eq_true rfl), (Nat.le_of_ble_eq_true rfl)⟩ (by decide) ?_
      refine sp_Model_good (b := 1) (by decide) ?_
      refine ⟨_, rfl, ?_⟩
      refine ex_if_eqN (tgt := 133) dX10_rule_108 (by decide) (by omega) (fun h108 => by exact absurd h108 (by decide)) (fun h108 => ?_)
      refine ex_aload_n (i := 0) dX10_rule_111 rfl rfl ?_
      refine ex_aload_n (i := 0) dX10_rule_112 rfl rfl ?_
      refine ex_getI dX10_rule_113 fl_Model_145 rfl rfl (by decide) ?_
      refine ex_asN (a := n) (e3 _) ?_
      refine ex_bipush (v := nI 14) dX10_rule_116 (by decide) ?_
      refine ex_icmp_geN (tgt := 125) dX10_rule_118 (by decide) (by omega) (by omega) (fun h118 => ?_) (fun h118 => by omega)
      refine ex_iconst (v := nI 0) dX10_rule_125 (by decide) ?_
      refine ex_iconst (v := nI 2) dX10_rule_126 (by decide) ?_
      refine ex_cV (ν := m_Model_good) (a := 56) (ci := 10) (as := [.int (nI (0)), .int (nI (2))]) dX10_rule_127 ln_Model_141 mf_Model_good rfl (Nat.le_of_ble_eq_true rfl) rfl rfl np_Model_good rfl rfl ⟨(Nat.le_of_ble_eq_true rfl), (Nat.le_of_ble_eq_true rfl), (Nat.le_of_ble_eq_true rfl), (Nat.le_of_ble_eq_true rfl)⟩ (by decide) ?_
      refine sp_Model_good (b := 0) (by decide) ?_
      refine ⟨_, rfl, ?_⟩
      refine ex_if_neN (tgt := 135) dX10_rule_130 (by decide) (by omega) (fun h130 => by exact absurd h130 (by decide)) (fun h130 => ?_)
      refine ex_iconst (v := nI 0) dX10_rule_133 (by decide) ?_
      refine ex_iret dX10_rule_134 rfl rfl ?_
      exact hX2 h14 _ ((Fm.rf.F (by decide)).F (by decide)) (cd_at2 _ _ _)
    ·
      refine ex_iload_n (i := 1) dX10_rule_0 rfl rfl ?_
      refine ex_cS (ν := m_Model_nonterminal) (as := [.int (nI (z 0))]) dX10_rule_1 ln_Model_135 mf_Model_nonterminal np_Model_nonterminal rfl rfl ⟨(Nat.le_of_ble_eq_true rfl), (Nat.le_of_ble_eq_true rfl), (Nat.le_of_ble_eq_true rfl), (Nat.le_of_ble_eq_true rfl)⟩ (by decide) ?_
      refine sp_Model_nonterminal ?_
      refine ⟨_, rfl, ?_⟩
      refine ex_asN (a := 1) (by rw [eN]) ?_
      refine ex_if_eqN (tgt := 59) dX10_rule_4 (by decide) (by omega) (fun h4 => by exact absurd h4 (by decide)) (fun h4 => ?_)
      refine ex_iload_n (i := 2) dX10_rule_7 rfl rfl ?_
      refine ex_if_eqN (tgt := 18) dX10_rule_8 (by decide) (by omega) (fun h8 => ?_) (fun h8 => by omega)
      refine ex_iload_n (i := 3) dX10_rule_18 rfl rfl ?_
      refine ex_if_eqN (tgt := 29) dX10_rule_19 (by decide) (by omega) (fun h19 => ?_) (fun h19 => by omega)
      refine ex_iload dX10_rule_29 rfl ?_
      refine ex_if_eqN (tgt := 42) dX10_rule_31 (by decide) (by omega) (fun h31 => ?_) (fun h31 => by omega)
      refine ex_iload dX10_rule_42 rfl ?_
      refine ex_if_eqN (tgt := 55) dX10_rule_44 (by decide) (by omega) (fun h44 => ?_) (fun h44 => by omega)
      refine ex_iconst (v := nI 1) dX10_rule_55 (by decide) ?_
      refine ex_goto (tgt := 60) dX10_rule_56 (by decide) ?_
      refine ex_istore (L' := [some (.ref (56)), some (.int (nI (z 0))), some (.int (nI (z 1))), some (.int (nI (z 2))), some (.int (nI (z 3))), some (.int (nI (z 4))), some (.int (nI (1))), none]) dX10_rule_60 (by decide) rfl ?_
      refine ex_iload dX10_rule_62 rfl ?_
      refine ex_if_eqN (tgt := 98) dX10_rule_64 (by decide) (by omega) (fun h64 => by exact absurd h64 (by decide)) (fun h64 => ?_)
      refine ex_iload_n (i := 2) dX10_rule_67 rfl rfl ?_
      refine ex_if_neN (tgt := 75) dX10_rule_68 (by decide) (by omega) (fun h68 => by omega) (fun h68 => ?_)
      refine ex_iload_n (i := 3) dX10_rule_71 rfl rfl ?_
      refine ex_if_neN (tgt := 98) dX10_rule_72 (by decide) (by omega) (fun h72 => by omega) (fun h72 => ?_)
      refine ex_iload_n (i := 3) dX10_rule_75 rfl rfl ?_
      refine ex_if_neN (tgt := 84) dX10_rule_76 (by decide) (by omega) (fun h76 => by omega) (fun h76 => ?_)
      refine ex_iload dX10_rule_79 rfl ?_
      refine ex_if_neN (tgt := 98) dX10_rule_81 (by decide) (by omega) (fun h81 => by omega) (fun h81 => ?_)
      refine ex_iload dX10_rule_84 rfl ?_
      refine ex_if_neN (tgt := 94) dX10_rule_86 (by decide) (by omega) (fun h86 => by omega) (fun h86 => ?_)
      refine ex_iload dX10_rule_89 rfl ?_
      refine ex_if_neN (tgt := 98) dX10_rule_91 (by decide) (by omega) (fun h91 => by omega) (fun h91 => ?_)
      refine ex_iconst (v := nI 1) dX10_rule_94 (by decide) ?_
      refine ex_goto (tgt := 99) dX10_rule_95 (by decide) ?_
      refine ex_istore (L' := [some (.ref (56)), some (.int (nI (z 0))), some (.int (nI (z 1))), some (.int (nI (z 2))), some (.int (nI (z 3))), some (.int (nI (z 4))), some (.int (nI (1))), none]) dX10_rule_99 (by decide) rfl ?_
      refine ex_aload_n (i := 0) dX10_rule_101 rfl rfl ?_
      refine ex_iload dX10_rule_102 rfl ?_
      refine ex_iconst (v := nI 1) dX10_rule_104 (by decide) ?_
      refine ex_cV (ν := m_Model_good) (a := 56) (ci := 10) (as := [.int (nI (1)), .int (nI (1))]) dX10_rule_105 ln_Model_141 mf_Model_good rfl (Nat.le_of_ble_eq_true rfl) rfl rfl np_Model_good rfl rfl ⟨(Nat.le_of_ble_eq_true rfl), (Nat.le_of_ble_eq_true rfl), (Nat.le_of_ble_eq_true rfl), (Nat.le_of_ble_eq_true rfl)⟩ (by decide) ?_
      refine sp_Model_good (b := 1) (by decide) ?_
      refine ⟨_, rfl, ?_⟩
      refine ex_if_eqN (tgt := 133) dX10_rule_108 (by decide) (by omega) (fun h108 => by exact absurd h108 (by decide)) (fun h108 => ?_)
      refine ex_aload_n (i := 0) dX10_rule_111 rfl rfl ?_
      refine ex_aload_n (i := 0) dX10_rule_112 rfl rfl ?_
      refine ex_getI dX10_rule_113 fl_Model_145 rfl rfl (by decide) ?_
      refine ex_asN (a := n) (e3 _) ?_
      refine ex_bipush (v := nI 14) dX10_rule_116 (by decide) ?_
      refine ex_icmp_geN (tgt := 125) dX10_rule_118 (by decide) (by omega) (by omega) (fun h118 => by omega) (fun h118 => ?_)
      refine ex_iconst (v := nI 1) dX10_rule_121 (by decide) ?_
      refine ex_goto (tgt := 126) dX10_rule_122 (by decide) ?_
      refine ex_iconst (v := nI 2) dX10_rule_126 (by decide) ?_
      refine ex_cV (ν := m_Model_good) (a := 56) (ci := 10) (as := [.int (nI (1)), .int (nI (2))]) dX10_rule_127 ln_Model_141 mf_Model_good rfl (Nat.le_of_ble_eq_true rfl) rfl rfl np_Model_good rfl rfl ⟨(Nat.le_of_ble_eq_true rfl), (Nat.le_of_ble_eq_true rfl), (Nat.le_of_ble_eq_true rfl), (Nat.le_of_ble_eq_true rfl)⟩ (by decide) ?_
      refine sp_Model_good (b := 1) (by decide) ?_
      refine ⟨_, rfl, ?_⟩
      refine ex_if_neN (tgt := 135) dX10_rule_130 (by decide) (by omega) (fun h130 => ?_) (fun h130 => by exact absurd h130 (by decide))
      refine ex_aload_n (i := 0) dX10_rule_135 rfl rfl ?_
      refine ex_getI dX10_rule_136 fl_Model_145 rfl rfl (by decide) ?_
      refine ex_asN (a := n) (e3b _ _) ?_
      refine ex_istore (L' := [some (.ref (56)), some (.int (nI (z 0))), some (.int (nI (z 1))), some (.int (nI (z 2))), some (.int (nI (z 3))), some (.int (nI (z 4))), some (.int (nI (1))), some (.int (nI (n)))]) dX10_rule_139 (by decide) rfl ?_
      refine ex_aload_n (i := 0) dX10_rule_141 rfl rfl ?_
      refine ex_getR (v := .ref (57)) dX10_rule_142 fl_Model_7 rfl rfl (by decide) rfl ?_
      refine ex_iload dX10_rule_145 rfl ?_
      refine ex_iload_n (i := 1) dX10_rule_147 rfl rfl ?_
      refine ex_iastN dX10_rule_148 rfl (by decide) (by omega) ?_
      refine ex_aload_n (i := 0) dX10_rule_149 rfl rfl ?_
      refine ex_getR (v := .ref (58)) dX10_rule_150 fl_Model_13 rfl rfl (by decide) rfl ?_
      refine ex_iconst (v := nI 4) dX10_rule_153 (by decide) ?_
      refine ex_iload dX10_rule_154 rfl ?_
      refine ex_imulN dX10_rule_156 ?_
      refine ex_iload_n (i := 2) dX10_rule_157 rfl rfl ?_
      refine ex_iastN dX10_rule_158 rfl (by decide) (by omega) ?_
      refine ex_aload_n (i := 0) dX10_rule_159 rfl rfl ?_
      refine ex_getR (v := .ref (58)) dX10_rule_160 fl_Model_13 rfl rfl (by decide) rfl ?_
      refine ex_iconst (v := nI 4) dX10_rule_163 (by decide) ?_
      refine ex_iload dX10_rule_164 rfl ?_
      refine ex_imulN dX10_rule_166 ?_
      refine ex_iconst (v := nI 1) dX10_rule_167 (by decide) ?_
      refine ex_iaddN dX10_rule_168 ?_
      refine ex_iload_n (i := 3) dX10_rule_169 rfl rfl ?_
      refine ex_iastN dX10_rule_170 rfl (by decide) (by omega) ?_
      refine ex_aload_n (i := 0) dX10_rule_171 rfl rfl ?_
      refine ex_getR (v := .ref (58)) dX10_rule_172 fl_Model_13 rfl rfl (by decide) rfl ?_
      refine ex_iconst (v := nI 4) dX10_rule_175 (by decide) ?_
      refine ex_iload dX10_rule_176 rfl ?_
      refine ex_imulN dX10_rule_178 ?_
      refine ex_iconst (v := nI 2) dX10_rule_179 (by decide) ?_
      refine ex_iaddN dX10_rule_180 ?_
      refine ex_iload dX10_rule_181 rfl ?_
      refine ex_iastN dX10_rule_183 rfl (by decide) (by omega) ?_
      refine ex_aload_n (i := 0) dX10_rule_184 rfl rfl ?_
      refine ex_getR (v := .ref (58)) dX10_rule_185 fl_Model_13 rfl rfl (by decide) rfl ?_
      refine ex_iconst (v := nI 4) dX10_rule_188 (by decide) ?_
      refine ex_iload dX10_rule_189 rfl ?_
      refine ex_imulN dX10_rule_191 ?_
      refine ex_iconst (v := nI 3) dX10_rule_192 (by decide) ?_
      refine ex_iaddN dX10_rule_193 ?_
      refine ex_iload dX10_rule_194 rfl ?_
      refine ex_iastN dX10_rule_196 rfl (by decide) (by omega) ?_
      refine ex_aload_n (i := 0) dX10_rule_197 rfl rfl ?_
      refine ex_getR (v := .ref (59)) dX10_rule_198 fl_Model_16 rfl rfl (by decide) rfl ?_
      refine ex_iload dX10_rule_201 rfl ?_
      refine ex_iload_n (i := 2) dX10_rule_203 rfl rfl ?_
      refine ex_if_neN (tgt := 211) dX10_rule_204 (by decide) (by omega) (fun h204 => by omega) (fun h204 => ?_)
      refine ex_iconst (v := nI 0) dX10_rule_207 (by decide) ?_
      refine ex_goto (tgt := 238) dX10_rule_208 (by decide) ?_
      refine ex_iastN dX10_rule_238 rfl (by decide) (by omega) ?_
      refine ex_aload_n (i := 0) dX10_rule_239 rfl rfl ?_
      refine ex_dup dX10_rule_240 rfl ?_
      refine ex_getI dX10_rule_241 fl_Model_145 rfl rfl (by decide) ?_
      refine ex_asI (y := (xU (xU i 56 45 (nI 0)) 56 45 (nI 0)) (56) (3)) (by first | rfl | simp [xU, upd]) ?_
      refine ex_asN (a := n) (e3b _ _) ?_
      refine ex_iconst (v := nI 1) dX10_rule_244 (by decide) ?_
      refine ex_iaddN dX10_rule_245 ?_
      refine ex_putI dX10_rule_246 fl_Model_145 cf_10 rfl (Or.inl rfl) rfl rfl rfl (by decide) ?_
      refine ex_aload_n (i := 0) dX10_rule_249 rfl rfl ?_
      refine ex_iconst (v := nI 0) dX10_rule_250 (by decide) ?_
      refine ex_putI dX10_rule_251 fl_Model_148 cf_10 rfl (Or.inl rfl) (by decide) (by decide) rfl (by decide) ?_
      refine ex_iload dX10_rule_254 rfl ?_
      refine ex_iret dX10_rule_256 rfl rfl ?_
      refine hQ (by omega) _ (((((((((Fm.rf.F (by decide)).F (by decide)).U (by decide) (by decide)).U (by decide) (by decide)).U (by decide) (by decide)).U (by decide) (by decide)).U (by decide) (by decide)).U (by decide) (by decide)).F (by decide) |>.F (by decide)) ?_ ?_ (RG_add rg (by omega) hz ?_ ?_ ?_ ?_)
      · simp [xU, upd]
      · simp [xU, upd]
      · simp [xU, upd]
      · simp [xU]
      · simp [xU]
      · rw [el]; simp [xU]
  · have el : lnS z = 1 := by unfold lnS; simp [c1, c2, c3, c4]
    by_cases h14 : 14 ≤ n
    ·
      refine ex_iload_n (i := 1) dX10_rule_0 rfl rfl ?_
      refine ex_cS (ν := m_Model_nonterminal) (as := [.int (nI (z 0))]) dX10_rule_1 ln_Model_135 mf_Model_nonterminal np_Model_nonterminal rfl rfl ⟨(Nat.le_of_ble_eq_true rfl), (Nat.le_of_ble_eq_true rfl), (Nat.le_of_ble_eq_true rfl), (Nat.le_of_ble_eq_true rfl)⟩ (by decide) ?_
      refine sp_Model_nonterminal ?_
      refine ⟨_, rfl, ?_⟩
      refine ex_asN (a := 1) (by rw [eN]) ?_
      refine ex_if_eqN (tgt := 59) dX10_rule_4 (by decide) (by omega) (fun h4 => by exact absurd h4 (by decide)) (fun h4 => ?_)
      refine ex_iload_n (i := 2) dX10_rule_7 rfl rfl ?_
      refine ex_if_eqN (tgt := 18) dX10_rule_8 (by decide) (by omega) (fun h8 => by omega) (fun h8 => ?_)
      refine ex_iload_n (i := 2) dX10_rule_11 rfl rfl ?_
      refine ex_cS (ν := m_Model_isSymbol) (as := [.int (nI (z 1))]) dX10_rule_12 ln_Model_138 mf_Model_isSymbol np_Model_isSymbol rfl rfl ⟨(Nat.le_of_ble_eq_true rfl), (Nat.le_of_ble_eq_true rfl), (Nat.le_of_ble_eq_true rfl), (Nat.le_of_ble_eq_true rfl)⟩ (by decide) ?_
      refine sp_Model_isSymbol ?_
      refine ⟨_, rfl, ?_⟩
      refine ex_asN (a := 1) (by rw [s1 c1]) ?_
      refine ex_if_eqN (tgt := 59) dX10_rule_15 (by decide) (by omega) (fun h15 => by exact absurd h15 (by decide)) (fun h15 => ?_)
      refine ex_iload_n (i := 3) dX10_rule_18 rfl rfl ?_
      refine ex_if_eqN (tgt := 29) dX10_rule_19 (by decide) (by omega) (fun h19 => ?_) (fun h19 => by omega)
      refine ex_iload dX10_rule_29 rfl ?_
      refine ex_if_eqN (tgt := 42) dX10_rule_31 (by decide) (by omega) (fun h31 => ?_) (fun h31 => by omega)
      refine ex_iload dX10_rule_42 rfl ?_
      refine ex_if_eqN (tgt := 55) dX10_rule_44 (by decide) (by omega) (fun h44 => ?_) (fun h44 => by omega)
      refine ex_iconst (v := nI 1) dX10_rule_55 (by decide) ?_
      refine ex_goto (tgt := 60) dX10_rule_56 (by decide) ?_
      refine ex_istore (L' := [some (.ref (56)), some (.int (nI (z 0))), some (.int (nI (z 1))), some (.int (nI (z 2))), some (.int (nI (z 3))), some (.int (nI (z 4))), some (.int (nI (1))), none]) dX10_rule_60 (by decide) rfl ?_
      refine ex_iload dX10_rule_62 rfl ?_
      refine ex_if_eqN (tgt := 98) dX10_rule_64 (by decide) (by omega) (fun h64 => by exact absurd h64 (by decide)) (fun h64 => ?_)
      refine ex_iload_n (i := 2) dX10_rule_67 rfl rfl ?_
      refine ex_if_neN (tgt := 75) dX10_rule_68 (by decide) (by omega) (fun h68 => ?_) (fun h68 => by omega)
      refine ex_iload_n (i := 3) dX10_rule_75 rfl rfl ?_
      refine ex_if_neN (tgt := 84) dX10_rule_76 (by decide) (by omega) (fun h76 => by omega) (fun h76 => ?_)
      refine ex_iload dX10_rule_79 rfl ?_
      refine ex_if_neN (tgt := 98) dX10_rule_81 (by decide) (by omega) (fun h81 => by omega) (fun h81 => ?_)
      refine ex_iload dX10_rule_84 rfl ?_
      refine ex_if_neN (tgt := 94) dX10_rule_86 (by decide) (by omega) (fun h86 => by omega) (fun h86 => ?_)
      refine ex_iload dX10_rule_89 rfl ?_
      refine ex_if_neN (tgt := 98) dX10_rule_91 (by decide) (by omega) (fun h91 => by omega) (fun h91 => ?_)
      refine ex_iconst (v := nI 1) dX10_rule_94 (by decide) ?_
      refine ex_goto (tgt := 99) dX10_rule_95 (by decide) ?_
      refine ex_istore (L' := [some (.ref (56)), some (.int (nI (z 0))), some (.int (nI (z 1))), some (.int (nI (z 2))), some (.int (nI (z 3))), some (.int (nI (z 4))), some (.int (nI (1))), none]) dX10_rule_99 (by decide) rfl ?_
      refine ex_aload_n (i := 0) dX10_rule_101 rfl rfl ?_
      refine ex_iload dX10_rule_102 rfl ?_
      refine ex_iconst (v := nI 1) dX10_rule_104 (by decide) ?_
      refine ex_cV (ν := m_Model_good) (a := 56) (ci := 10) (as := [.int (nI (1)), .int (nI (1))]) dX10_rule_105 ln_Model_141 mf_Model_good rfl (Nat.le_of_ble_eq_true rfl) rfl rfl np_Model_good rfl rfl ⟨(Nat.le_of_ble_eq_true rfl), (Nat.le_of_ble_eq_true rfl), (Nat.le_of_ble_eq_true rfl), (Nat.le_of_ble_eq_true rfl)⟩ (by decide) ?_
      refine sp_Model_good (b := 1) (by decide) ?_
      refine ⟨_, rfl, ?_⟩
      refine ex_if_eqN (tgt := 133) dX10_rule_108 (by decide) (by omega) (fun h108 => by exact absurd h108 (by decide)) (fun h108 => ?_)
      refine ex_aload_n (i := 0) dX10_rule_111 rfl rfl ?_
      refine ex_aload_n (i := 0) dX10_rule_112 rfl rfl ?_
      refine ex_getI dX10_rule_113 fl_Model_145 rfl rfl (by decide) ?_
      refine ex_asN (a := n) (e3 _) ?_
      refine ex_bipush (v := nI 14) dX10_rule_116 (by decide) ?_
      refine ex_icmp_geN (tgt := 125) dX10_rule_118 (by decide) (by omega) (by omega) (fun h118 => ?_) (fun h118 => by omega)
      refine ex_iconst (v := nI 0) dX10_rule_125 (by decide) ?_
      refine ex_iconst (v := nI 2) dX10_rule_126 (by decide) ?_
      refine ex_cV (ν := m_Model_good) (a := 56) (ci := 10) (as := [.int (nI (0)), .int (nI (2))]) dX10_rule_127 ln_Model_141 mf_Model_good rfl (Nat.le_of_ble_eq_true rfl) rfl rfl np_Model_good rfl rfl ⟨(Nat.le_of_ble_eq_true rfl), (Nat.le_of_ble_eq_true rfl), (Nat.le_of_ble_eq_true rfl), (Nat.le_of_ble_eq_true rfl)⟩ (by decide) ?_
      refine sp_Model_good (b := 0) (by decide) ?_
      refine ⟨_, rfl, ?_⟩
      refine ex_if_neN (tgt := 135) dX10_rule_130 (by decide) (by omega) (fun h130 => by exact absurd h130 (by decide)) (fun h130 => ?_)
      refine ex_iconst (v := nI 0) dX10_rule_133 (by decide) ?_
      refine ex_iret dX10_rule_134 rfl rfl ?_
      exact hX2 h14 _ ((Fm.rf.F (by decide)).F (by decide)) (cd_at2 _ _ _)
    ·
      refine ex_iload_n (i := 1) dX10_rule_0 rfl rfl ?_
      refine ex_cS (ν := m_Model_nonterminal) (as := [.int (nI (z 0))]) dX10_rule_1 ln_Model_135 mf_Model_nonterminal np_Model_nonterminal rfl rfl ⟨(Nat.le_of_ble_eq_true rfl), (Nat.le_of_ble_eq_true rfl), (Nat.le_of_ble_eq_true rfl), (Nat.le_of_ble_eq_true rfl)⟩ (by decide) ?_
      refine sp_Model_nonterminal ?_
      refine ⟨_, rfl, ?_⟩
      refine ex_asN (a := 1) (by rw [eN]) ?_
      refine ex_if_eqN (tgt := 59) dX10_rule_4 (by decide) (by omega) (fun h4 => by exact absurd h4 (by decide)) (fun h4 => ?_)
      refine ex_iload_n (i := 2) dX10_rule_7 rfl rfl ?_
      refine ex_if_eqN (tgt := 18) dX10_rule_8 (by decide) (by omega) (fun h8 => by omega) (fun h8 => ?_)
      refine ex_iload_n (i := 2) dX10_rule_11 rfl rfl ?_
      refine ex_cS (ν := m_Model_isSymbol) (as := [.int (nI (z 1))]) dX10_rule_12 ln_Model_138 mf_Model_isSymbol np_Model_isSymbol rfl rfl ⟨(Nat.le_of_ble_eq_true rfl), (Nat.le_of_ble_eq_true rfl), (Nat.le_of_ble_eq_true rfl), (Nat.le_of_ble_eq_true rfl)⟩ (by decide) ?_
      refine sp_Model_isSymbol ?_
      refine ⟨_, rfl, ?_⟩
      refine ex_asN (a := 1) (by rw [s1 c1]) ?_
      refine ex_if_eqN (tgt := 59) dX10_rule_15 (by decide) (by omega) (fun h15 => by exact absurd h15 (by decide)) (fun h15 => ?_)
      refine ex_iload_n (i := 3) dX10_rule_18 rfl rfl ?_
      refine ex_if_eqN (tgt := 29) dX10_rule_19 (by decide) (by omega) (fun h19 => ?_) (fun h19 => by omega)
      refine ex_iload dX10_rule_29 rfl ?_
      refine ex_if_eqN (tgt := 42) dX10_rule_31 (by decide) (by omega) (fun h31 => ?_) (fun h31 => by omega)
      refine ex_iload dX10_rule_42 rfl ?_
      refine ex_if_eqN (tgt := 55) dX10_rule_44 (by decide) (by omega) (fun h44 => ?_) (fun h44 => by omega)
      refine ex_iconst (v := nI 1) dX10_rule_55 (by decide) ?_
      refine ex_goto (tgt := 60) dX10_rule_56 (by decide) ?_
      refine ex_istore (L' := [some (.ref (56)), some (.int (nI (z 0))), some (.int (nI (z 1))), some (.int (nI (z 2))), some (.int (nI (z 3))), some (.int (nI (z 4))), some (.int (nI (1))), none]) dX10_rule_60 (by decide) rfl ?_
      refine ex_iload dX10_rule_62 rfl ?_
      refine ex_if_eqN (tgt := 98) dX10_rule_64 (by decide) (by omega) (fun h64 => by exact absurd h64 (by decide)) (fun h64 => ?_)
      refine ex_iload_n (i := 2) dX10_rule_67 rfl rfl ?_
      refine ex_if_neN (tgt := 75) dX10_rule_68 (by decide) (by omega) (fun h68 => ?_) (fun h68 => by omega)
      refine ex_iload_n (i := 3) dX10_rule_75 rfl rfl ?_
      refine ex_if_neN (tgt := 84) dX10_rule_76 (by decide) (by omega) (fun h76 => by omega) (fun h76 => ?_)
      refine ex_iload dX10_rule_79 rfl ?_
      refine ex_if_neN (tgt := 98) dX10_rule_81 (by decide) (by omega) (fun h81 => by omega) (fun h81 => ?_)
      refine ex_iload dX10_rule_84 rfl ?_
      refine ex_if_neN (tgt := 94) dX10_rule_86 (by decide) (by omega) (fun h86 => by omega) (fun h86 => ?_)
      refine ex_iload dX10_rule_89 rfl ?_
      refine ex_if_neN (tgt := 98) dX10_rule_91 (by decide) (by omega) (fun h91 => by omega) (fun h91 => ?_)
      refine ex_iconst (v := nI 1) dX10_rule_94 (by decide) ?_
      refine ex_goto (tgt := 99) dX10_rule_95 (by decide) ?_
      refine ex_istore (L' := [some (.ref (56)), some (.int (nI (z 0))), some (.int (nI (z 1))), some (.int (nI (z 2))), some (.int (nI (z 3))), some (.int (nI (z 4))), some (.int (nI (1))), none]) dX10_rule_99 (by decide) rfl ?_
      refine ex_aload_n (i := 0) dX10_rule_101 rfl rfl ?_
      refine ex_iload dX10_rule_102 rfl ?_
      refine ex_iconst (v := nI 1) dX10_rule_104 (by decide) ?_
      refine ex_cV (ν := m_Model_good) (a := 56) (ci := 10) (as := [.int (nI (1)), .int (nI (1))]) dX10_rule_105 ln_Model_141 mf_Model_good rfl (Nat.le_of_ble_eq_true rfl) rfl rfl np_Model_good rfl rfl ⟨(Nat.le_of_ble_eq_true rfl), (Nat.le_of_ble_eq_true rfl), (Nat.le_of_ble_eq_true rfl), (Nat.le_of_ble_eq_true rfl)⟩ (by decide) ?_
      refine sp_Model_good (b := 1) (by decide) ?_
      refine ⟨_, rfl, ?_⟩
      refine ex_if_eqN (tgt := 133) dX10_rule_108 (by decide) (by omega) (fun h108 => by exact absurd h108 (by decide)) (fun h108 => ?_)
      refine ex_aload_n (i := 0) dX10_rule_111 rfl rfl ?_
      refine ex_aload_n (i := 0) dX10_rule_112 rfl rfl ?_
      refine ex_getI dX10_rule_113 fl_Model_145 rfl rfl (by decide) ?_
      refine ex_asN (a := n) (e3 _) ?_
      refine ex_bipush (v := nI 14) dX10_rule_116 (by decide) ?_
      refine ex_icmp_geN (tgt := 125) dX10_rule_118 (by decide) (by omega) (by omega) (fun h118 => by omega) (fun h118 => ?_)
      refine ex_iconst (v := nI 1) dX10_rule_121 (by decide) ?_
      refine ex_goto (tgt := 126) dX10_rule_122 (by decide) ?_
      refine ex_iconst (v := nI 2) dX10_rule_126 (by decide) ?_
      refine ex_cV (ν := m_Model_good) (a := 56) (ci := 10) (as := [.int (nI (1)), .int (nI (2))]) dX10_rule_127 ln_Model_141 mf_Model_good rfl (Nat.le_of_ble_eq_true rfl) rfl rfl np_Model_good rfl rfl ⟨(Nat.le_of_ble_eq_true rfl), (Nat.le_of_ble_eq_true rfl), (Nat.le_of_ble_eq_true rfl), (Nat.le_of_ble_eq_true rfl)⟩ (by decide) ?_
      refine sp_Model_good (b := 1) (by decide) ?_
      refine ⟨_, rfl, ?_⟩
      refine ex_if_neN (tgt := 135) dX10_rule_130 (by decide) (by omega) (fun h130 => ?_) (fun h130 => by exact absurd h130 (by decide))
      refine ex_aload_n (i := 0) dX10_rule_135 rfl rfl ?_
      refine ex_getI dX10_rule_136 fl_Model_145 rfl rfl (by decide) ?_
      refine ex_asN (a := n) (e3b _ _) ?_
      refine ex_istore (L' := [some (.ref (56)), some (.int (nI (z 0))), some (.int (nI (z 1))), some (.int (nI (z 2))), some (.int (nI (z 3))), some (.int (nI (z 4))), some (.int (nI (1))), some (.int (nI (n)))]) dX10_rule_139 (by decide) rfl ?_
      refine ex_aload_n (i := 0) dX10_rule_141 rfl rfl ?_
      refine ex_getR (v := .ref (57)) dX10_rule_142 fl_Model_7 rfl rfl (by decide) rfl ?_
      refine ex_iload dX10_rule_145 rfl ?_
      refine ex_iload_n (i := 1) dX10_rule_147 rfl rfl ?_
      refine ex_iastN dX10_rule_148 rfl (by decide) (by omega) ?_
      refine ex_aload_n (i := 0) dX10_rule_149 rfl rfl ?_
      refine ex_getR (v := .ref (58)) dX10_rule_150 fl_Model_13 rfl rfl (by decide) rfl ?_
      refine ex_iconst (v := nI 4) dX10_rule_153 (by decide) ?_
      refine ex_iload dX10_rule_154 rfl ?_
      refine ex_imulN dX10_rule_156 ?_
      refine ex_iload_n (i := 2) dX10_rule_157 rfl rfl ?_
      refine ex_iastN dX10_rule_158 rfl (by decide) (by omega) ?_
      refine ex_aload_n (i := 0) dX10_rule_159 rfl rfl ?_
      refine ex_getR (v := .ref (58)) dX10_rule_160 fl_Model_13 rfl rfl (by decide) rfl ?_
      refine ex_iconst (v := nI 4) dX10_rule_163 (by decide) ?_
      refine ex_iload dX10_rule_164 rfl ?_
      refine ex_imulN dX10_rule_166 ?_
      refine ex_iconst (v := nI 1) dX10_rule_167 (by decide) ?_
      refine ex_iaddN dX10_rule_168 ?_
      refine ex_iload_n (i := 3) dX10_rule_169 rfl rfl ?_
      refine ex_iastN dX10_rule_170 rfl (by decide) (by omega) ?_
      refine ex_aload_n (i := 0) dX10_rule_171 rfl rfl ?_
      refine ex_getR (v := .ref (58)) dX10_rule_172 fl_Model_13 rfl rfl (by decide) rfl ?_
      refine ex_iconst (v := nI 4) dX10_rule_175 (by decide) ?_
      refine ex_iload dX10_rule_176 rfl ?_
      refine ex_imulN dX10_rule_178 ?_
      refine ex_iconst (v := nI 2) dX10_rule_179 (by decide) ?_
      refine ex_iaddN dX10_rule_180 ?_
      refine ex_iload dX10_rule_181 rfl ?_
      refine ex_iastN dX10_rule_183 rfl (by decide) (by omega) ?_
      refine ex_aload_n (i := 0) dX10_rule_184 rfl rfl ?_
      refine ex_getR (v := .ref (58)) dX10_rule_185 fl_Model_13 rfl rfl (by decide) rfl ?_
      refine ex_iconst (v := nI 4) dX10_rule_188 (by decide) ?_
      refine ex_iload dX10_rule_189 rfl ?_
      refine ex_imulN dX10_rule_191 ?_
      refine ex_iconst (v := nI 3) dX10_rule_192 (by decide) ?_
      refine ex_iaddN dX10_rule_193 ?_
      refine ex_iload dX10_rule_194 rfl ?_
      refine ex_iastN dX10_rule_196 rfl (by decide) (by omega) ?_
      refine ex_aload_n (i := 0) dX10_rule_197 rfl rfl ?_
      refine ex_getR (v := .ref (59)) dX10_rule_198 fl_Model_16 rfl rfl (by decide) rfl ?_
      refine ex_iload dX10_rule_201 rfl ?_
      refine ex_iload_n (i := 2) dX10_rule_203 rfl rfl ?_
      refine ex_if_neN (tgt := 211) dX10_rule_204 (by decide) (by omega) (fun h204 => ?_) (fun h204 => by omega)
      refine ex_iload_n (i := 3) dX10_rule_211 rfl rfl ?_
      refine ex_if_neN (tgt := 219) dX10_rule_212 (by decide) (by omega) (fun h212 => by omega) (fun h212 => ?_)
      refine ex_iconst (v := nI 1) dX10_rule_215 (by decide) ?_
      refine ex_goto (tgt := 238) dX10_rule_216 (by decide) ?_
      refine ex_iastN dX10_rule_238 rfl (by decide) (by omega) ?_
      refine ex_aload_n (i := 0) dX10_rule_239 rfl rfl ?_
      refine ex_dup dX10_rule_240 rfl ?_
      refine ex_getI dX10_rule_241 fl_Model_145 rfl rfl (by decide) ?_
      refine ex_asI (y := (xU (xU i 56 45 (nI 0)) 56 45 (nI 0)) (56) (3)) (by first | rfl | simp [xU, upd]) ?_
      refine ex_asN (a := n) (e3b _ _) ?_
      refine ex_iconst (v := nI 1) dX10_rule_244 (by decide) ?_
      refine ex_iaddN dX10_rule_245 ?_
      refine ex_putI dX10_rule_246 fl_Model_145 cf_10 rfl (Or.inl rfl) rfl rfl rfl (by decide) ?_
      refine ex_aload_n (i := 0) dX10_rule_249 rfl rfl ?_
      refine ex_iconst (v := nI 0) dX10_rule_250 (by decide) ?_
      refine ex_putI dX10_rule_251 fl_Model_148 cf_10 rfl (Or.inl rfl) (by decide) (by decide) rfl (by decide) ?_
      refine ex_iload dX10_rule_254 rfl ?_
      refine ex_iret dX10_rule_256 rfl rfl ?_
      refine hQ (by omega) _ (((((((((Fm.rf.F (by decide)).F (by decide)).U (by decide) (by decide)).U (by decide) (by decide)).U (by decide) (by decide)).U (by decide) (by decide)).U (by decide) (by decide)).U (by decide) (by decide)).F (by decide) |>.F (by decide)) ?_ ?_ (RG_add rg (by omega) hz ?_ ?_ ?_ ?_)
      · simp [xU, upd]
      · simp [xU, upd]
      · simp [xU, upd]
      · simp [xU]
      · simp [xU]
      · rw [el]; simp [xU]
  · have el : lnS z = 2 := by unfold lnS; simp [c1, c2, c3, c4]
    by_cases h14 : 14 ≤ n
    ·
      refine ex_iload_n (i := 1) dX10_rule_0 rfl rfl ?_
      refine ex_cS (ν := m_Model_nonterminal) (as := [.int (nI (z 0))]) dX10_rule_1 ln_Model_135 mf_Model_nonterminal np_Model_nonterminal rfl rfl ⟨(Nat.le_of_ble_eq_true rfl), (Nat.le_of_ble_eq_true rfl), (Nat.le_of_ble_eq_true rfl), (Nat.le_of_ble_eq_true rfl)⟩ (by decide) ?_
      refine sp_Model_nonterminal ?_
      refine ⟨_, rfl, ?_⟩
      refine ex_asN (a := 1) (by rw [eN]) ?_
      refine ex_if_eqN (tgt := 59) dX10_rule_4 (by decide) (by omega) (fun h4 => by exact absurd h4 (by decide)) (fun h4 => ?_)
      refine ex_iload_n (i := 2) dX10_rule_7 rfl rfl ?_
      refine ex_if_eqN (tgt := 18) dX10_rule_8 (by decide) (by omega) (fun h8 => by omega) (fun h8 => ?_)
      refine ex_iload_n (i := 2) dX10_rule_11 rfl rfl ?_
      refine ex_cS (ν := m_Model_isSymbol) (as := [.int (nI (z 1))]) dX10_rule_12 ln_Model_138 mf_Model_isSymbol np_Model_isSymbol rfl rfl ⟨(Nat.le_of_ble_eq_true rfl), (Nat.le_of_ble_eq_true rfl), (Nat.le_of_ble_eq_true rfl), (Nat.le_of_ble_eq_true rfl)⟩ (by decide) ?_
      refine sp_Model_isSymbol ?_
      refine ⟨_, rfl, ?_⟩
      refine ex_asN (a := 1) (by rw [s1 c1]) ?_
      refine ex_if_eqN (tgt := 59) dX10_rule_15 (by decide) (by omega) (fun h15 => by exact absurd h15 (by decide)) (fun h15 => ?_)
      refine ex_iload_n (i := 3) dX10_rule_18 rfl rfl ?_
      refine ex_if_eqN (tgt := 29) dX10_rule_19 (by decide) (by omega) (fun h19 => by omega) (fun h19 => ?_)
      refine ex_iload_n (i := 3) dX10_rule_22 rfl rfl ?_
      refine ex_cS (ν := m_Model_isSymbol) (as := [.int (nI (z 2))]) dX10_rule_23 ln_Model_138 mf_Model_isSymbol np_Model_isSymbol rfl rfl ⟨(Nat.le_of_ble_eq_true rfl), (Nat.le_of_ble_eq_true rfl), (Nat.le_of_ble_eq_true rfl), (Nat.le_of_ble_eq_true rfl)⟩ (by decide) ?_
      refine sp_Model_isSymbol ?_
      refine ⟨_, rfl, ?_⟩
      refine ex_asN (a := 1) (by rw [s2 c2]) ?_
      refine ex_if_eqN (tgt := 59) dX10_rule_26 (by decide) (by omega) (fun h26 => by exact absurd h26 (by decide)) (fun h26 => ?_)
      refine ex_iload dX10_rule_29 rfl ?_
      refine ex_if_eqN (tgt := 42) dX10_rule_31 (by decide) (by omega) (fun h31 => ?_) (fun h31 => by omega)
      refine ex_iload dX10_rule_42 rfl ?_
      refine ex_if_eqN (tgt := 55) dX10_rule_44 (by decide) (by omega) (fun h44 => ?_) (fun h44 => by omega)
      refine ex_iconst (v := nI 1) dX10_rule_55 (by decide) ?_
      refine ex_goto (tgt := 60) dX10_rule_56 (by decide) ?_
      refine ex_istore (L' := [some (.ref (56)), some (.int (nI (z 0))), some (.int (nI (z 1))), some (.int (nI (z 2))), some (.int (nI (z 3))), some (.int (nI (z 4))), some (.int (nI (1))), none]) dX10_rule_60 (by decide) rfl ?_
      refine ex_iload dX10_rule_62 rfl ?_
      refine ex_if_eqN (tgt := 98) dX10_rule_64 (by decide) (by omega) (fun h64 => by exact absurd h64 (by decide)) (fun h64 => ?_)
      refine ex_iload_n (i := 2) dX10_rule_67 rfl rfl ?_
      refine ex_if_neN (tgt := 75) dX10_rule_68 (by decide) (by omega) (fun h68 => ?_) (fun h68 => by omega)
      refine ex_iload_n (i := 3) dX10_rule_75 rfl rfl ?_
      refine ex_if_neN (tgt := 84) dX10_rule_76 (by decide) (by omega) (fun h76 => ?_) (fun h76 => by omega)
      refine ex_iload dX10_rule_84 rfl ?_
      refine ex_if_neN (tgt := 94) dX10_rule_86 (by decide) (by omega) (fun h86 => by omega) (fun h86 => ?_)
      refine ex_iload dX10_rule_89 rfl ?_
      refine ex_if_neN (tgt := 98) dX10_rule_91 (by decide) (by omega) (fun h91 => by omega) (fun h91 => ?_)
      refine ex_iconst (v := nI 1) dX10_rule_94 (by decide) ?_
      refine ex_goto (tgt := 99) dX10_rule_95 (by decide) ?_
      refine ex_istore (L' := [some (.ref (56)), some (.int (nI (z 0))), some (.int (nI (z 1))), some (.int (nI (z 2))), some (.int (nI (z 3))), some (.int (nI (z 4))), some (.int (nI (1))), none]) dX10_rule_99 (by decide) rfl ?_
      refine ex_aload_n (i := 0) dX10_rule_101 rfl rfl ?_
      refine ex_iload dX10_rule_102 rfl ?_
      refine ex_iconst (v := nI 1) dX10_rule_104 (by decide) ?_
      refine ex_cV (ν := m_Model_good) (a := 56) (ci := 10) (as := [.int (nI (1)), .int (nI (1))]) dX10_rule_105 ln_Model_141 mf_Model_good rfl (Nat.le_of_ble_eq_true rfl) rfl rfl np_Model_good rfl rfl ⟨(Nat.le_of_ble_eq_true rfl), (Nat.le_of_ble_eq_true rfl), (Nat.le_of_ble_eq_true rfl), (Nat.le_of_ble_eq_true rfl)⟩ (by decide) ?_
      refine sp_Model_good (b := 1) (by decide) ?_
      refine ⟨_, rfl, ?_⟩
      refine ex_if_eqN (tgt := 133) dX10_rule_108 (by decide) (by omega) (fun h108 => by exact absurd h108 (by decide)) (fun h108 => ?_)
      refine ex_aload_n (i := 0) dX10_rule_111 rfl rfl ?_
      refine ex_aload_n (i := 0) dX10_rule_112 rfl rfl ?_
      refine ex_getI dX10_rule_113 fl_Model_145 rfl rfl (by decide) ?_
      refine ex_asN (a := n) (e3 _) ?_
      refine ex_bipush (v := nI 14) dX10_rule_116 (by decide) ?_
      refine ex_icmp_geN (tgt := 125) dX10_rule_118 (by decide) (by omega) (by omega) (fun h118 => ?_) (fun h118 => by omega)
      refine ex_iconst (v := nI 0) dX10_rule_125 (by decide) ?_
      refine ex_iconst (v := nI 2) dX10_rule_126 (by decide) ?_
      refine ex_cV (ν := m_Model_good) (a := 56) (ci := 10) (as := [.int (nI (0)), .int (nI (2))]) dX10_rule_127 ln_Model_141 mf_Model_good rfl (Nat.le_of_ble_eq_true rfl) rfl rfl np_Model_good rfl rfl ⟨(Nat.le_of_ble_eq_true rfl), (Nat.le_of_ble_eq_true rfl), (Nat.le_of_ble_eq_true rfl), (Nat.le_of_ble_eq_true rfl)⟩ (by decide) ?_
      refine sp_Model_good (b := 0) (by decide) ?_
      refine ⟨_, rfl, ?_⟩
      refine ex_if_neN (tgt := 135) dX10_rule_130 (by decide) (by omega) (fun h130 => by exact absurd h130 (by decide)) (fun h130 => ?_)
      refine ex_iconst (v := nI 0) dX10_rule_133 (by decide) ?_
      refine ex_iret dX10_rule_134 rfl rfl ?_
      exact hX2 h14 _ ((Fm.rf.F (by decide)).F (by decide)) (cd_at2 _ _ _)
    ·
      refine ex_iload_n (i := 1) dX10_rule_0 rfl rfl ?_
      refine ex_cS (ν := m_Model_nonterminal) (as := [.int (nI (z 0))]) dX10_rule_1 ln_Model_135 mf_Model_nonterminal np_Model_nonterminal rfl rfl ⟨(Nat.le_of_ble_eq_true rfl), (Nat.le_of_ble_eq_true rfl), (Nat.le_of_ble_eq_true rfl), (Nat.le_of_ble_eq_true rfl)⟩ (by decide) ?_
      refine sp_Model_nonterminal ?_
      refine ⟨_, rfl, ?_⟩
      refine ex_asN (a := 1) (by rw [eN]) ?_
      refine ex_if_eqN (tgt := 59) dX10_rule_4 (by decide) (by omega) (fun h4 => by exact absurd h4 (by decide)) (fun h4 => ?_)
      refine ex_iload_n (i := 2) dX10_rule_7 rfl rfl ?_
      refine ex_if_eqN (tgt := 18) dX10_rule_8 (by decide) (by omega) (fun h8 => by omega) (fun h8 => ?_)
      refine ex_iload_n (i := 2) dX10_rule_11 rfl rfl ?_
      refine ex_cS (ν := m_Model_isSymbol) (as := [.int (nI (z 1))]) dX10_rule_12 ln_Model_138 mf_Model_isSymbol np_Model_isSymbol rfl rfl ⟨(Nat.le_of_ble_eq_true rfl), (Nat.le_of_ble_eq_true rfl), (Nat.le_of_ble_eq_true rfl), (Nat.le_of_ble_eq_true rfl)⟩ (by decide) ?_
      refine sp_Model_isSymbol ?_
      refine ⟨_, rfl, ?_⟩
      refine ex_asN (a := 1) (by rw [s1 c1]) ?_
      refine ex_if_eqN (tgt := 59) dX10_rule_15 (by decide) (by omega) (fun h15 => by exact absurd h15 (by decide)) (fun h15 => ?_)
      refine ex_iload_n (i := 3) dX10_rule_18 rfl rfl ?_
      refine ex_if_eqN (tgt := 29) dX10_rule_19 (by decide) (by omega) (fun h19 => by omega) (fun h19 => ?_)
      refine ex_iload_n (i := 3) dX10_rule_22 rfl rfl ?_
      refine ex_cS (ν := m_Model_isSymbol) (as := [.int (nI (z 2))]) dX10_rule_23 ln_Model_138 mf_Model_isSymbol np_Model_isSymbol rfl rfl ⟨(Nat.le_of_ble_eq_true rfl), (Nat.le_of_ble_eq_true rfl), (Nat.le_of_ble_eq_true rfl), (Nat.le_of_ble_eq_true rfl)⟩ (by decide) ?_
      refine sp_Model_isSymbol ?_
      refine ⟨_, rfl, ?_⟩
      refine ex_asN (a := 1) (by rw [s2 c2]) ?_
      refine ex_if_eqN (tgt := 59) dX10_rule_26 (by decide) (by omega) (fun h26 => by exact absurd h26 (by decide)) (fun h26 => ?_)
      refine ex_iload dX10_rule_29 rfl ?_
      refine ex_if_eqN (tgt := 42) dX10_rule_31 (by decide) (by omega) (fun h31 => ?_) (fun h31 => by omega)
      refine ex_iload dX10_rule_42 rfl ?_
      refine ex_if_eqN (tgt := 55) dX10_rule_44 (by decide) (by omega) (fun h44 => ?_) (fun h44 => by omega)
      refine ex_iconst (v := nI 1) dX10_rule_55 (by decide) ?_
      refine ex_goto (tgt := 60) dX10_rule_56 (by decide) ?_
      refine ex_istore (L' := [some (.ref (56)), some (.int (nI (z 0))), some (.int (nI (z 1))), some (.int (nI (z 2))), some (.int (nI (z 3))), some (.int (nI (z 4))), some (.int (nI (1))), none]) dX10_rule_60 (by decide) rfl ?_
      refine ex_iload dX10_rule_62 rfl ?_
      refine ex_if_eqN (tgt := 98) dX10_rule_64 (by decide) (by omega) (fun h64 => by exact absurd h64 (by decide)) (fun h64 => ?_)
      refine ex_iload_n (i := 2) dX10_rule_67 rfl rfl ?_
      refine ex_if_neN (tgt := 75) dX10_rule_68 (by decide) (by omega) (fun h68 => ?_) (fun h68 => by omega)
      refine ex_iload_n (i := 3) dX10_rule_75 rfl rfl ?_
      refine ex_if_neN (tgt := 84) dX10_rule_76 (by decide) (by omega) (fun h76 => ?_) (fun h76 => by omega)
      refine ex_iload dX10_rule_84 rfl ?_
      refine ex_if_neN (tgt := 94) dX10_rule_86 (by decide) (by omega) (fun h86 => by omega) (fun h86 => ?_)
      refine ex_iload dX10_rule_89 rfl ?_
      refine ex_if_neN (tgt := 98) dX10_rule_91 (by decide) (by omega) (fun h91 => by omega) (fun h91 => ?_)
      refine ex_iconst (v := nI 1) dX10_rule_94 (by decide) ?_
      refine ex_goto (tgt := 99) dX10_rule_95 (by decide) ?_
      refine ex_istore (L' := [some (.ref (56)), some (.int (nI (z 0))), some (.int (nI (z 1))), some (.int (nI (z 2))), some (.int (nI (z 3))), some (.int (nI (z 4))), some (.int (nI (1))), none]) dX10_rule_99 (by decide) rfl ?_
      refine ex_aload_n (i := 0) dX10_rule_101 rfl rfl ?_
      refine ex_iload dX10_rule_102 rfl ?_
      refine ex_iconst (v := nI 1) dX10_rule_104 (by decide) ?_
      refine ex_cV (ν := m_Model_good) (a := 56) (ci := 10) (as := [.int (nI (1)), .int (nI (1))]) dX10_rule_105 ln_Model_141 mf_Model_good rfl (Nat.le_of_ble_eq_true rfl) rfl rfl np_Model_good rfl rfl ⟨(Nat.le_of_ble_eq_true rfl), (Nat.le_of_ble_eq_true rfl), (Nat.le_of_ble_eq_true rfl), (Nat.le_of_ble_eq_true rfl)⟩ (by decide) ?_
      refine sp_Model_good (b := 1) (by decide) ?_
      refine ⟨_, rfl, ?_⟩
      refine ex_if_eqN (tgt := 133) dX10_rule_108 (by decide) (by omega) (fun h108 => by exact absurd h108 (by decide)) (fun h108 => ?_)
      refine ex_aload_n (i := 0) dX10_rule_111 rfl rfl ?_
      refine ex_aload_n (i := 0) dX10_rule_112 rfl rfl ?_
      refine ex_getI dX10_rule_113 fl_Model_145 rfl rfl (by decide) ?_
      refine ex_asN (a := n) (e3 _) ?_
      refine ex_bipush (v := nI 14) dX10_rule_116 (by decide) ?_
      refine ex_icmp_geN (tgt := 125) dX10_rule_118 (by decide) (by omega) (by omega) (fun h118 => by omega) (fun h118 => ?_)
      refine ex_iconst (v := nI 1) dX10_rule_121 (by decide) ?_
      refine ex_goto (tgt := 126) dX10_rule_122 (by decide) ?_
      refine ex_iconst (v := nI 2) dX10_rule_126 (by decide) ?_
      refine ex_cV (ν := m_Model_good) (a := 56) (ci := 10) (as := [.int (nI (1)), .int (nI (2))]) dX10_rule_127 ln_Model_141 mf_Model_good rfl (Nat.le_of_ble_eq_true rfl) rfl rfl np_Model_good rfl rfl ⟨(Nat.le_of_ble_eq_true rfl), (Nat.le_of_ble_eq_true rfl), (Nat.le_of_ble_eq_true rfl), (Nat.le_of_ble_eq_true rfl)⟩ (by decide) ?_
      refine sp_Model_good (b := 1) (by decide) ?_
      refine ⟨_, rfl, ?_⟩
      refine ex_if_neN (tgt := 135) dX10_rule_130 (by decide) (by omega) (fun h130 => ?_) (fun h130 => by exact absurd h130 (by decide))
      refine ex_aload_n (i := 0) dX10_rule_135 rfl rfl ?_
      refine ex_getI dX10_rule_136 fl_Model_145 rfl rfl (by decide) ?_
      refine ex_asN (a := n) (e3b _ _) ?_
      refine ex_istore (L' := [some (.ref (56)), some (.int (nI (z 0))), some (.int (nI (z 1))), some (.int (nI (z 2))), some (.int (nI (z 3))), some (.int (nI (z 4))), some (.int (nI (1))), some (.int (nI (n)))]) dX10_rule_139 (by decide) rfl ?_
      refine ex_aload_n (i := 0) dX10_rule_141 rfl rfl ?_
      refine ex_getR (v := .ref (57)) dX10_rule_142 fl_Model_7 rfl rfl (by decide) rfl ?_
      refine ex_iload dX10_rule_145 rfl ?_
      refine ex_iload_n (i := 1) dX10_rule_147 rfl rfl ?_
      refine ex_iastN dX10_rule_148 rfl (by decide) (by omega) ?_
      refine ex_aload_n (i := 0) dX10_rule_149 rfl rfl ?_
      refine ex_getR (v := .ref (58)) dX10_rule_150 fl_Model_13 rfl rfl (by decide) rfl ?_
      refine ex_iconst (v := nI 4) dX10_rule_153 (by decide) ?_
      refine ex_iload dX10_rule_154 rfl ?_
      refine ex_imulN dX10_rule_156 ?_
      refine ex_iload_n (i := 2) dX10_rule_157 rfl rfl ?_
      refine ex_iastN dX10_rule_158 rfl (by decide) (by omega) ?_
      refine ex_aload_n (i := 0) dX10_rule_159 rfl rfl ?_
      refine ex_getR (v := .ref (58)) dX10_rule_160 fl_Model_13 rfl rfl (by decide) rfl ?_
      refine ex_iconst (v := nI 4) dX10_rule_163 (by decide) ?_
      refine ex_iload dX10_rule_164 rfl ?_
      refine ex_imulN dX10_rule_166 ?_
      refine ex_iconst (v := nI 1) dX10_rule_167 (by decide) ?_
      refine ex_iaddN dX10_rule_168 ?_
      refine ex_iload_n (i := 3) dX10_rule_169 rfl rfl ?_
      refine ex_iastN dX10_rule_170 rfl (by decide) (by omega) ?_
      refine ex_aload_n (i := 0) dX10_rule_171 rfl rfl ?_
      refine ex_getR (v := .ref (58)) dX10_rule_172 fl_Model_13 rfl rfl (by decide) rfl ?_
      refine ex_iconst (v := nI 4) dX10_rule_175 (by decide) ?_
      refine ex_iload dX10_rule_176 rfl ?_
      refine ex_imulN dX10_rule_178 ?_
      refine ex_iconst (v := nI 2) dX10_rule_179 (by decide) ?_
      refine ex_iaddN dX10_rule_180 ?_
      refine ex_iload dX10_rule_181 rfl ?_
      refine ex_iastN dX10_rule_183 rfl (by decide) (by omega) ?_
      refine ex_aload_n (i := 0) dX10_rule_184 rfl rfl ?_
      refine ex_getR (v := .ref (58)) dX10_rule_185 fl_Model_13 rfl rfl (by decide) rfl ?_
      refine ex_iconst (v := nI 4) dX10_rule_188 (by decide) ?_
      refine ex_iload dX10_rule_189 rfl ?_
      refine ex_imulN dX10_rule_191 ?_
      refine ex_iconst (v := nI 3) dX10_rule_192 (by decide) ?_
      refine ex_iaddN dX10_rule_193 ?_
      refine ex_iload dX10_rule_194 rfl ?_
      refine ex_iastN dX10_rule_196 rfl (by decide) (by omega) ?_
      refine ex_aload_n (i := 0) dX10_rule_197 rfl rfl ?_
      refine ex_getR (v := .ref (59)) dX10_rule_198 fl_Model_16 rfl rfl (by decide) rfl ?_
      refine ex_iload dX10_rule_201 rfl ?_
      refine ex_iload_n (i := 2) dX10_rule_203 rfl rfl ?_
      refine ex_if_neN (tgt := 211) dX10_rule_204 (by decide) (by omega) (fun h204 => ?_) (fun h204 => by omega)
      refine ex_iload_n (i := 3) dX10_rule_211 rfl rfl ?_
      refine ex_if_neN (tgt := 219) dX10_rule_212 (by decide) (by omega) (fun h212 => ?_) (fun h212 => by omega)
      refine ex_iload dX10_rule_219 rfl ?_
      refine ex_if_neN (tgt := 228) dX10_rule_221 (by decide) (by omega) (fun h221 => by omega) (fun h221 => ?_)
      refine ex_iconst (v := nI 2) dX10_rule_224 (by decide) ?_
      refine ex_goto (tgt := 238) dX10_rule_225 (by decide) ?_
      refine ex_iastN dX10_rule_238 rfl (by decide) (by omega) ?_
      refine ex_aload_n (i := 0) dX10_rule_239 rfl rfl ?_
      refine ex_dup dX10_rule_240 rfl ?_
      refine ex_getI dX10_rule_241 fl_Model_145 rfl rfl (by decide) ?_
      refine ex_asI (y := (xU (xU i 56 45 (nI 0)) 56 45 (nI 0)) (56) (3)) (by first | rfl | simp [xU, upd]) ?_
      refine ex_asN (a := n) (e3b _ _) ?_
      refine ex_iconst (v := nI 1) dX10_rule_244 (by decide) ?_
      refine ex_iaddN dX10_rule_245 ?_
      refine ex_putI dX10_rule_246 fl_Model_145 cf_10 rfl (Or.inl rfl) rfl rfl rfl (by decide) ?_
      refine ex_aload_n (i := 0) dX10_rule_249 rfl rfl ?_
      refine ex_iconst (v := nI 0) dX10_rule_250 (by decide) ?_
      refine ex_putI dX10_rule_251 fl_Model_148 cf_10 rfl (Or.inl rfl) (by decide) (by decide) rfl (by decide) ?_
      refine ex_iload dX10_rule_254 rfl ?_
      refine ex_iret dX10_rule_256 rfl rfl ?_
      refine hQ (by omega) _ (((((((((Fm.rf.F (by decide)).F (by decide)).U (by decide) (by decide)).U (by decide) (by decide)).U (by decide) (by decide)).U (by decide) (by decide)).U (by decide) (by decide)).U (by decide) (by decide)).F (by decide) |>.F (by decide)) ?_ ?_ (RG_add rg (by omega) hz ?_ ?_ ?_ ?_)
      · simp [xU, upd]
      · simp [xU, upd]
      · simp [xU, upd]
      · simp [xU]
      · simp [xU]
      · rw [el]; simp [xU]
  · have el : lnS z = 3 := by unfold lnS; simp [c1, c2, c3, c4]
    by_cases h14 : 14 ≤ n
    ·
      refine ex_iload_n (i := 1) dX10_rule_0 rfl rfl ?_
      refine ex_cS (ν := m_Model_nonterminal) (as := [.int (nI (z 0))]) dX10_rule_1 ln_Model_135 mf_Model_nonterminal np_Model_nonterminal rfl rfl ⟨(Nat.le_of_ble_eq_true rfl), (Nat.le_of_ble_eq_true rfl), (Nat.le_of_ble_eq_true rfl), (Nat.le_of_ble_eq_true rfl)⟩ (by decide) ?_
      refine sp_Model_nonterminal ?_
      refine ⟨_, rfl, ?_⟩
      refine ex_asN (a := 1) (by rw [eN]) ?_
      refine ex_if_eqN (tgt := 59) dX10_rule_4 (by decide) (by omega) (fun h4 => by exact absurd h4 (by decide)) (fun h4 => ?_)
      refine ex_iload_n (i := 2) dX10_rule_7 rfl rfl ?_
      refine ex_if_eqN (tgt := 18) dX10_rule_8 (by decide) (by omega) (fun h8 => by omega) (fun h8 => ?_)
      refine ex_iload_n (i := 2) dX10_rule_11 rfl rfl ?_
      refine ex_cS (ν := m_Model_isSymbol) (as := [.int (nI (z 1))]) dX10_rule_12 ln_Model_138 mf_Model_isSymbol np_Model_isSymbol rfl rfl ⟨(Nat.le_of_ble_eq_true rfl), (Nat.le_of_ble_eq_true rfl), (Nat.le_of_ble_eq_true rfl), (Nat.le_of_ble_eq_true rfl)⟩ (by decide) ?_
      refine sp_Model_isSymbol ?_
      refine ⟨_, rfl, ?_⟩
      refine ex_asN (a := 1) (by rw [s1 c1]) ?_
      refine ex_if_eqN (tgt := 59) dX10_rule_15 (by decide) (by omega) (fun h15 => by exact absurd h15 (by decide)) (fun h15 => ?_)
      refine ex_iload_n (i := 3) dX10_rule_18 rfl rfl ?_
      refine ex_if_eqN (tgt := 29) dX10_rule_19 (by decide) (by omega) (fun h19 => by omega) (fun h19 => ?_)
      refine ex_iload_n (i := 3) dX10_rule_22 rfl rfl ?_
      refine ex_cS (ν := m_Model_isSymbol) (as := [.int (nI (z 2))]) dX10_rule_23 ln_Model_138 mf_Model_isSymbol np_Model_isSymbol rfl rfl ⟨(Nat.le_of_ble_eq_true rfl), (Nat.le_of_ble_eq_true rfl), (Nat.le_of_ble_eq_true rfl), (Nat.le_of_ble_eq_true rfl)⟩ (by decide) ?_
      refine sp_Model_isSymbol ?_
      refine ⟨_, rfl, ?_⟩
      refine ex_asN (a := 1) (by rw [s2 c2]) ?_
      refine ex_if_eqN (tgt := 59) dX10_rule_26 (by decide) (by omega) (fun h26 => by exact absurd h26 (by decide)) (fun h26 => ?_)
      refine ex_iload dX10_rule_29 rfl ?_
      refine ex_if_eqN (tgt := 42) dX10_rule_31 (by decide) (by omega) (fun h31 => by omega) (fun h31 => ?_)
      refine ex_iload dX10_rule_34 rfl ?_
      refine ex_cS (ν := m_Model_isSymbol) (as := [.int (nI (z 3))]) dX10_rule_36 ln_Model_138 mf_Model_isSymbol np_Model_isSymbol rfl rfl ⟨(Nat.le_of_ble_eq_true rfl), (Nat.le_of_ble_eq_true rfl), (Nat.le_of_ble_eq_true rfl), (Nat.le_of_ble_eq_true rfl)⟩ (by decide) ?_
      refine sp_Model_isSymbol ?_
      refine ⟨_, rfl, ?_⟩
      refine ex_asN (a := 1) (by rw [s3 c3]) ?_
      refine ex_if_eqN (tgt := 59) dX10_rule_39 (by decide) (by omega) (fun h39 => by exact absurd h39 (by decide)) (fun h39 => ?_)
      refine ex_iload dX10_rule_42 rfl ?_
      refine ex_if_eqN (tgt := 55) dX10_rule_44 (by decide) (by omega) (fun h44 => ?_) (fun h44 => by omega)
      refine ex_iconst (v := nI 1) dX10_rule_55 (by decide) ?_
      refine ex_goto (tgt := 60) dX10_rule_56 (by decide) ?_
      refine ex_istore (L' := [some (.ref (56)), some (.int (nI (z 0))), some (.int (nI (z 1))), some (.int (nI (z 2))), some (.int (nI (z 3))), some (.int (nI (z 4))), some (.int (nI (1))), none]) dX10_rule_60 (by decide) rfl ?_
      refine ex_iload dX10_rule_62 rfl ?_
      refine ex_if_eqN (tgt := 98) dX10_rule_64 (by decide) (by omega) (fun h64 => by exact absurd h64 (by decide)) (fun h64 => ?_)
      refine ex_iload_n (i := 2) dX10_rule_67 rfl rfl ?_
      refine ex_if_neN (tgt := 75) dX10_rule_68 (by decide) (by omega) (fun h68 => ?_) (fun h68 => by omega)
      refine ex_iload_n (i := 3) dX10_rule_75 rfl rfl ?_
      refine ex_if_neN (tgt := 84) dX10_rule_76 (by decide) (by omega) (fun h76 => ?_) (fun h76 => by omega)
      refine ex_iload dX10_rule_84 rfl ?_
      refine ex_if_neN (tgt := 94) dX10_rule_86 (by decide) (by omega) (fun h86 => ?_) (fun h86 => by omega)
      refine ex_iconst (v := nI 1) dX10_rule_94 (by decide) ?_
      refine ex_goto (tgt := 99) dX10_rule_95 (by decide) ?_
      refine ex_istore (L' := [some (.ref (56)), some (.int (nI (z 0))), some (.int (nI (z 1))), some (.int (nI (z 2))), some (.int (nI (z 3))), some (.int (nI (z 4))), some (.int (nI (1))), none]) dX10_rule_99 (by decide) rfl ?_
      refine ex_aload_n (i := 0) dX10_rule_101 rfl rfl ?_
      refine ex_iload dX10_rule_102 rfl ?_
      refine ex_iconst (v := nI 1) dX10_rule_104 (by decide) ?_
      refine ex_cV (ν := m_Model_good) (a := 56) (ci := 10) (as := [.int (nI (1)), .int (nI (1))]) dX10_rule_105 ln_Model_141 mf_Model_good rfl (Nat.le_of_ble_eq_true rfl) rfl rfl np_Model_good rfl rfl ⟨(Nat.le_of_ble_eq_true rfl), (Nat.le_of_ble_eq_true rfl), (Nat.le_of_ble_eq_true rfl), (Nat.le_of_ble_eq_true rfl)⟩ (by decide) ?_
      refine sp_Model_good (b := 1) (by decide) ?_
      refine ⟨_, rfl, ?_⟩
      refine ex_if_eqN (tgt := 133) dX10_rule_108 (by decide) (by omega) (fun h108 => by exact absurd h108 (by decide)) (fun h108 => ?_)
      refine ex_aload_n (i := 0) dX10_rule_111 rfl rfl ?_
      refine ex_aload_n (i := 0) dX10_rule_112 rfl rfl ?_
      refine ex_getI dX10_rule_113 fl_Model_145 rfl rfl (by decide) ?_
      refine ex_asN (a := n) (e3 _) ?_
      refine ex_bipush (v := nI 14) dX10_rule_116 (by decide) ?_
      refine ex_icmp_geN (tgt := 125) dX10_rule_118 (by decide) (by omega) (by omega) (fun h118 => ?_) (fun h118 => by omega)
      refine ex_iconst (v := nI 0) dX10_rule_125 (by decide) ?_
      refine ex_iconst (v := nI 2) dX10_rule_126 (by decide) ?_
      refine ex_cV (ν := m_Model_good) (a := 56) (ci := 10) (as := [.int (nI (0)), .int (nI (2))]) dX10_rule_127 ln_Model_141 mf_Model_good rfl (Nat.le_of_ble_eq_true rfl) rfl rfl np_Model_good rfl rfl ⟨(Nat.le_of_ble_eq_true rfl), (Nat.le_of_ble_eq_true rfl), (Nat.le_of_ble_eq_true rfl), (Nat.le_of_ble_eq_true rfl)⟩ (by decide) ?_
      refine sp_Model_good (b := 0) (by decide) ?_
      refine ⟨_, rfl, ?_⟩
      refine ex_if_neN (tgt := 135) dX10_rule_130 (by decide) (by omega) (fun h130 => by exact absurd h130 (by decide)) (fun h130 => ?_)
      refine ex_iconst (v := nI 0) dX10_rule_133 (by decide) ?_
      refine ex_iret dX10_rule_134 rfl rfl ?_
      exact hX2 h14 _ ((Fm.rf.F (by decide)).F (by decide)) (cd_at2 _ _ _)
    ·
      refine ex_iload_n (i := 1) dX10_rule_0 rfl rfl ?_
      refine ex_cS (ν := m_Model_nonterminal) (as := [.int (nI (z 0))]) dX10_rule_1 ln_Model_135 mf_Model_nonterminal np_Model_nonterminal rfl rfl ⟨(Nat.le_of_ble_eq_true rfl), (Nat.le_of_ble_eq_true rfl), (Nat.le_of_ble_eq_true rfl), (Nat.le_of_ble_eq_true rfl)⟩ (by decide) ?_
      refine sp_Model_nonterminal ?_
      refine ⟨_, rfl, ?_⟩
      refine ex_asN (a := 1) (by rw [eN]) ?_
      refine ex_if_eqN (tgt := 59) dX10_rule_4 (by decide) (by omega) (fun h4 => by exact absurd h4 (by decide)) (fun h4 => ?_)
      refine ex_iload_n (i := 2) dX10_rule_7 rfl rfl ?_
      refine ex_if_eqN (tgt := 18) dX10_rule_8 (by decide) (by omega) (fun h8 => by omega) (fun h8 => ?_)
      refine ex_iload_n (i := 2) dX10_rule_11 rfl rfl ?_
      refine ex_cS (ν := m_Model_isSymbol) (as := [.int (nI (z 1))]) dX10_rule_12 ln_Model_138 mf_Model_isSymbol np_Model_isSymbol rfl rfl ⟨(Nat.le_of_ble_eq_true rfl), (Nat.le_of_ble_eq_true rfl), (Nat.le_of_ble_eq_true rfl), (Nat.le_of_ble_eq_true rfl)⟩ (by decide) ?_
      refine sp_Model_isSymbol ?_
      refine ⟨_, rfl, ?_⟩
      refine ex_asN (a := 1) (by rw [s1 c1]) ?_
      refine ex_if_eqN (tgt := 59) dX10_rule_15 (by decide) (by omega) (fun h15 => by exact absurd h15 (by decide)) (fun h15 => ?_)
      refine ex_iload_n (i := 3) dX10_rule_18 rfl rfl ?_
      refine ex_if_eqN (tgt := 29) dX10_rule_19 (by decide) (by omega) (fun h19 => by omega) (fun h19 => ?_)
      refine ex_iload_n (i := 3) dX10_rule_22 rfl rfl ?_
      refine ex_cS (ν := m_Model_isSymbol) (as := [.int (nI (z 2))]) dX10_rule_23 ln_Model_138 mf_Model_isSymbol np_Model_isSymbol rfl rfl ⟨(Nat.le_of_ble_eq_true rfl), (Nat.le_of_ble_eq_true rfl), (Nat.le_of_ble_eq_true rfl), (Nat.le_of_ble_eq_true rfl)⟩ (by decide) ?_
      refine sp_Model_isSymbol ?_
      refine ⟨_, rfl, ?_⟩
      refine ex_asN (a := 1) (by rw [s2 c2]) ?_
      refine ex_if_eqN (tgt := 59) dX10_rule_26 (by decide) (by omega) (fun h26 => by exact absurd h26 (by decide)) (fun h26 => ?_)
      refine ex_iload dX10_rule_29 rfl ?_
      refine ex_if_eqN (tgt := 42) dX10_rule_31 (by decide) (by omega) (fun h31 => by omega) (fun h31 => ?_)
      refine ex_iload dX10_rule_34 rfl ?_
      refine ex_cS (ν := m_Model_isSymbol) (as := [.int (nI (z 3))]) dX10_rule_36 ln_Model_138 mf_Model_isSymbol np_Model_isSymbol rfl rfl ⟨(Nat.le_of_ble_eq_true rfl), (Nat.le_of_ble_eq_true rfl), (Nat.le_of_ble_eq_true rfl), (Nat.le_of_ble_eq_true rfl)⟩ (by decide) ?_
      refine sp_Model_isSymbol ?_
      refine ⟨_, rfl, ?_⟩
      refine ex_asN (a := 1) (by rw [s3 c3]) ?_
      refine ex_if_eqN (tgt := 59) dX10_rule_39 (by decide) (by omega) (fun h39 => by exact absurd h39 (by decide)) (fun h39 => ?_)
      refine ex_iload dX10_rule_42 rfl ?_
      refine ex_if_eqN (tgt := 55) dX10_rule_44 (by decide) (by omega) (fun h44 => ?_) (fun h44 => by omega)
      refine ex_iconst (v := nI 1) dX10_rule_55 (by decide) ?_
      refine ex_goto (tgt := 60) dX10_rule_56 (by decide) ?_
      refine ex_istore (L' := [some (.ref (56)), some (.int (nI (z 0))), some (.int (nI (z 1))), some (.int (nI (z 2))), some (.int (nI (z 3))), some (.int (nI (z 4))), some (.int (nI (1))), none]) dX10_rule_60 (by decide) rfl ?_
      refine ex_iload dX10_rule_62 rfl ?_
      refine ex_if_eqN (tgt := 98) dX10_rule_64 (by decide) (by omega) (fun h64 => by exact absurd h64 (by decide)) (fun h64 => ?_)
      refine ex_iload_n (i := 2) dX10_rule_67 rfl rfl ?_
      refine ex_if_neN (tgt := 75) dX10_rule_68 (by decide) (by omega) (fun h68 => ?_) (fun h68 => by omega)
      refine ex_iload_n (i := 3) dX10_rule_75 rfl rfl ?_
      refine ex_if_neN (tgt := 84) dX10_rule_76 (by decide) (by omega) (fun h76 => ?_) (fun h76 => by omega)
      refine ex_iload dX10_rule_84 rfl ?_
      refine ex_if_neN (tgt := 94) dX10_rule_86 (by decide) (by omega) (fun h86 => ?_) (fun h86 => by omega)
      refine ex_iconst (v := nI 1) dX10_rule_94 (by decide) ?_
      refine ex_goto (tgt := 99) dX10_rule_95 (by decide) ?_
      refine ex_istore (L' := [some (.ref (56)), some (.int (nI (z 0))), some (.int (nI (z 1))), some (.int (nI (z 2))), some (.int (nI (z 3))), some (.int (nI (z 4))), some (.int (nI (1))), none]) dX10_rule_99 (by decide) rfl ?_
      refine ex_aload_n (i := 0) dX10_rule_101 rfl rfl ?_
      refine ex_iload dX10_rule_102 rfl ?_
      refine ex_iconst (v := nI 1) dX10_rule_104 (by decide) ?_
      refine ex_cV (ν := m_Model_good) (a := 56) (ci := 10) (as := [.int (nI (1)), .int (nI (1))]) dX10_rule_105 ln_Model_141 mf_Model_good rfl (Nat.le_of_ble_eq_true rfl) rfl rfl np_Model_good rfl rfl ⟨(Nat.le_of_ble_eq_true rfl), (Nat.le_of_ble_eq_true rfl), (Nat.le_of_ble_eq_true rfl), (Nat.le_of_ble_eq_true rfl)⟩ (by decide) ?_
      refine sp_Model_good (b := 1) (by decide) ?_
      refine ⟨_, rfl, ?_⟩
      refine ex_if_eqN (tgt := 133) dX10_rule_108 (by decide) (by omega) (fun h108 => by exact absurd h108 (by decide)) (fun h108 => ?_)
      refine ex_aload_n (i := 0) dX10_rule_111 rfl rfl ?_
      refine ex_aload_n (i := 0) dX10_rule_112 rfl rfl ?_
      refine ex_getI dX10_rule_113 fl_Model_145 rfl rfl (by decide) ?_
      refine ex_asN (a := n) (e3 _) ?_
      refine ex_bipush (v := nI 14) dX10_rule_116 (by decide) ?_
      refine ex_icmp_geN (tgt := 125) dX10_rule_118 (by decide) (by omega) (by omega) (fun h118 => by omega) (fun h118 => ?_)
      refine ex_iconst (v := nI 1) dX10_rule_121 (by decide) ?_
      refine ex_goto (tgt := 126) dX10_rule_122 (by decide) ?_
      refine ex_iconst (v := nI 2) dX10_rule_126 (by decide) ?_
      refine ex_cV (ν := m_Model_good) (a := 56) (ci := 10) (as := [.int (nI (1)), .int (nI (2))]) dX10_rule_127 ln_Model_141 mf_Model_good rfl (Nat.le_of_ble_eq_true rfl) rfl rfl np_Model_good rfl rfl ⟨(Nat.le_of_ble_eq_true rfl), (Nat.le_of_ble_eq_true rfl), (Nat.le_of_ble_eq_true rfl), (Nat.le_of_ble_eq_true rfl)⟩ (by decide) ?_
      refine sp_Model_good (b := 1) (by decide) ?_
      refine ⟨_, rfl, ?_⟩
      refine ex_if_neN (tgt := 135) dX10_rule_130 (by decide) (by omega) (fun h130 => ?_) (fun h130 => by exact absurd h130 (by decide))
      refine ex_aload_n (i := 0) dX10_rule_135 rfl rfl ?_
      refine ex_getI dX10_rule_136 fl_Model_145 rfl rfl (by decide) ?_
      refine ex_asN (a := n) (e3b _ _) ?_
      refine ex_istore (L' := [some (.ref (56)), some (.int (nI (z 0))), some (.int (nI (z 1))), some (.int (nI (z 2))), some (.int (nI (z 3))), some (.int (nI (z 4))), some (.int (nI (1))), some (.int (nI (n)))]) dX10_rule_139 (by decide) rfl ?_
      refine ex_aload_n (i := 0) dX10_rule_141 rfl rfl ?_
      refine ex_getR (v := .ref (57)) dX10_rule_142 fl_Model_7 rfl rfl (by decide) rfl ?_
      refine ex_iload dX10_rule_145 rfl ?_
      refine ex_iload_n (i := 1) dX10_rule_147 rfl rfl ?_
      refine ex_iastN dX10_rule_148 rfl (by decide) (by omega) ?_
      refine ex_aload_n (i := 0) dX10_rule_149 rfl rfl ?_
      refine ex_getR (v := .ref (58)) dX10_rule_150 fl_Model_13 rfl rfl (by decide) rfl ?_
      refine ex_iconst (v := nI 4) dX10_rule_153 (by decide) ?_
      refine ex_iload dX10_rule_154 rfl ?_
      refine ex_imulN dX10_rule_156 ?_
      refine ex_iload_n (i := 2) dX10_rule_157 rfl rfl ?_
      refine ex_iastN dX10_rule_158 rfl (by decide) (by omega) ?_
      refine ex_aload_n (i := 0) dX10_rule_159 rfl rfl ?_
      refine ex_getR (v := .ref (58)) dX10_rule_160 fl_Model_13 rfl rfl (by decide) rfl ?_
      refine ex_iconst (v := nI 4) dX10_rule_163 (by decide) ?_
      refine ex_iload dX10_rule_164 rfl ?_
      refine ex_imulN dX10_rule_166 ?_
      refine ex_iconst (v := nI 1) dX10_rule_167 (by decide) ?_
      refine ex_iaddN dX10_rule_168 ?_
      refine ex_iload_n (i := 3) dX10_rule_169 rfl rfl ?_
      refine ex_iastN dX10_rule_170 rfl (by decide) (by omega) ?_
      refine ex_aload_n (i := 0) dX10_rule_171 rfl rfl ?_
      refine ex_getR (v := .ref (58)) dX10_rule_172 fl_Model_13 rfl rfl (by decide) rfl ?_
      refine ex_iconst (v := nI 4) dX10_rule_175 (by decide) ?_
      refine ex_iload dX10_rule_176 rfl ?_
      refine ex_imulN dX10_rule_178 ?_
      refine ex_iconst (v := nI 2) dX10_rule_179 (by decide) ?_
      refine ex_iaddN dX10_rule_180 ?_
      refine ex_iload dX10_rule_181 rfl ?_
      refine ex_iastN dX10_rule_183 rfl (by decide) (by omega) ?_
      refine ex_aload_n (i := 0) dX10_rule_184 rfl rfl ?_
      refine ex_getR (v := .ref (58)) dX10_rule_185 fl_Model_13 rfl rfl (by decide) rfl ?_
      refine ex_iconst (v := nI 4) dX10_rule_188 (by decide) ?_
      refine ex_iload dX10_rule_189 rfl ?_
      refine ex_imulN dX10_rule_191 ?_
      refine ex_iconst (v := nI 3) dX10_rule_192 (by decide) ?_
      refine ex_iaddN dX10_rule_193 ?_
      refine ex_iload dX10_rule_194 rfl ?_
      refine ex_iastN dX10_rule_196 rfl (by decide) (by omega) ?_
      refine ex_aload_n (i := 0) dX10_rule_197 rfl rfl ?_
      refine ex_getR (v := .ref (59)) dX10_rule_198 fl_Model_16 rfl rfl (by decide) rfl ?_
      refine ex_iload dX10_rule_201 rfl ?_
      refine ex_iload_n (i := 2) dX10_rule_203 rfl rfl ?_
      refine ex_if_neN (tgt := 211) dX10_rule_204 (by decide) (by omega) (fun h204 => ?_) (fun h204 => by omega)
      refine ex_iload_n (i := 3) dX10_rule_211 rfl rfl ?_
      refine ex_if_neN (tgt := 219) dX10_rule_212 (by decide) (by omega) (fun h212 => ?_) (fun h212 => by omega)
      refine ex_iload dX10_rule_219 rfl ?_
      refine ex_if_neN (tgt := 228) dX10_rule_221 (by decide) (by omega) (fun h221 => ?_) (fun h221 => by omega)
      refine ex_iload dX10_rule_228 rfl ?_
      refine ex_if_neN (tgt := 237) dX10_rule_230 (by decide) (by omega) (fun h230 => by omega) (fun h230 => ?_)
      refine ex_iconst (v := nI 3) dX10_rule_233 (by decide) ?_
      refine ex_goto (tgt := 238) dX10_rule_234 (by decide) ?_
      refine ex_iastN dX10_rule_238 rfl (by decide) (by omega) ?_
      refine ex_aload_n (i := 0) dX10_rule_239 rfl rfl ?_
      refine ex_dup dX10_rule_240 rfl ?_
      refine ex_getI dX10_rule_241 fl_Model_145 rfl rfl (by decide) ?_
      refine ex_asI (y := (xU (xU i 56 45 (nI 0)) 56 45 (nI 0)) (56) (3)) (by first | rfl | simp [xU, upd]) ?_
      refine ex_asN (a := n) (e3b _ _) ?_
      refine ex_iconst (v := nI 1) dX10_rule_244 (by decide) ?_
      refine ex_iaddN dX10_rule_245 ?_
      refine ex_putI dX10_rule_246 fl_Model_145 cf_10 rfl (Or.inl rfl) rfl rfl rfl (by decide) ?_
      refine ex_aload_n (i := 0) dX10_rule_249 rfl rfl ?_
      refine ex_iconst (v := nI 0) dX10_rule_250 (by decide) ?_
      refine ex_putI dX10_rule_251 fl_Model_148 cf_10 rfl (Or.inl rfl) (by decide) (by decide) rfl (by decide) ?_
      refine ex_iload dX10_rule_254 rfl ?_
      refine ex_iret dX10_rule_256 rfl rfl ?_
      refine hQ (by omega) _ (((((((((Fm.rf.F (by decide)).F (by decide)).U (by decide) (by decide)).U (by decide) (by decide)).U (by decide) (by decide)).U (by decide) (by decide)).U (by decide) (by decide)).U (by decide) (by decide)).F (by decide) |>.F (by decide)) ?_ ?_ (RG_add rg (by omega) hz ?_ ?_ ?_ ?_)
      · simp [xU, upd]
      · simp [xU, upd]
      · simp [xU, upd]
      · simp [xU]
      · simp [xU]
      · rw [el]; simp [xU]
  · have el : lnS z = 4 := by unfold lnS; simp [c1, c2, c3, c4]
    by_cases h14 : 14 ≤ n
    ·
      refine ex_iload_n (i := 1) dX10_rule_0 rfl rfl ?_
      refine ex_cS (ν := m_Model_nonterminal) (as := [.int (nI (z 0))]) dX10_rule_1 ln_Model_135 mf_Model_nonterminal np_Model_nonterminal rfl rfl ⟨(Nat.le_of_ble_eq_true rfl), (Nat.le_of_ble_eq_true rfl), (Nat.le_of_ble_eq_true rfl), (Nat.le_of_ble_eq_true rfl)⟩ (by decide) ?_
      refine sp_Model_nonterminal ?_
      refine ⟨_, rfl, ?_⟩
      refine ex_asN (a := 1) (by rw [eN]) ?_
      refine ex_if_eqN (tgt := 59) dX10_rule_4 (by decide) (by omega) (fun h4 => by exact absurd h4 (by decide)) (fun h4 => ?_)
      refine ex_iload_n (i := 2) dX10_rule_7 rfl rfl ?_
      refine ex_if_eqN (tgt := 18) dX10_rule_8 (by decide) (by omega) (fun h8 => by omega) (fun h8 => ?_)
      refine ex_iload_n (i := 2) dX10_rule_11 rfl rfl ?_
      refine ex_cS (ν := m_Model_isSymbol) (as := [.int (nI (z 1))]) dX10_rule_12 ln_Model_138 mf_Model_isSymbol np_Model_isSymbol rfl rfl ⟨(Nat.le_of_ble_eq_true rfl), (Nat.le_of_ble_eq_true rfl), (Nat.le_of_ble_eq_true rfl), (Nat.le_of_ble_eq_true rfl)⟩ (by decide) ?_
      refine sp_Model_isSymbol ?_
      refine ⟨_, rfl, ?_⟩
      refine ex_asN (a := 1) (by rw [s1 c1]) ?_
      refine ex_if_eqN (tgt := 59) dX10_rule_15 (by decide) (by omega) (fun h15 => by exact absurd h15 (by decide)) (fun h15 => ?_)
      refine ex_iload_n (i := 3) dX10_rule_18 rfl rfl ?_
      refine ex_if_eqN (tgt := 29) dX10_rule_19 (by decide) (by omega) (fun h19 => by omega) (fun h19 => ?_)
      refine ex_iload_n (i := 3) dX10_rule_22 rfl rfl ?_
      refine ex_cS (ν := m_Model_isSymbol) (as := [.int (nI (z 2))]) dX10_rule_23 ln_Model_138 mf_Model_isSymbol np_Model_isSymbol rfl rfl ⟨(Nat.le_of_ble_eq_true rfl), (Nat.le_of_ble_eq_true rfl), (Nat.le_of_ble_eq_true rfl), (Nat.le_of_ble_eq_true rfl)⟩ (by decide) ?_
      refine sp_Model_isSymbol ?_
      refine ⟨_, rfl, ?_⟩
      refine ex_asN (a := 1) (by rw [s2 c2]) ?_
      refine ex_if_eqN (tgt := 59) dX10_rule_26 (by decide) (by omega) (fun h26 => by exact absurd h26 (by decide)) (fun h26 => ?_)
      refine ex_iload dX10_rule_29 rfl ?_
      refine ex_if_eqN (tgt := 42) dX10_rule_31 (by decide) (by omega) (fun h31 => by omega) (fun h31 => ?_)
      refine ex_iload dX10_rule_34 rfl ?_
      refine ex_cS (ν := m_Model_isSymbol) (as := [.int (nI (z 3))]) dX10_rule_36 ln_Model_138 mf_Model_isSymbol np_Model_isSymbol rfl rfl ⟨(Nat.le_of_ble_eq_true rfl), (Nat.le_of_ble_eq_true rfl), (Nat.le_of_ble_eq_true rfl), (Nat.le_of_ble_eq_true rfl)⟩ (by decide) ?_
      refine sp_Model_isSymbol ?_
      refine ⟨_, rfl, ?_⟩
      refine ex_asN (a := 1) (by rw [s3 c3]) ?_
      refine ex_if_eqN (tgt := 59) dX10_rule_39 (by decide) (by omega) (fun h39 => by exact absurd h39 (by decide)) (fun h39 => ?_)
      refine ex_iload dX10_rule_42 rfl ?_
      refine ex_if_eqN (tgt := 55) dX10_rule_44 (by decide) (by omega) (fun h44 => by omega) (fun h44 => ?_)
      refine ex_iload dX10_rule_47 rfl ?_
      refine ex_cS (ν := m_Model_isSymbol) (as := [.int (nI (z 4))]) dX10_rule_49 ln_Model_138 mf_Model_isSymbol np_Model_isSymbol rfl rfl ⟨(Nat.le_of_ble_eq_true rfl), (Nat.le_of_ble_eq_true rfl), (Nat.le_of_ble_eq_true rfl), (Nat.le_of_ble_eq_true rfl)⟩ (by decide) ?_
      refine sp_Model_isSymbol ?_
      refine ⟨_, rfl, ?_⟩
      refine ex_asN (a := 1) (by rw [s4 c4]) ?_
      refine ex_if_eqN (tgt := 59) dX10_rule_52 (by decide) (by omega) (fun h52 => by exact absurd h52 (by decide)) (fun h52 => ?_)
      refine ex_iconst (v := nI 1) dX10_rule_55 (by decide) ?_
      refine ex_goto (tgt := 60) dX10_rule_56 (by decide) ?_
      refine ex_istore (L' := [some (.ref (56)), some (.int (nI (z 0))), some (.int (nI (z 1))), some (.int (nI (z 2))), some (.int (nI (z 3))), some (.int (nI (z 4))), some (.int (nI (1))), none]) dX10_rule_60 (by decide) rfl ?_
      refine ex_iload dX10_rule_62 rfl ?_
      refine ex_if_eqN (tgt := 98) dX10_rule_64 (by decide) (by omega) (fun h64 => by exact absurd h64 (by decide)) (fun h64 => ?_)
      refine ex_iload_n (i := 2) dX10_rule_67 rfl rfl ?_
      refine ex_if_neN (tgt := 75) dX10_rule_68 (by decide) (by omega) (fun h68 => ?_) (fun h68 => by omega)
      refine ex_iload_n (i := 3) dX10_rule_75 rfl rfl ?_
      refine ex_if_neN (tgt := 84) dX10_rule_76 (by decide) (by omega) (fun h76 => ?_) (fun h76 => by omega)
      refine ex_iload dX10_rule_84 rfl ?_
      refine ex_if_neN (tgt := 94) dX10_rule_86 (by decide) (by omega) (fun h86 => ?_) (fun h86 => by omega)
      refine ex_iconst (v := nI 1) dX10_rule_94 (by decide) ?_
      refine ex_goto (tgt := 99) dX10_rule_95 (by decide) ?_
      refine ex_istore (L' := [some (.ref (56)), some (.int (nI (z 0))), some (.int (nI (z 1))), some (.int (nI (z 2))), some (.int (nI (z 3))), some (.int (nI (z 4))), some (.int (nI (1))), none]) dX10_rule_99 (by decide) rfl ?_
      refine ex_aload_n (i := 0) dX10_rule_101 rfl rfl ?_
      refine ex_iload dX10_rule_102 rfl ?_
      refine ex_iconst (v := nI 1) dX10_rule_104 (by decide) ?_
      refine ex_cV (ν := m_Model_good) (a := 56) (ci := 10) (as := [.int (nI (1)), .int (nI (1))]) dX10_rule_105 ln_Model_141 mf_Model_good rfl (Nat.le_of_ble_eq_true rfl) rfl rfl np_Model_good rfl rfl ⟨(Nat.le_of_ble_eq_true rfl), (Nat.le_of_ble_eq_true rfl), (Nat.le_of_ble_eq_true rfl), (Nat.le_of_ble_eq_true rfl)⟩ (by decide) ?_
      refine sp_Model_good (b := 1) (by decide) ?_
      refine ⟨_, rfl, ?_⟩
      refine ex_if_eqN (tgt := 133) dX10_rule_108 (by decide) (by omega) (fun h108 => by exact absurd h108 (by decide)) (fun h108 => ?_)
      refine ex_aload_n (i := 0) dX10_rule_111 rfl rfl ?_
      refine ex_aload_n (i := 0) dX10_rule_112 rfl rfl ?_
      refine ex_getI dX10_rule_113 fl_Model_145 rfl rfl (by decide) ?_
      refine ex_asN (a := n) (e3 _) ?_
      refine ex_bipush (v := nI 14) dX10_rule_116 (by decide) ?_
      refine ex_icmp_geN (tgt := 125) dX10_rule_118 (by decide) (by omega) (by omega) (fun h118 => ?_) (fun h118 => by omega)
      refine ex_iconst (v := nI 0) dX10_rule_125 (by decide) ?_
      refine ex_iconst (v := nI 2) dX10_rule_126 (by decide) ?_
      refine ex_cV (ν := m_Model_good) (a := 56) (ci := 10) (as := [.int (nI (0)), .int (nI (2))]) dX10_rule_127 ln_Model_141 mf_Model_good rfl (Nat.le_of_ble_eq_true rfl) rfl rfl np_Model_good rfl rfl ⟨(Nat.le_of_ble_eq_true rfl), (Nat.le_of_ble_eq_true rfl), (Nat.le_of_ble_eq_true rfl), (Nat.le_of_ble_eq_true rfl)⟩ (by decide) ?_
      refine sp_Model_good (b := 0) (by decide) ?_
      refine ⟨_, rfl, ?_⟩
      refine ex_if_neN (tgt := 135) dX10_rule_130 (by decide) (by omega) (fun h130 => by exact absurd h130 (by decide)) (fun h130 => ?_)
      refine ex_iconst (v := nI 0) dX10_rule_133 (by decide) ?_
      refine ex_iret dX10_rule_134 rfl rfl ?_
      exact hX2 h14 _ ((Fm.rf.F (by decide)).F (by decide)) (cd_at2 _ _ _)
    ·
      refine ex_iload_n (i := 1) dX10_rule_0 rfl rfl ?_
      refine ex_cS (ν := m_Model_nonterminal) (as := [.int (nI (z 0))]) dX10_rule_1 ln_Model_135 mf_Model_nonterminal np_Model_nonterminal rfl rfl ⟨(Nat.le_of_ble_eq_true rfl), (Nat.le_of_ble_eq_true rfl), (Nat.le_of_ble_eq_true rfl), (Nat.le_of_ble_eq_true rfl)⟩ (by decide) ?_
      refine sp_Model_nonterminal ?_
      refine ⟨_, rfl, ?_⟩
      refine ex_asN (a := 1) (by rw [eN]) ?_
      refine ex_if_eqN (tgt := 59) dX10_rule_4 (by decide) (by omega) (fun h4 => by exact absurd h4 (by decide)) (fun h4 => ?_)
      refine ex_iload_n (i := 2) dX10_rule_7 rfl rfl ?_
      refine ex_if_eqN (tgt := 18) dX10_rule_8 (by decide) (by omega) (fun h8 => by omega) (fun h8 => ?_)
      refine ex_iload_n (i := 2) dX10_rule_11 rfl rfl ?_
      refine ex_cS (ν := m_Model_isSymbol) (as := [.int (nI (z 1))]) dX10_rule_12 ln_Model_138 mf_Model_isSymbol np_Model_isSymbol rfl rfl ⟨(Nat.le_of_ble_eq_true rfl), (Nat.le_of_ble_eq_true rfl), (Nat.le_of_ble_eq_true rfl), (Nat.le_of_ble_eq_true rfl)⟩ (by decide) ?_
      refine sp_Model_isSymbol ?_
      refine ⟨_, rfl, ?_⟩
      refine ex_asN (a := 1) (by rw [s1 c1]) ?_
      refine ex_if_eqN (tgt := 59) dX10_rule_15 (by decide) (by omega) (fun h15 => by exact absurd h15 (by decide)) (fun h15 => ?_)
      refine ex_iload_n (i := 3) dX10_rule_18 rfl rfl ?_
      refine ex_if_eqN (tgt := 29) dX10_rule_19 (by decide) (by omega) (fun h19 => by omega) (fun h19 => ?_)
      refine ex_iload_n (i := 3) dX10_rule_22 rfl rfl ?_
      refine ex_cS (ν := m_Model_isSymbol) (as := [.int (nI (z 2))]) dX10_rule_23 ln_Model_138 mf_Model_isSymbol np_Model_isSymbol rfl rfl ⟨(Nat.le_of_ble_eq_true rfl), (Nat.le_of_ble_eq_true rfl), (Nat.le_of_ble_eq_true rfl), (Nat.le_of_ble_eq_true rfl)⟩ (by decide) ?_
      refine sp_Model_isSymbol ?_
      refine ⟨_, rfl, ?_⟩
      refine ex_asN (a := 1) (by rw [s2 c2]) ?_
      refine ex_if_eqN (tgt := 59) dX10_rule_26 (by decide) (by omega) (fun h26 => by exact absurd h26 (by decide)) (fun h26 => ?_)
      refine ex_iload dX10_rule_29 rfl ?_
      refine ex_if_eqN (tgt := 42) dX10_rule_31 (by decide) (by omega) (fun h31 => by omega) (fun h31 => ?_)
      refine ex_iload dX10_rule_34 rfl ?_
      refine ex_cS (ν := m_Model_isSymbol) (as := [.int (nI (z 3))]) dX10_rule_36 ln_Model_138 mf_Model_isSymbol np_Model_isSymbol rfl rfl ⟨(Nat.le_of_ble_eq_true rfl), (Nat.le_of_ble_eq_true rfl), (Nat.le_of_ble_eq_true rfl), (Nat.le_of_ble_eq_true rfl)⟩ (by decide) ?_
      refine sp_Model_isSymbol ?_
      refine ⟨_, rfl, ?_⟩
      refine ex_asN (a := 1) (by rw [s3 c3]) ?_
      refine ex_if_eqN (tgt := 59) dX10_rule_39 (by decide) (by omega) (fun h39 => by exact absurd h39 (by decide)) (fun h39 => ?_)
      refine ex_iload dX10_rule_42 rfl ?_
      refine ex_if_eqN (tgt := 55) dX10_rule_44 (by decide) (by omega) (fun h44 => by omega) (fun h44 => ?_)
      refine ex_iload dX10_rule_47 rfl ?_
      refine ex_cS (ν := m_Model_isSymbol) (as := [.int (nI (z 4))]) dX10_rule_49 ln_Model_138 mf_Model_isSymbol np_Model_isSymbol rfl rfl ⟨(Nat.le_of_ble_eq_true rfl), (Nat.le_of_ble_eq_true rfl), (Nat.le_of_ble_eq_true rfl), (Nat.le_of_ble_eq_true rfl)⟩ (by decide) ?_
      refine sp_Model_isSymbol ?_
      refine ⟨_, rfl, ?_⟩
      refine ex_asN (a := 1) (by rw [s4 c4]) ?_
      refine ex_if_eqN (tgt := 59) dX10_rule_52 (by decide) (by omega) (fun h52 => by exact absurd h52 (by decide)) (fun h52 => ?_)
      refine ex_iconst (v := nI 1) dX10_rule_55 (by decide) ?_
      refine ex_goto (tgt := 60) dX10_rule_56 (by decide) ?_
      refine ex_istore (L' := [some (.ref (56)), some (.int (nI (z 0))), some (.int (nI (z 1))), some (.int (nI (z 2))), some (.int (nI (z 3))), some (.int (nI (z 4))), some (.int (nI (1))), none]) dX10_rule_60 (by decide) rfl ?_
      refine ex_iload dX10_rule_62 rfl ?_
      refine ex_if_eqN (tgt := 98) dX10_rule_64 (by decide) (by omega) (fun h64 => by exact absurd h64 (by decide)) (fun h64 => ?_)
      refine ex_iload_n (i := 2) dX10_rule_67 rfl rfl ?_
      refine ex_if_neN (tgt := 75) dX10_rule_68 (by decide) (by omega) (fun h68 => ?_) (fun h68 => by omega)
      refine ex_iload_n (i := 3) dX10_rule_75 rfl rfl ?_
      refine ex_if_neN (tgt := 84) dX10_rule_76 (by decide) (by omega) (fun h76 => ?_) (fun h76 => by omega)
      refine ex_iload dX10_rule_84 rfl ?_
      refine ex_if_neN (tgt := 94) dX10_rule_86 (by decide) (by omega) (fun h86 => ?_) (fun h86 => by omega)
      refine ex_iconst (v := nI 1) dX10_rule_94 (by decide) ?_
      refine ex_goto (tgt := 99) dX10_rule_95 (by decide) ?_
      refine ex_istore (L' := [some (.ref (56)), some (.int (nI (z 0))), some (.int (nI (z 1))), some (.int (nI (z 2))), some (.int (nI (z 3))), some (.int (nI (z 4))), some (.int (nI (1))), none]) dX10_rule_99 (by decide) rfl ?_
      refine ex_aload_n (i := 0) dX10_rule_101 rfl rfl ?_
      refine ex_iload dX10_rule_102 rfl ?_
      refine ex_iconst (v := nI 1) dX10_rule_104 (by decide) ?_
      refine ex_cV (ν := m_Model_good) (a := 56) (ci := 10) (as := [.int (nI (1)), .int (nI (1))]) dX10_rule_105 ln_Model_141 mf_Model_good rfl (Nat.le_of_ble_eq_true rfl) rfl rfl np_Model_good rfl rfl ⟨(Nat.le_of_ble_eq_true rfl), (Nat.le_of_ble_eq_true rfl), (Nat.le_of_ble_eq_true rfl), (Nat.le_of_ble_eq_true rfl)⟩ (by decide) ?_
      refine sp_Model_good (b := 1) (by decide) ?_
      refine ⟨_, rfl, ?_⟩
      refine ex_if_eqN (tgt := 133) dX10_rule_108 (by decide) (by omega) (fun h108 => by exact absurd h108 (by decide)) (fun h108 => ?_)
      refine ex_aload_n (i := 0) dX10_rule_111 rfl rfl ?_
      refine ex_aload_n (i := 0) dX10_rule_112 rfl rfl ?_
      refine ex_getI dX10_rule_113 fl_Model_145 rfl rfl (by decide) ?_
      refine ex_asN (a := n) (e3 _) ?_
      refine ex_bipush (v := nI 14) dX10_rule_116 (by decide) ?_
      refine ex_icmp_geN (tgt := 125) dX10_rule_118 (by decide) (by omega) (by omega) (fun h118 => by omega) (fun h118 => ?_)
      refine ex_iconst (v := nI 1) dX10_rule_121 (by decide) ?_
      refine ex_goto (tgt := 126) dX10_rule_122 (by decide) ?_
      refine ex_iconst (v := nI 2) dX10_rule_126 (by decide) ?_
      refine ex_cV (ν := m_Model_good) (a := 56) (ci := 10) (as := [.int (nI (1)), .int (nI (2))]) dX10_rule_127 ln_Model_141 mf_Model_good rfl (Nat.le_of_ble_eq_true rfl) rfl rfl np_Model_good rfl rfl ⟨(Nat.le_of_ble_eq_true rfl), (Nat.le_of_ble_eq_true rfl), (Nat.le_of_ble_eq_true rfl), (Nat.le_of_ble_eq_true rfl)⟩ (by decide) ?_
      refine sp_Model_good (b := 1) (by decide) ?_
      refine ⟨_, rfl, ?_⟩
      refine ex_if_neN (tgt := 135) dX10_rule_130 (by decide) (by omega) (fun h130 => ?_) (fun h130 => by exact absurd h130 (by decide))
      refine ex_aload_n (i := 0) dX10_rule_135 rfl rfl ?_
      refine ex_getI dX10_rule_136 fl_Model_145 rfl rfl (by decide) ?_
      refine ex_asN (a := n) (e3b _ _) ?_
      refine ex_istore (L' := [some (.ref (56)), some (.int (nI (z 0))), some (.int (nI (z 1))), some (.int (nI (z 2))), some (.int (nI (z 3))), some (.int (nI (z 4))), some (.int (nI (1))), some (.int (nI (n)))]) dX10_rule_139 (by decide) rfl ?_
      refine ex_aload_n (i := 0) dX10_rule_141 rfl rfl ?_
      refine ex_getR (v := .ref (57)) dX10_rule_142 fl_Model_7 rfl rfl (by decide) rfl ?_
      refine ex_iload dX10_rule_145 rfl ?_
      refine ex_iload_n (i := 1) dX10_rule_147 rfl rfl ?_
      refine ex_iastN dX10_rule_148 rfl (by decide) (by omega) ?_
      refine ex_aload_n (i := 0) dX10_rule_149 rfl rfl ?_
      refine ex_getR (v := .ref (58)) dX10_rule_150 fl_Model_13 rfl rfl (by decide) rfl ?_
      refine ex_iconst (v := nI 4) dX10_rule_153 (by decide) ?_
      refine ex_iload dX10_rule_154 rfl ?_
      refine ex_imulN dX10_rule_156 ?_
      refine ex_iload_n (i := 2) dX10_rule_157 rfl rfl ?_
      refine ex_iastN dX10_rule_158 rfl (by decide) (by omega) ?_
      refine ex_aload_n (i := 0) dX10_rule_159 rfl rfl ?_
      refine ex_getR (v := .ref (58)) dX10_rule_160 fl_Model_13 rfl rfl (by decide) rfl ?_
      refine ex_iconst (v := nI 4) dX10_rule_163 (by decide) ?_
      refine ex_iload dX10_rule_164 rfl ?_
      refine ex_imulN dX10_rule_166 ?_
      refine ex_iconst (v := nI 1) dX10_rule_167 (by decide) ?_
      refine ex_iaddN dX10_rule_168 ?_
      refine ex_iload_n (i := 3) dX10_rule_169 rfl rfl ?_
      refine ex_iastN dX10_rule_170 rfl (by decide) (by omega) ?_
      refine ex_aload_n (i := 0) dX10_rule_171 rfl rfl ?_
      refine ex_getR (v := .ref (58)) dX10_rule_172 fl_Model_13 rfl rfl (by decide) rfl ?_
      refine ex_iconst (v := nI 4) dX10_rule_175 (by decide) ?_
      refine ex_iload dX10_rule_176 rfl ?_
      refine ex_imulN dX10_rule_178 ?_
      refine ex_iconst (v := nI 2) dX10_rule_179 (by decide) ?_
      refine ex_iaddN dX10_rule_180 ?_
      refine ex_iload dX10_rule_181 rfl ?_
      refine ex_iastN dX10_rule_183 rfl (by decide) (by omega) ?_
      refine ex_aload_n (i := 0) dX10_rule_184 rfl rfl ?_
      refine ex_getR (v := .ref (58)) dX10_rule_185 fl_Model_13 rfl rfl (by decide) rfl ?_
      refine ex_iconst (v := nI 4) dX10_rule_188 (by decide) ?_
      refine ex_iload dX10_rule_189 rfl ?_
      refine ex_imulN dX10_rule_191 ?_
      refine ex_iconst (v := nI 3) dX10_rule_192 (by decide) ?_
      refine ex_iaddN dX10_rule_193 ?_
      refine ex_iload dX10_rule_194 rfl ?_
      refine ex_iastN dX10_rule_196 rfl (by decide) (by omega) ?_
      refine ex_aload_n (i := 0) dX10_rule_197 rfl rfl ?_
      refine ex_getR (v := .ref (59)) dX10_rule_198 fl_Model_16 rfl rfl (by decide) rfl ?_
      refine ex_iload dX10_rule_201 rfl ?_
      refine ex_iload_n (i := 2) dX10_rule_203 rfl rfl ?_
      refine ex_if_neN (tgt := 211) dX10_rule_204 (by decide) (by omega) (fun h204 => ?_) (fun h204 => by omega)
      refine ex_iload_n (i := 3) dX10_rule_211 rfl rfl ?_
      refine ex_if_neN (tgt := 219) dX10_rule_212 (by decide) (by omega) (fun h212 => ?_) (fun h212 => by omega)
      refine ex_iload dX10_rule_219 rfl ?_
      refine ex_if_neN (tgt := 228) dX10_rule_221 (by decide) (by omega) (fun h221 => ?_) (fun h221 => by omega)
      refine ex_iload dX10_rule_228 rfl ?_
      refine ex_if_neN (tgt := 237) dX10_rule_230 (by decide) (by omega) (fun h230 => ?_) (fun h230 => by omega)
      refine ex_iconst (v := nI 4) dX10_rule_237 (by decide) ?_
      refine ex_iastN dX10_rule_238 rfl (by decide) (by omega) ?_
      refine ex_aload_n (i := 0) dX10_rule_239 rfl rfl ?_
      refine ex_dup dX10_rule_240 rfl ?_
      refine ex_getI dX10_rule_241 fl_Model_145 rfl rfl (by decide) ?_
      refine ex_asI (y := (xU (xU i 56 45 (nI 0)) 56 45 (nI 0)) (56) (3)) (by first | rfl | simp [xU, upd]) ?_
      refine ex_asN (a := n) (e3b _ _) ?_
      refine ex_iconst (v := nI 1) dX10_rule_244 (by decide) ?_
      refine ex_iaddN dX10_rule_245 ?_
      refine ex_putI dX10_rule_246 fl_Model_145 cf_10 rfl (Or.inl rfl) rfl rfl rfl (by decide) ?_
      refine ex_aload_n (i := 0) dX10_rule_249 rfl rfl ?_
      refine ex_iconst (v := nI 0) dX10_rule_250 (by decide) ?_
      refine ex_putI dX10_rule_251 fl_Model_148 cf_10 rfl (Or.inl rfl) (by decide) (by decide) rfl (by decide) ?_
      refine ex_iload dX10_rule_254 rfl ?_
      refine ex_iret dX10_rule_256 rfl rfl ?_
      refine hQ (by omega) _ (((((((((Fm.rf.F (by decide)).F (by decide)).U (by decide) (by decide)).U (by decide) (by decide)).U (by decide) (by decide)).U (by decide) (by decide)).U (by decide) (by decide)).U (by decide) (by decide)).F (by decide) |>.F (by decide)) ?_ ?_ (RG_add rg (by omega) hz ?_ ?_ ?_ ?_)
      · simp [xU, upd]
      · simp [xU, upd]
      · simp [xU, upd]
      · simp [xU]
      · simp [xU]
      · rw [el]; simp [xU]
end S62
