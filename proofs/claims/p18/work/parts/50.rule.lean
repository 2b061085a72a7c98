/-! ===== the public methods: rule ===== -/
def rlX (l a b c d : Int32) : Prop := ¬ ntX l = 0 ∧ (a = 0 ∨ ¬ smX a = 0) ∧ ¬ mfX a b = 0 ∧ ¬ mfX b c = 0 ∧ ¬ mfX c d = 0
theorem mfX_b (x y : Int32) : mfX x y < 2 ^ 31 := by
  unfold mfX
  split
  · decide
  · split
    · decide
    · exact smX_b _
theorem mfX_c {x y : Int32} (h : ¬ mfX x y = 0) : y = 0 ∨ ¬ x = 0 ∧ ¬ smX y = 0 := by
  unfold mfX at h
  by_cases c : y = 0
  · exact Or.inl c
  · rw [if_neg c] at h
    by_cases c2 : x = 0
    · rw [if_pos c2] at h; exact absurd rfl h
    · rw [if_neg c2] at h; exact Or.inr ⟨c2, h⟩
theorem sym_n {x : Int32} (h : x = 0 ∨ ¬ smX x = 0) : ∃ k, x = nI k ∧ (k = 0 ∨ 1 ≤ k ∧ k ≤ 6 ∨ 8 ≤ k ∧ k ≤ 13) := by
  rcases h with h | h
  · exact ⟨0, h, Or.inl rfl⟩
  · obtain ⟨s, e, hs⟩ := smX_s h; exact ⟨s, e, Or.inr hs⟩
theorem rlX_z {l a b c d : Int32} (h : rlX l a b c d) : ∃ z, okZ z ∧ l = nI (z 0) ∧ a = nI (z 1) ∧ b = nI (z 2) ∧ c = nI (z 3) ∧ d = nI (z 4) := by
  obtain ⟨h0, h1, h2, h3, h4⟩ := h
  obtain ⟨l', rfl, l1, l2⟩ := ntX_s h0
  have g2 := mfX_c h2
  have g3 := mfX_c h3
  have g4 := mfX_c h4
  obtain ⟨a', rfl, ha⟩ := sym_n h1
  obtain ⟨b', rfl, hb⟩ := sym_n (x := b) (g2.imp id (fun z => z.2))
  obtain ⟨c', rfl, hc⟩ := sym_n (x := c) (g3.imp id (fun z => z.2))
  obtain ⟨d', rfl, hd⟩ := sym_n (x := d) (g4.imp id (fun z => z.2))
  have n0 : ∀ k, k < 2 ^ 31 → (nI k = 0 ↔ k = 0) := fun k hk => by rw [← nI_0]; exact nI_eq hk (by decide)
  have q2 : a' = 0 → b' = 0 := fun e => by
    rcases g2 with z | z
    · exact (n0 b' (by omega)).mp z
    · exact absurd ((n0 a' (by omega)).mpr e) z.1
  have q3 : b' = 0 → c' = 0 := fun e => by
    rcases g3 with z | z
    · exact (n0 c' (by omega)).mp z
    · exact absurd ((n0 b' (by omega)).mpr e) z.1
  have q4 : c' = 0 → d' = 0 := fun e => by
    rcases g4 with z | z
    · exact (n0 d' (by omega)).mp z
    · exact absurd ((n0 c' (by omega)).mpr e) z.1
  refine ⟨fun j => if j = 0 then l' else if j = 1 then a' else if j = 2 then b' else if j = 3 then c' else d', ⟨⟨l1, l2⟩, fun k k1 k5 => ?_, fun k k1 k4 e => ?_⟩, rfl, rfl, rfl, rfl, rfl⟩
  · rcases (show k = 1 ∨ k = 2 ∨ k = 3 ∨ k = 4 by omega) with rfl | rfl | rfl | rfl
    · exact ha
    · exact hb
    · exact hc
    · exact hd
  · rcases (show k = 1 ∨ k = 2 ∨ k = 3 by omega) with rfl | rfl | rfl
    · exact q2 e
    · exact q3 e
    · exact q4 e
section S50
variable {ζ g : Nat} {i : Nat → Nat → Int32} {q : Nat → Nat → Int64} {t : Bool} {Q : xRes → xMem → Prop} {n : Nat} {sy : Nat → Nat → Nat}
theorem sp_Works_rule {l a b c d : Int32} {f0 : Nat → Nat} (sc : SC i) (gs : GS i n sy) (hV : Vw i 9 14 f0) (hF : isF n sy f0) (hX1 : ¬ rlX l a b c d → Q (.error "java/lang/IllegalArgumentException") (56 + ζ, g + 1, i, q, RT t)) (hX2 : rlX l a b c d → 14 ≤ n → Q (.error "java/lang/IllegalStateException") (56 + ζ, g + 1, i, q, RT t))
    (hQ : ∀ z i1 f, okZ z → l = nI (z 0) → a = nI (z 1) → b = nI (z 2) → c = nI (z 3) → d = nI (z 4) → n < 14 → Fr [0, 1, 3, 9] i i1 → i1 0 7 = nI 0 → i1 0 8 = i 0 8 → i1 1 8 = i 1 8 → GS i1 (n + 1) (syA n sy z) → Vw i1 9 14 f → isF (n + 1) (syA n sy z) f → Q (.ok (some (.int (nI n)))) (56 + ζ, g, i1, q, RT t)) :
    Wx m_Works_rule 0 [some (.ref 0), some (.int l), some (.int a), some (.int b), some (.int c), some (.int d), none] [] (56 + ζ, g, i, q, RT t) (1, 6) Q := by
  have hn14 := gs.2.2.1
  by_cases r : rlX l a b c d
  · obtain ⟨z, hz, el, ea, eb, ec, ed⟩ := rlX_z r
    refine ex_iload_n (i := 1) dX9_rule_0 rfl rfl ?_
    refine ex_cS (ν := m_Works_isNonterminal) (as := [.int (l)]) dX9_rule_1 ln_Works_66 mf_Works_isNonterminal np_Works_isNonterminal rfl rfl ⟨(Nat.le_of_ble_eq_true rfl), (Nat.le_of_ble_eq_true rfl), (Nat.le_of_ble_eq_true rfl), (Nat.le_of_ble_eq_true rfl)⟩ (by decide) ?_
    refine sp_Works_isNonterminal_I ?_
    refine ⟨_, rfl, ?_⟩
    refine ex_if_neN (tgt := 17) dX9_rule_4 (by decide) (ntX_b _) (fun h4 => ?_) (fun h4 => by exact absurd h4 r.1)
    refine ex_iload_n (i := 2) dX9_rule_17 rfl rfl ?_
    refine ex_if_eq (tgt := 28) dX9_rule_18 (by decide) (fun h18 => ?_) (fun h18 => ?_)
    · refine ex_iload_n (i := 2) dX9_rule_28 rfl rfl ?_
      refine ex_iload_n (i := 3) dX9_rule_29 rfl rfl ?_
      refine ex_cS (ν := m_Works_mayFollow) (as := [.int (a), .int (b)]) dX9_rule_30 ln_Works_80 mf_Works_mayFollow np_Works_mayFollow rfl rfl ⟨(Nat.le_of_ble_eq_true rfl), (Nat.le_of_ble_eq_true rfl), (Nat.le_of_ble_eq_true rfl), (Nat.le_of_ble_eq_true rfl)⟩ (by decide) ?_
      refine sp_Works_mayFollow ?_
      refine ⟨_, rfl, ?_⟩
      refine ex_if_eqN (tgt := 59) dX9_rule_33 (by decide) (mfX_b _ _) (fun h33 => by exact absurd h33 r.2.2.1) (fun h33 => ?_)
      refine ex_iload_n (i := 3) dX9_rule_36 rfl rfl ?_
      refine ex_iload dX9_rule_37 rfl ?_
      refine ex_cS (ν := m_Works_mayFollow) (as := [.int (b), .int (c)]) dX9_rule_39 ln_Works_80 mf_Works_mayFollow np_Works_mayFollow rfl rfl ⟨(Nat.le_of_ble_eq_true rfl), (Nat.le_of_ble_eq_true rfl), (Nat.le_of_ble_eq_true rfl), (Nat.le_of_ble_eq_true rfl)⟩ (by decide) ?_
      refine sp_Works_mayFollow ?_
      refine ⟨_, rfl, ?_⟩
      refine ex_if_eqN (tgt := 59) dX9_rule_42 (by decide) (mfX_b _ _) (fun h42 => by exact absurd h42 r.2.2.2.1) (fun h42 => ?_)
      refine ex_iload dX9_rule_45 rfl ?_
      refine ex_iload dX9_rule_47 rfl ?_
      refine ex_cS (ν := m_Works_mayFollow) (as := [.int (c), .int (d)]) dX9_rule_49 ln_Works_80 mf_Works_mayFollow np_Works_mayFollow rfl rfl ⟨(Nat.le_of_ble_eq_true rfl), (Nat.le_of_ble_eq_true rfl), (Nat.le_of_ble_eq_true rfl), (Nat.le_of_ble_eq_true rfl)⟩ (by decide) ?_
      refine sp_Works_mayFollow ?_
      refine ⟨_, rfl, ?_⟩
      refine ex_if_eqN (tgt := 59) dX9_rule_52 (by decide) (mfX_b _ _) (fun h52 => by exact absurd h52 r.2.2.2.2) (fun h52 => ?_)
      refine ex_iconst (v := nI 1) dX9_rule_55 (by decide) ?_
      refine ex_goto (tgt := 60) dX9_rule_56 (by decide) ?_
      refine ex_istore (L' := [some (.ref (0)), some (.int (l)), some (.int (a)), some (.int (b)), some (.int (c)), some (.int (d)), some (.int (nI (1)))]) dX9_rule_60 (by decide) rfl ?_
      refine ex_iload dX9_rule_62 rfl ?_
      refine ex_if_neN (tgt := 77) dX9_rule_64 (by decide) (by omega) (fun h64 => ?_) (fun h64 => by exact absurd h64 (by decide))
      refine ex_aload_n (i := 0) dX9_rule_77 rfl rfl ?_
      refine ex_getR (v := .ref (1)) dX9_rule_78 fl_Works_12 rfl rfl (l56 (by decide)) rfl ?_
      refine ex_cV (ν := m_Grammar_size) (a := 1) (ci := 1) (as := []) dX9_rule_81 ln_Works_86 mf_Grammar_size rfl (l56 (by decide)) rfl rfl np_Grammar_size rfl rfl ⟨(Nat.le_of_ble_eq_true rfl), (Nat.le_of_ble_eq_true rfl), (Nat.le_of_ble_eq_true rfl), (Nat.le_of_ble_eq_true rfl)⟩ (by decide) ?_
      refine sp_Grammar_size ?_
      refine ⟨_, rfl, ?_⟩
      refine ex_asN (a := n) gs.1 ?_
      refine ex_bipush (v := nI 14) dX9_rule_84 (by decide) ?_
      refine ex_icmp_ltN (tgt := 99) dX9_rule_86 (by decide) (by omega) (by omega) (fun h86 => ?_) (fun h86 => ?_)
      · refine ex_aload_n (i := 0) dX9_rule_99 rfl rfl ?_
        refine ex_iconst (v := nI 0) dX9_rule_100 (by decide) ?_
        refine ex_putI dX9_rule_101 fl_Works_58 cf_9 rfl (Or.inl rfl) (by decide) (by decide) rfl (l56 (by decide)) ?_
        refine ex_aload_n (i := 0) dX9_rule_104 rfl rfl ?_
        refine ex_getR (v := .ref (1)) dX9_rule_105 fl_Works_12 rfl rfl (l56 (by decide)) rfl ?_
        refine ex_iload_n (i := 1) dX9_rule_108 rfl rfl ?_
        refine ex_iload_n (i := 2) dX9_rule_109 rfl rfl ?_
        refine ex_iload_n (i := 3) dX9_rule_110 rfl rfl ?_
        refine ex_iload dX9_rule_111 rfl ?_
        refine ex_iload dX9_rule_113 rfl ?_
        refine ex_cV (ν := m_Grammar_addRule) (a := 1) (ci := 1) (as := [.int (l), .int (a), .int (b), .int (c), .int (d)]) dX9_rule_115 ln_Works_95 mf_Grammar_addRule rfl (l56 (by decide)) rfl rfl np_Grammar_addRule rfl rfl ⟨(Nat.le_of_ble_eq_true rfl), (Nat.le_of_ble_eq_true rfl), (Nat.le_of_ble_eq_true rfl), (Nat.le_of_ble_eq_true rfl)⟩ (by decide) ?_
        rw [el, ea, eb, ec, ed]
        refine sp_Grammar_addRule (n := n) (sy := sy) (f0 := f0) (SC_U (by decide) sc) (gs.fr (l := [0]) (Fr.rf.U (by decide)) (by decide) (by decide)) (by omega) hz (hV.ne (by decide)) hF (fun i2 f g1 g2 g3 g4 g5 => ?_)
        refine ⟨_, rfl, ?_⟩
        refine ex_K0 ?_
        refine ex_iret dX9_rule_118 rfl rfl ?_
        refine hQ z i2 f hz el ea eb ec ed (by omega) (((Fr.rf (i := i)).U (by decide)).tr (g1.mono (by decide))) ?_ ?_ ?_ g3 g4 g5
        · rw [g1 0 (by decide), xU_at]; simp [upd]
        · rw [g1 0 (by decide), xU_at]; simp [upd]
        · rw [g2, xU_ne _ _ _ (show (1 : Nat) ≠ 0 by decide)]
      · refine ex_throw th_Works_rule_89 (by decide) ?_
        exact hX2 r (by omega)
    · refine ex_iload_n (i := 2) dX9_rule_21 rfl rfl ?_
      refine ex_cS (ν := m_Works_isSymbol) (as := [.int (a)]) dX9_rule_22 ln_Works_77 mf_Works_isSymbol np_Works_isSymbol rfl rfl ⟨(Nat.le_of_ble_eq_true rfl), (Nat.le_of_ble_eq_true rfl), (Nat.le_of_ble_eq_true rfl), (Nat.le_of_ble_eq_true rfl)⟩ (by decide) ?_
      refine sp_Works_isSymbol ?_
      refine ⟨_, rfl, ?_⟩
      refine ex_if_eqN (tgt := 59) dX9_rule_25 (by decide) (smX_b _) (fun h25 => by exact absurd h25 (r.2.1.resolve_left h18)) (fun h25 => ?_)
      refine ex_iload_n (i := 2) dX9_rule_28 rfl rfl ?_
      refine ex_iload_n (i := 3) dX9_rule_29 rfl rfl ?_
      refine ex_cS (ν := m_Works_mayFollow) (as := [.int (a), .int (b)]) dX9_rule_30 ln_Works_80 mf_Works_mayFollow np_Works_mayFollow rfl rfl ⟨(Nat.le_of_ble_eq_true rfl), (Nat.le_of_ble_eq_true rfl), (Nat.le_of_ble_eq_true rfl), (Nat.le_of_ble_eq_true rfl)⟩ (by decide) ?_
      refine sp_Works_mayFollow ?_
      refine ⟨_, rfl, ?_⟩
      refine ex_if_eqN (tgt := 59) dX9_rule_33 (by decide) (mfX_b _ _) (fun h33 => by exact absurd h33 r.2.2.1) (fun h33 => ?_)
      refine ex_iload_n (i := 3) dX9_rule_36 rfl rfl ?_
      refine ex_iload dX9_rule_37 rfl ?_
      refine ex_cS (ν := m_Works_mayFollow) (as := [.int (b), .int (c)]) dX9_rule_39 ln_Works_80 mf_Works_mayFollow np_Works_mayFollow rfl rfl ⟨(Nat.le_of_ble_eq_true rfl), (Nat.le_of_ble_eq_true rfl), (Nat.le_of_ble_eq_true rfl), (Nat.le_of_ble_eq_true rfl)⟩ (by decide) ?_
      refine sp_Works_mayFollow ?_
      refine ⟨_, rfl, ?_⟩
      refine ex_if_eqN (tgt := 59) dX9_rule_42 (by decide) (mfX_b _ _) (fun h42 => by exact absurd h42 r.2.2.2.1) (fun h42 => ?_)
      refine ex_iload dX9_rule_45 rfl ?_
      refine ex_iload dX9_rule_47 rfl ?_
      refine ex_cS (ν := m_Works_mayFollow) (as := [.int (c), .int (d)]) dX9_rule_49 ln_Works_80 mf_Works_mayFollow np_Works_mayFollow rfl rfl ⟨(Nat.le_of_ble_eq_true rfl), (Nat.le_of_ble_eq_true rfl), (Nat.le_of_ble_eq_true rfl), (Nat.le_of_ble_eq_true rfl)⟩ (by decide) ?_
      refine sp_Works_mayFollow ?_
      refine ⟨_, rfl, ?_⟩
      refine ex_if_eqN (tgt := 59) dX9_rule_52 (by decide) (mfX_b _ _) (fun h52 => by exact absurd h52 r.2.2.2.2) (fun h52 => ?_)
      refine ex_iconst (v := nI 1) dX9_rule_55 (by decide) ?_
      refine ex_goto (tgt := 60) dX9_rule_56 (by decide) ?_
      refine ex_istore (L' := [some (.ref (0)), some (.int (l)), some (.int (a)), some (.int (b)), some (.int (c)), some (.int (d)), some (.int (nI (1)))]) dX9_rule_60 (by decide) rfl ?_
      refine ex_iload dX9_rule_62 rfl ?_
      refine ex_if_neN (tgt := 77) dX9_rule_64 (by decide) (by omega) (fun h64 => ?_) (fun h64 => by exact absurd h64 (by decide))
      refine ex_aload_n (i := 0) dX9_rule_77 rfl rfl ?_
      refine ex_getR (v := .ref (1)) dX9_rule_78 fl_Works_12 rfl rfl (l56 (by decide)) rfl ?_
      refine ex_cV (ν := m_Grammar_size) (a := 1) (ci := 1) (as := []) dX9_rule_81 ln_Works_86 mf_Grammar_size rfl (l56 (by decide)) rfl rfl np_Grammar_size rfl rfl ⟨(Nat.le_of_ble_eq_true rfl), (Nat.le_of_ble_eq_true rfl), (Nat.le_of_ble_eq_true rfl), (Nat.le_of_ble_eq_true rfl)⟩ (by decide) ?_
      refine sp_Grammar_size ?_
      refine ⟨_, rfl, ?_⟩
      refine ex_asN (a := n) gs.1 ?_
      refine ex_bipush (v := nI 14) dX9_rule_84 (by decide) ?_
      refine ex_icmp_ltN (tgt := 99) dX9_rule_86 (by decide) (by omega) (by omega) (fun h86 => ?_) (fun h86 => ?_)
      · refine ex_aload_n (i := 0) dX9_rule_99 rfl rfl ?_
        refine ex_iconst (v := nI 0) dX9_rule_100 (by decide) ?_
        refine ex_putI dX9_rule_101 fl_Works_58 cf_9 rfl (Or.inl rfl) (by decide) (by decide) rfl (l56 (by decide)) ?_
        refine ex_aload_n (i := 0) dX9_rule_104 rfl rfl ?_
        refine ex_getR (v := .ref (1)) dX9_rule_105 fl_Works_12 rfl rfl (l56 (by decide)) rfl ?_
        refine ex_iload_n (i := 1) dX9_rule_108 rfl rfl ?_
        refine ex_iload_n (i := 2) dX9_rule_109 rfl rfl ?_
        refine ex_iload_n (i := 3) dX9_rule_110 rfl rfl ?_
        refine ex_iload dX9_rule_111 rfl ?_
        refine ex_iload dX9_rule_113 rfl ?_
        refine ex_cV (ν := m_Grammar_addRule) (a := 1) (ci := 1) (as := [.int (l), .int (a), .int (b), .int (c), .int (d)]) dX9_rule_115 ln_Works_95 mf_Grammar_addRule rfl (l56 (by decide)) rfl rfl np_Grammar_addRule rfl rfl ⟨(Nat.le_of_ble_eq_true rfl), (Nat.le_of_ble_eq_true rfl), (Nat.le_of_ble_eq_true rfl), (Nat.le_of_ble_eq_true rfl)⟩ (by decide) ?_
        rw [el, ea, eb, ec, ed]
        refine sp_Grammar_addRule (n := n) (sy := sy) (f0 := f0) (SC_U (by decide) sc) (gs.fr (l := [0]) (Fr.rf.U (by decide)) (by decide) (by decide)) (by omega) hz (hV.ne (by decide)) hF (fun i2 f g1 g2 g3 g4 g5 => ?_)
        refine ⟨_, rfl, ?_⟩
        refine ex_K0 ?_
        refine ex_iret dX9_rule_118 rfl rfl ?_
        refine hQ z i2 f hz el ea eb ec ed (by omega) (((Fr.rf (i := i)).U (by decide)).tr (g1.mono (by decide))) ?_ ?_ ?_ g3 g4 g5
        · rw [g1 0 (by decide), xU_at]; simp [upd]
        · rw [g1 0 (by decide), xU_at]; simp [upd]
        · rw [g2, xU_ne _ _ _ (show (1 : Nat) ≠ 0 by decide)]
      · refine ex_throw th_Works_rule_89 (by decide) ?_
        exact hX2 r (by omega)
  ·
    refine ex_iload_n (i := 1) dX9_rule_0 rfl rfl ?_
    refine ex_cS (ν := m_Works_isNonterminal) (as := [.int (l)]) dX9_rule_1 ln_Works_66 mf_Works_isNonterminal np_Works_isNonterminal rfl rfl ⟨(Nat.le_of_ble_eq_true rfl), (Nat.le_of_ble_eq_true rfl), (Nat.le_of_ble_eq_true rfl), (Nat.le_of_ble_eq_true rfl)⟩ (by decide) ?_
    refine sp_Works_isNonterminal_I ?_
    refine ⟨_, rfl, ?_⟩
    refine ex_if_neN (tgt := 17) dX9_rule_4 (by decide) (ntX_b _) (fun h4 => ?_) (fun h4 => ?_)
    · refine ex_iload_n (i := 2) dX9_rule_17 rfl rfl ?_
      refine ex_if_eq (tgt := 28) dX9_rule_18 (by decide) (fun h18 => ?_) (fun h18 => ?_)
      · refine ex_iload_n (i := 2) dX9_rule_28 rfl rfl ?_
        refine ex_iload_n (i := 3) dX9_rule_29 rfl rfl ?_
        refine ex_cS (ν := m_Works_mayFollow) (as := [.int (a), .int (b)]) dX9_rule_30 ln_Works_80 mf_Works_mayFollow np_Works_mayFollow rfl rfl ⟨(Nat.le_of_ble_eq_true rfl), (Nat.le_of_ble_eq_true rfl), (Nat.le_of_ble_eq_true rfl), (Nat.le_of_ble_eq_true rfl)⟩ (by decide) ?_
        refine sp_Works_mayFollow ?_
        refine ⟨_, rfl, ?_⟩
        refine ex_if_eqN (tgt := 59) dX9_rule_33 (by decide) (mfX_b _ _) (fun h33 => ?_) (fun h33 => ?_)
        · refine ex_iconst (v := nI 0) dX9_rule_59 (by decide) ?_
          refine ex_istore (L' := [some (.ref (0)), some (.int (l)), some (.int (a)), some (.int (b)), some (.int (c)), some (.int (d)), some (.int (nI (0)))]) dX9_rule_60 (by decide) rfl ?_
          refine ex_iload dX9_rule_62 rfl ?_
          refine ex_if_neN (tgt := 77) dX9_rule_64 (by decide) (by omega) (fun h64 => by exact absurd h64 (by decide)) (fun h64 => ?_)
          refine ex_throw th_Works_rule_67 (by decide) ?_
          exact hX1 r
        · refine ex_iload_n (i := 3) dX9_rule_36 rfl rfl ?_
          refine ex_iload dX9_rule_37 rfl ?_
          refine ex_cS (ν := m_Works_mayFollow) (as := [.int (b), .int (c)]) dX9_rule_39 ln_Works_80 mf_Works_mayFollow np_Works_mayFollow rfl rfl ⟨(Nat.le_of_ble_eq_true rfl), (Nat.le_of_ble_eq_true rfl), (Nat.le_of_ble_eq_true rfl), (Nat.le_of_ble_eq_true rfl)⟩ (by decide) ?_
          refine sp_Works_mayFollow ?_
          refine ⟨_, rfl, ?_⟩
          refine ex_if_eqN (tgt := 59) dX9_rule_42 (by decide) (mfX_b _ _) (fun h42 => ?_) (fun h42 => ?_)
          · refine ex_iconst (v := nI 0) dX9_rule_59 (by decide) ?_
            refine ex_istore (L' := [some (.ref (0)), some (.int (l)), some (.int (a)), some (.int (b)), some (.int (c)), some (.int (d)), some (.int (nI (0)))]) dX9_rule_60 (by decide) rfl ?_
            refine ex_iload dX9_rule_62 rfl ?_
            refine ex_if_neN (tgt := 77) dX9_rule_64 (by decide) (by omega) (fun h64 => by exact absurd h64 (by decide)) (fun h64 => ?_)
            refine ex_throw th_Works_rule_67 (by decide) ?_
            exact hX1 r
          · refine ex_iload dX9_rule_45 rfl ?_
            refine ex_iload dX9_rule_47 rfl ?_
            refine ex_cS (ν := m_Works_mayFollow) (as := [.int (c), .int (d)]) dX9_rule_49 ln_Works_80 mf_Works_mayFollow np_Works_mayFollow rfl rfl ⟨(Nat.le_of_ble_eq_true rfl), (Nat.le_of_ble_eq_true rfl), (Nat.le_of_ble_eq_true rfl), (Nat.le_of_ble_eq_true rfl)⟩ (by decide) ?_
            refine sp_Works_mayFollow ?_
            refine ⟨_, rfl, ?_⟩
            refine ex_if_eqN (tgt := 59) dX9_rule_52 (by decide) (mfX_b _ _) (fun h52 => ?_) (fun h52 => ?_)
            · refine ex_iconst (v := nI 0) dX9_rule_59 (by decide) ?_
              refine ex_istore (L' := [some (.ref (0)), some (.int (l)), some (.int (a)), some (.int (b)), some (.int (c)), some (.int (d)), some (.int (nI (0)))]) dX9_rule_60 (by decide) rfl ?_
              refine ex_iload dX9_rule_62 rfl ?_
              refine ex_if_neN (tgt := 77) dX9_rule_64 (by decide) (by omega) (fun h64 => by exact absurd h64 (by decide)) (fun h64 => ?_)
              refine ex_throw th_Works_rule_67 (by decide) ?_
              exact hX1 r
            · exact absurd ⟨h4, by first | exact Or.inl (by assumption) | exact Or.inr (by assumption), h33, h42, h52⟩ r
      · refine ex_iload_n (i := 2) dX9_rule_21 rfl rfl ?_
        refine ex_cS (ν := m_Works_isSymbol) (as := [.int (a)]) dX9_rule_22 ln_Works_77 mf_Works_isSymbol np_Works_isSymbol rfl rfl ⟨(Nat.le_of_ble_eq_true rfl), (Nat.le_of_ble_eq_true rfl), (Nat.le_of_ble_eq_true rfl), (Nat.le_of_ble_eq_true rfl)⟩ (by decide) ?_
        refine sp_Works_isSymbol ?_
        refine ⟨_, rfl, ?_⟩
        refine ex_if_eqN (tgt := 59) dX9_rule_25 (by decide) (smX_b _) (fun h25 => ?_) (fun h25 => ?_)
        · refine ex_iconst (v := nI 0) dX9_rule_59 (by decide) ?_
          refine ex_istore (L' := [some (.ref (0)), some (.int (l)), some (.int (a)), some (.int (b)), some (.int (c)), some (.int (d)), some (.int (nI (0)))]) dX9_rule_60 (by decide) rfl ?_
          refine ex_iload dX9_rule_62 rfl ?_
          refine ex_if_neN (tgt := 77) dX9_rule_64 (by decide) (by omega) (fun h64 => by exact absurd h64 (by decide)) (fun h64 => ?_)
          refine ex_throw th_Works_rule_67 (by decide) ?_
          exact hX1 r
        · refine ex_iload_n (i := 2) dX9_rule_28 rfl rfl ?_
          refine ex_iload_n (i := 3) dX9_rule_29 rfl rfl ?_
          refine ex_cS (ν := m_Works_mayFollow) (as := [.int (a), .int (b)]) dX9_rule_30 ln_Works_80 mf_Works_mayFollow np_Works_mayFollow rfl rfl ⟨(Nat.le_of_ble_eq_true rfl), (Nat.le_of_ble_eq_true rfl), (Nat.le_of_ble_eq_true rfl), (Nat.le_of_ble_eq_true rfl)⟩ (by decide) ?_
          refine sp_Works_mayFollow ?_
          refine ⟨_, rfl, ?_⟩
          refine ex_if_eqN (tgt := 59) dX9_rule_33 (by decide) (mfX_b _ _) (fun h33 => ?_) (fun h33 => ?_)
          · refine ex_iconst (v := nI 0) dX9_rule_59 (by decide) ?_
            refine ex_istore (L' := [some (.ref (0)), some (.int (l)), some (.int (a)), some (.int (b)), some (.int (c)), some (.int (d)), some (.int (nI (0)))]) dX9_rule_60 (by decide) rfl ?_
            refine ex_iload dX9_rule_62 rfl ?_
            refine ex_if_neN (tgt := 77) dX9_rule_64 (by decide) (by omega) (fun h64 => by exact absurd h64 (by decide)) (fun h64 => ?_)
            refine ex_throw th_Works_rule_67 (by decide) ?_
            exact hX1 r
          · refine ex_iload_n (i := 3) dX9_rule_36 rfl rfl ?_
            refine ex_iload dX9_rule_37 rfl ?_
            refine ex_cS (ν := m_Works_mayFollow) (as := [.int (b), .int (c)]) dX9_rule_39 ln_Works_80 mf_Works_mayFollow np_Works_mayFollow rfl rfl ⟨(Nat.le_of_ble_eq_true rfl), (Nat.le_of_ble_eq_true rfl), (Nat.le_of_ble_eq_true rfl), (Nat.le_of_ble_eq_true rfl)⟩ (by decide) ?_
            refine sp_Works_mayFollow ?_
            refine ⟨_, rfl, ?_⟩
            refine ex_if_eqN (tgt := 59) dX9_rule_42 (by decide) (mfX_b _ _) (fun h42 => ?_) (fun h42 => ?_)
            · refine ex_iconst (v := nI 0) dX9_rule_59 (by decide) ?_
              refine ex_istore (L' := [some (.ref (0)), some (.int (l)), some (.int (a)), some (.int (b)), some (.int (c)), some (.int (d)), some (.int (nI (0)))]) dX9_rule_60 (by decide) rfl ?_
              refine ex_iload dX9_rule_62 rfl ?_
              refine ex_if_neN (tgt := 77) dX9_rule_64 (by decide) (by omega) (fun h64 => by exact absurd h64 (by decide)) (fun h64 => ?_)
              refine ex_throw th_Works_rule_67 (by decide) ?_
              exact hX1 r
            · refine ex_iload dX9_rule_45 rfl ?_
              refine ex_iload dX9_rule_47 rfl ?_
              refine ex_cS (ν := m_Works_mayFollow) (as := [.int (c), .int (d)]) dX9_rule_49 ln_Works_80 mf_Works_mayFollow np_Works_mayFollow rfl rfl ⟨(Nat.le_of_ble_eq_true rfl), (Nat.le_of_ble_eq_true rfl), (Nat.le_of_ble_eq_true rfl), (Nat.le_of_ble_eq_true rfl)⟩ (by decide) ?_
              refine sp_Works_mayFollow ?_
              refine ⟨_, rfl, ?_⟩
              refine ex_if_eqN (tgt := 59) dX9_rule_52 (by decide) (mfX_b _ _) (fun h52 => ?_) (fun h52 => ?_)
              · refine ex_iconst (v := nI 0) dX9_rule_59 (by decide) ?_
                refine ex_istore (L' := [some (.ref (0)), some (.int (l)), some (.int (a)), some (.int (b)), some (.int (c)), some (.int (d)), some (.int (nI (0)))]) dX9_rule_60 (by decide) rfl ?_
                refine ex_iload dX9_rule_62 rfl ?_
                refine ex_if_neN (tgt := 77) dX9_rule_64 (by decide) (by omega) (fun h64 => by exact absurd h64 (by decide)) (fun h64 => ?_)
                refine ex_throw th_Works_rule_67 (by decide) ?_
                exact hX1 r
              · exact absurd ⟨h4, by first | exact Or.inl (by assumption) | exact Or.inr (by assumption), h33, h42, h52⟩ r
    · refine ex_throw th_Works_rule_7 (by decide) ?_
      exact hX1 r
end S50
