/-! ===== the public methods: equation, lookaheads ===== -/
/-- what is tested of an equation, its rule being there -/
def eqX (f : Nat → Nat) (c o x y : Int32) : Prop := ¬ dfX f c = 0 ∧ ∃ k, o = nI k ∧ k ≤ 7 ∧ (1 ≤ k → plX f x ≠ none) ∧ (2 ≤ k → plX f y ≠ none)
theorem dfX_b (f : Nat → Nat) (x : Int32) : dfX f x < 2 ^ 31 := by
  unfold dfX
  split
  · decide
  · split <;> decide
theorem dfX_p {f : Nat → Nat} {x : Int32} (h : ¬ dfX f x = 0) : ∃ p, plX f x = some p := by
  unfold dfX at h
  unfold plX
  by_cases c : x < 0
  · rw [if_pos c] at h; exact absurd rfl h
  · rw [if_neg c] at h ⊢
    cases hp : plS f x.toNatClampNeg with
    | some p => exact ⟨p, rfl⟩
    | none => rw [if_pos (Or.inl hp)] at h; exact absurd rfl h
section S52
variable {g : Nat} {i : Nat → Nat → Int32} {q : Nat → Nat → Int64} {t : Bool} {Q : xRes → xMem → Prop} {n : Nat} {sy : Nat → Nat → Nat} {op xp yp : Nat → Nat}
theorem sp_Grammar_hasRule_I {g : Nat} {x : Int32} (hn : i 1 7 = nI n) (hn2 : n ≤ 14) (h0 : (∀ s, x = nI s → s < n → False) → Q (.ok (some (.int (nI 0)))) (94, g, i, q, RT t)) (h1 : ∀ s, x = nI s → s < n → Q (.ok (some (.int (nI 1)))) (94, g, i, q, RT t)) : Wx m_Grammar_hasRule 0 [some (.ref 1), some (.int x)] [] (94, g, i, q, RT t) (0, 0) Q := by
  by_cases h : x < 0
  · exact sp_Grammar_hasRule_neg h (h0 (fun s e hs => nI_pos (n := s) (by omega) (e ▸ h)))
  · obtain ⟨c, hc, rfl⟩ := nI_of h
    refine sp_Grammar_hasRule hc hn hn2 ?_
    by_cases c1 : c < n
    · rw [if_pos c1]; exact h1 c rfl c1
    · rw [if_neg c1]; exact h0 (fun s e hs => c1 (by rw [(nI_eq hc (by omega)).mp e]; exact hs))
theorem sp_Works_equation {r c o x y : Int32} (sc : SC i) (gs : GS i n sy) (es : ES i op xp yp) (hX1 : (¬ ∃ a, r = nI a ∧ a < n) → Q (.error "java/util/NoSuchElementException") (94, g + 1, i, q, RT t)) (hX2 : ∀ a, r = nI a → a < n → ¬ eqX (sy a) c o x y → Q (.error "java/lang/IllegalArgumentException") (94, g + 1, i, q, RT t))
    (hQ : ∀ a p k X Y b, r = nI a → a < n → ¬ dfX (sy a) c = 0 → plX (sy a) c = some p → o = nI k → k ≤ 7 → (k = 0 → x = nI X) → (1 ≤ k → plX (sy a) x = some X) → (k < 2 → Y = 0) → (2 ≤ k → plX (sy a) y = some Y) → b = (if op (a * 15 + p) = 0 then 1 else 0) →
      Q (.ok (some (.int (nI b)))) (94, g, xU (xU (xU (if op (a * 15 + p) = 0 then xU (xU i 0 7 (nI 0)) 1 8 ((xU i 0 7 (nI 0)) 1 8 + nI 1) else (xU i 0 7 (nI 0))) 11 (a * 15 + p) (nI (k + 1))) 13 (a * 15 + p) (nI X)) 15 (a * 15 + p) (nI Y), q, RT t)) :
    Wx m_Works_equation 0 [some (.ref 0), some (.int r), some (.int c), some (.int o), some (.int x), some (.int y)] [] (94, g, i, q, RT t) (1, 6) Q := by
  have hn14 := gs.2.2.1
  have hb0 : Fr [0] i (xU i 0 7 (nI 0)) := Fr.rf.U (by decide)
  by_cases hr : ∃ a, r = nI a ∧ a < n
  · obtain ⟨a, rfl, ha⟩ := hr
    by_cases hd : dfX (sy a) c = 0
    ·
      refine ex_aload_n (i := 0) dX9_equation_0 rfl rfl ?_
      refine ex_getR (v := .ref (1)) dX9_equation_1 fl_Works_12 rfl rfl (by decide) rfl ?_
      refine ex_iload_n (i := 1) dX9_equation_4 rfl rfl ?_
      refine ex_cV (ν := m_Grammar_hasRule) (a := 1) (ci := 1) (as := [.int (nI (a))]) dX9_equation_5 ln_Works_116 mf_Grammar_hasRule rfl (Nat.le_of_ble_eq_true rfl) rfl rfl np_Grammar_hasRule rfl rfl ⟨(Nat.le_of_ble_eq_true rfl), (Nat.le_of_ble_eq_true rfl), (Nat.le_of_ble_eq_true rfl), (Nat.le_of_ble_eq_true rfl)⟩ (by decide) ?_
      refine sp_Grammar_hasRule (by omega) gs.1 hn14 ?_
      refine ⟨_, rfl, ?_⟩
      refine ex_asN (a := 1) (by rw [if_pos ha]) ?_
      refine ex_if_neN (tgt := 21) dX9_equation_8 (by decide) (by omega) (fun h8 => ?_) (fun h8 => by exact absurd h8 (by decide))
      refine ex_aload_n (i := 0) dX9_equation_21 rfl rfl ?_
      refine ex_getR (v := .ref (1)) dX9_equation_22 fl_Works_12 rfl rfl (by decide) rfl ?_
      refine ex_iload_n (i := 1) dX9_equation_25 rfl rfl ?_
      refine ex_iload_n (i := 2) dX9_equation_26 rfl rfl ?_
      refine ex_cV (ν := m_Grammar_isDefinable) (a := 1) (ci := 1) (as := [.int (nI (a)), .int (c)]) dX9_equation_27 ln_Works_124 mf_Grammar_isDefinable rfl (Nat.le_of_ble_eq_true rfl) rfl rfl np_Grammar_isDefinable rfl rfl ⟨(Nat.le_of_ble_eq_true rfl), (Nat.le_of_ble_eq_true rfl), (Nat.le_of_ble_eq_true rfl), (Nat.le_of_ble_eq_true rfl)⟩ (by decide) ?_
      refine sp_Grammar_isDefinable sc gs (by omega) ?_
      refine ⟨_, rfl, ?_⟩
      refine ex_if_neN (tgt := 43) dX9_equation_30 (by decide) (dfX_b _ _) (fun h30 => by exact absurd hd h30) (fun h30 => ?_)
      refine ex_throw th_Works_equation_33 (by decide) ?_
      exact hX2 a rfl ha (fun z => z.1 hd)
    · obtain ⟨p, hp⟩ := dfX_p hd
      by_cases ho : ∃ k, o = nI k ∧ k ≤ 7
      · obtain ⟨k, rfl, hk⟩ := ho
        have ho0 : ¬ (nI k : Int32) < 0 := nI_pos (by omega)
        by_cases k0 : k = 0
        · obtain ⟨X, rfl⟩ : ∃ X, x = nI X := nI_any x
          refine ex_aload_n (i := 0) dX9_equation_0 rfl rfl ?_
          refine ex_getR (v := .ref (1)) dX9_equation_1 fl_Works_12 rfl rfl (by decide) rfl ?_
          refine ex_iload_n (i := 1) dX9_equation_4 rfl rfl ?_
          refine ex_cV (ν := m_Grammar_hasRule) (a := 1) (ci := 1) (as := [.int (nI (a))]) dX9_equation_5 ln_Works_116 mf_Grammar_hasRule rfl (Nat.le_of_ble_eq_true rfl) rfl rfl np_Grammar_hasRule rfl rfl ⟨(Nat.le_of_ble_eq_true rfl), (Nat.le_of_ble_eq_true rfl), (Nat.le_of_ble_eq_true rfl), (Nat.le_of_ble_eq_true rfl)⟩ (by decide) ?_
          refine sp_Grammar_hasRule (by omega) gs.1 hn14 ?_
          refine ⟨_, rfl, ?_⟩
          refine ex_asN (a := 1) (by rw [if_pos ha]) ?_
          refine ex_if_neN (tgt := 21) dX9_equation_8 (by decide) (by omega) (fun h8 => ?_) (fun h8 => by exact absurd h8 (by decide))
          refine ex_aload_n (i := 0) dX9_equation_21 rfl rfl ?_
          refine ex_getR (v := .ref (1)) dX9_equation_22 fl_Works_12 rfl rfl (by decide) rfl ?_
          refine ex_iload_n (i := 1) dX9_equation_25 rfl rfl ?_
          refine ex_iload_n (i := 2) dX9_equation_26 rfl rfl ?_
          refine ex_cV (ν := m_Grammar_isDefinable) (a := 1) (ci := 1) (as := [.int (nI (a)), .int (c)]) dX9_equation_27 ln_Works_124 mf_Grammar_isDefinable rfl (Nat.le_of_ble_eq_true rfl) rfl rfl np_Grammar_isDefinable rfl rfl ⟨(Nat.le_of_ble_eq_true rfl), (Nat.le_of_ble_eq_true rfl), (Nat.le_of_ble_eq_true rfl), (Nat.le_of_ble_eq_true rfl)⟩ (by decide) ?_
          refine sp_Grammar_isDefinable sc gs (by omega) ?_
          refine ⟨_, rfl, ?_⟩
          refine ex_if_neN (tgt := 43) dX9_equation_30 (by decide) (dfX_b _ _) (fun h30 => ?_) (fun h30 => by exact absurd h30 hd)
          refine ex_iload_n (i := 3) dX9_equation_43 rfl rfl ?_
          refine ex_if_ltN (tgt := 53) dX9_equation_44 (by decide) (by omega) ?_
          refine ex_iload_n (i := 3) dX9_equation_47 rfl rfl ?_
          refine ex_bipush (v := nI 7) dX9_equation_48 (by decide) ?_
          refine ex_icmp_leN (tgt := 63) dX9_equation_50 (by decide) (by omega) (by omega) (fun h50 => ?_) (fun h50 => by omega)
          refine ex_iload_n (i := 3) dX9_equation_63 rfl rfl ?_
          refine ex_iconst (v := nI 1) dX9_equation_64 (by decide) ?_
          refine ex_icmp_ltN (tgt := 91) dX9_equation_65 (by decide) (by omega) (by omega) (fun h65 => ?_) (fun h65 => by omega)
          refine ex_iload_n (i := 3) dX9_equation_91 rfl rfl ?_
          refine ex_iconst (v := nI 2) dX9_equation_92 (by decide) ?_
          refine ex_icmp_ltN (tgt := 119) dX9_equation_93 (by decide) (by omega) (by omega) (fun h93 => ?_) (fun h93 => by omega)
          refine ex_aload_n (i := 0) dX9_equation_119 rfl rfl ?_
          refine ex_iconst (v := nI 0) dX9_equation_120 (by decide) ?_
          refine ex_putI dX9_equation_121 fl_Works_58 cf_9 rfl (Or.inl rfl) (by decide) (by decide) rfl (by decide) ?_
          refine ex_aload_n (i := 0) dX9_equation_124 rfl rfl ?_
          refine ex_getR (v := .ref (1)) dX9_equation_125 fl_Works_12 rfl rfl (by decide) rfl ?_
          refine ex_iload_n (i := 1) dX9_equation_128 rfl rfl ?_
          refine ex_iload_n (i := 2) dX9_equation_129 rfl rfl ?_
          refine ex_iload_n (i := 3) dX9_equation_130 rfl rfl ?_
          refine ex_iload dX9_equation_131 rfl ?_
          refine ex_iload dX9_equation_133 rfl ?_
          refine ex_cV (ν := m_Grammar_addEquation) (a := 1) (ci := 1) (as := [.int (nI (a)), .int (c), .int (nI (k)), .int ((nI X)), .int (y)]) dX9_equation_135 ln_Works_139 mf_Grammar_addEquation rfl (Nat.le_of_ble_eq_true rfl) rfl rfl np_Grammar_addEquation rfl rfl ⟨(Nat.le_of_ble_eq_true rfl), (Nat.le_of_ble_eq_true rfl), (Nat.le_of_ble_eq_true rfl), (Nat.le_of_ble_eq_true rfl)⟩ (by decide) ?_
          refine sp_Grammar_addEquation (p := p) (X := X) (Y := 0) (SC_U (by decide) sc) (gs.fr hb0 (by decide) (by decide)) (es.fr hb0 (by decide) (by decide) (by decide)) ha hp hk (fun _ => rfl) (fun z => by omega) (fun _ => rfl) (fun z => by omega) ?_
          refine ⟨_, rfl, ?_⟩
          refine ex_if_eqN (tgt := 145) dX9_equation_138 (by decide) (by split <;> decide) (fun h138 => ?_) (fun h138 => ?_)
          · refine ex_iconst (v := nI 0) dX9_equation_145 (by decide) ?_
            refine ex_K0 ?_
            refine ex_iret dX9_equation_146 rfl rfl ?_
            exact hQ a p k X 0 0 rfl ha hd hp rfl hk (fun _ => rfl) (fun z => by omega) (fun _ => rfl) (fun z => by omega) (by by_cases z : op (a * 15 + p) = 0 <;> simp [z] at h138 ⊢)
          · refine ex_iconst (v := nI 1) dX9_equation_141 (by decide) ?_
            refine ex_goto (tgt := 146) dX9_equation_142 (by decide) ?_
            refine ex_K0 ?_
            refine ex_iret dX9_equation_146 rfl rfl ?_
            exact hQ a p k X 0 1 rfl ha hd hp rfl hk (fun _ => rfl) (fun z => by omega) (fun _ => rfl) (fun z => by omega) (by by_cases z : op (a * 15 + p) = 0 <;> simp [z] at h138 ⊢)
        · by_cases hx : plX (sy a) x = none
          ·
            refine ex_aload_n (i := 0) dX9_equation_0 rfl rfl ?_
            refine ex_getR (v := .ref (1)) dX9_equation_1 fl_Works_12 rfl rfl (by decide) rfl ?_
            refine ex_iload_n (i := 1) dX9_equation_4 rfl rfl ?_
            refine ex_cV (ν := m_Grammar_hasRule) (a := 1) (ci := 1) (as := [.int (nI (a))]) dX9_equation_5 ln_Works_116 mf_Grammar_hasRule rfl (Nat.le_of_ble_eq_true rfl) rfl rfl np_Grammar_hasRule rfl rfl ⟨(Nat.le_of_ble_eq_true rfl), (Nat.le_of_ble_eq_true rfl), (Nat.le_of_ble_eq_true rfl), (Nat.le_of_ble_eq_true rfl)⟩ (by decide) ?_
            refine sp_Grammar_hasRule (by omega) gs.1 hn14 ?_
            refine ⟨_, rfl, ?_⟩
            refine ex_asN (a := 1) (by rw [if_pos ha]) ?_
            refine ex_if_neN (tgt := 21) dX9_equation_8 (by decide) (by omega) (fun h8 => ?_) (fun h8 => by exact absurd h8 (by decide))
            refine ex_aload_n (i := 0) dX9_equation_21 rfl rfl ?_
            refine ex_getR (v := .ref (1)) dX9_equation_22 fl_Works_12 rfl rfl (by decide) rfl ?_
            refine ex_iload_n (i := 1) dX9_equation_25 rfl rfl ?_
            refine ex_iload_n (i := 2) dX9_equation_26 rfl rfl ?_
            refine ex_cV (ν := m_Grammar_isDefinable) (a := 1) (ci := 1) (as := [.int (nI (a)), .int (c)]) dX9_equation_27 ln_Works_124 mf_Grammar_isDefinable rfl (Nat.le_of_ble_eq_true rfl) rfl rfl np_Grammar_isDefinable rfl rfl ⟨(Nat.le_of_ble_eq_true rfl), (Nat.le_of_ble_eq_true rfl), (Nat.le_of_ble_eq_true rfl), (Nat.le_of_ble_eq_true rfl)⟩ (by decide) ?_
            refine sp_Grammar_isDefinable sc gs (by omega) ?_
            refine ⟨_, rfl, ?_⟩
            refine ex_if_neN (tgt := 43) dX9_equation_30 (by decide) (dfX_b _ _) (fun h30 => ?_) (fun h30 => by exact absurd h30 hd)
            refine ex_iload_n (i := 3) dX9_equation_43 rfl rfl ?_
            refine ex_if_ltN (tgt := 53) dX9_equation_44 (by decide) (by omega) ?_
            refine ex_iload_n (i := 3) dX9_equation_47 rfl rfl ?_
            refine ex_bipush (v := nI 7) dX9_equation_48 (by decide) ?_
            refine ex_icmp_leN (tgt := 63) dX9_equation_50 (by decide) (by omega) (by omega) (fun h50 => ?_) (fun h50 => by omega)
            refine ex_iload_n (i := 3) dX9_equation_63 rfl rfl ?_
            refine ex_iconst (v := nI 1) dX9_equation_64 (by decide) ?_
            refine ex_icmp_ltN (tgt := 91) dX9_equation_65 (by decide) (by omega) (by omega) (fun h65 => by omega) (fun h65 => ?_)
            refine ex_aload_n (i := 0) dX9_equation_68 rfl rfl ?_
            refine ex_getR (v := .ref (1)) dX9_equation_69 fl_Works_12 rfl rfl (by decide) rfl ?_
            refine ex_iload_n (i := 1) dX9_equation_72 rfl rfl ?_
            refine ex_iload dX9_equation_73 rfl ?_
            refine ex_cV (ν := m_Grammar_placeOf) (a := 1) (ci := 1) (as := [.int (nI (a)), .int (x)]) dX9_equation_75 ln_Works_131 mf_Grammar_placeOf rfl (Nat.le_of_ble_eq_true rfl) rfl rfl np_Grammar_placeOf rfl rfl ⟨(Nat.le_of_ble_eq_true rfl), (Nat.le_of_ble_eq_true rfl), (Nat.le_of_ble_eq_true rfl), (Nat.le_of_ble_eq_true rfl)⟩ (by decide) ?_
            refine sp_Grammar_placeOf_I sc gs (by omega) ?_
            refine ⟨_, rfl, ?_⟩
            refine ex_asI (y := -1) (by rw [hx]; rfl) ?_
            refine ex_if_ge (tgt := 91) dX9_equation_78 (by decide) (fun h78 => by exact absurd h78 (by decide)) (fun h78 => ?_)
            refine ex_throw th_Works_equation_81 (by decide) ?_
            exact hX2 a rfl ha (fun z => by obtain ⟨_, k2, e, _, z2, _⟩ := z; exact z2 (by rw [← (nI_eq (by omega) (by omega)).mp e]; omega) hx)
          · obtain ⟨X, hX⟩ := Option.ne_none_iff_exists'.mp hx
            have hXl := (plX_lt hX).1
            by_cases k1 : k = 1
            ·
              refine ex_aload_n (i := 0) dX9_equation_0 rfl rfl ?_
              refine ex_getR (v := .ref (1)) dX9_equation_1 fl_Works_12 rfl rfl (by decide) rfl ?_
              refine ex_iload_n (i := 1) dX9_equation_4 rfl rfl ?_
              refine ex_cV (ν := m_Grammar_hasRule) (a := 1) (ci := 1) (as := [.int (nI (a))]) dX9_equation_5 ln_Works_116 mf_Grammar_hasRule rfl (Nat.le_of_ble_eq_true rfl) rfl rfl np_Grammar_hasRule rfl rfl ⟨(Nat.le_of_ble_eq_true rfl), (Nat.le_of_ble_eq_true rfl), (Nat.le_of_ble_eq_true rfl), (Nat.le_of_ble_eq_true rfl)⟩ (by decide) ?_
              refine sp_Grammar_hasRule (by omega) gs.1 hn14 ?_
              refine ⟨_, rfl, ?_⟩
              refine ex_asN (a := 1) (by rw [if_pos ha]) ?_
              refine ex_if_neN (tgt := 21) dX9_equation_8 (by decide) (by omega) (fun h8 => ?_) (fun h8 => by exact absurd h8 (by decide))
              refine ex_aload_n (i := 0) dX9_equation_21 rfl rfl ?_
              refine ex_getR (v := .ref (1)) dX9_equation_22 fl_Works_12 rfl rfl (by decide) rfl ?_
              refine ex_iload_n (i := 1) dX9_equation_25 rfl rfl ?_
              refine ex_iload_n (i := 2) dX9_equation_26 rfl rfl ?_
              refine ex_cV (ν := m_Grammar_isDefinable) (a := 1) (ci := 1) (as := [.int (nI (a)), .int (c)]) dX9_equation_27 ln_Works_124 mf_Grammar_isDefinable rfl (Nat.le_of_ble_eq_true rfl) rfl rfl np_Grammar_isDefinable rfl rfl ⟨(Nat.le_of_ble_eq_true rfl), (Nat.le_of_ble_eq_true rfl), (Nat.le_of_ble_eq_true rfl), (Nat.le_of_ble_eq_true rfl)⟩ (by decide) ?_
              refine sp_Grammar_isDefinable sc gs (by omega) ?_
              refine ⟨_, rfl, ?_⟩
              refine ex_if_neN (tgt := 43) dX9_equation_30 (by decide) (dfX_b _ _) (fun h30 => ?_) (fun h30 => by exact absurd h30 hd)
              refine ex_iload_n (i := 3) dX9_equation_43 rfl rfl ?_
              refine ex_if_ltN (tgt := 53) dX9_equation_44 (by decide) (by omega) ?_
              refine ex_iload_n (i := 3) dX9_equation_47 rfl rfl ?_
              refine ex_bipush (v := nI 7) dX9_equation_48 (by decide) ?_
              refine ex_icmp_leN (tgt := 63) dX9_equation_50 (by decide) (by omega) (by omega) (fun h50 => ?_) (fun h50 => by omega)
              refine ex_iload_n (i := 3) dX9_equation_63 rfl rfl ?_
              refine ex_iconst (v := nI 1) dX9_equation_64 (by decide) ?_
              refine ex_icmp_ltN (tgt := 91) dX9_equation_65 (by decide) (by omega) (by omega) (fun h65 => by omega) (fun h65 => ?_)
              refine ex_aload_n (i := 0) dX9_equation_68 rfl rfl ?_
              refine ex_getR (v := .ref (1)) dX9_equation_69 fl_Works_12 rfl rfl (by decide) rfl ?_
              refine ex_iload_n (i := 1) dX9_equation_72 rfl rfl ?_
              refine ex_iload dX9_equation_73 rfl ?_
              refine ex_cV (ν := m_Grammar_placeOf) (a := 1) (ci := 1) (as := [.int (nI (a)), .int (x)]) dX9_equation_75 ln_Works_131 mf_Grammar_placeOf rfl (Nat.le_of_ble_eq_true rfl) rfl rfl np_Grammar_placeOf rfl rfl ⟨(Nat.le_of_ble_eq_true rfl), (Nat.le_of_ble_eq_true rfl), (Nat.le_of_ble_eq_true rfl), (Nat.le_of_ble_eq_true rfl)⟩ (by decide) ?_
              refine sp_Grammar_placeOf_I sc gs (by omega) ?_
              refine ⟨_, rfl, ?_⟩
              refine ex_asN (a := X) (by rw [hX]; rfl) ?_
              refine ex_if_geN (tgt := 91) dX9_equation_78 (by decide) (by omega) ?_
              refine ex_iload_n (i := 3) dX9_equation_91 rfl rfl ?_
              refine ex_iconst (v := nI 2) dX9_equation_92 (by decide) ?_
              refine ex_icmp_ltN (tgt := 119) dX9_equation_93 (by decide) (by omega) (by omega) (fun h93 => ?_) (fun h93 => by omega)
              refine ex_aload_n (i := 0) dX9_equation_119 rfl rfl ?_
              refine ex_iconst (v := nI 0) dX9_equation_120 (by decide) ?_
              refine ex_putI dX9_equation_121 fl_Works_58 cf_9 rfl (Or.inl rfl) (by decide) (by decide) rfl (by decide) ?_
              refine ex_aload_n (i := 0) dX9_equation_124 rfl rfl ?_
              refine ex_getR (v := .ref (1)) dX9_equation_125 fl_Works_12 rfl rfl (by decide) rfl ?_
              refine ex_iload_n (i := 1) dX9_equation_128 rfl rfl ?_
              refine ex_iload_n (i := 2) dX9_equation_129 rfl rfl ?_
              refine ex_iload_n (i := 3) dX9_equation_130 rfl rfl ?_
              refine ex_iload dX9_equation_131 rfl ?_
              refine ex_iload dX9_equation_133 rfl ?_
              refine ex_cV (ν := m_Grammar_addEquation) (a := 1) (ci := 1) (as := [.int (nI (a)), .int (c), .int (nI (k)), .int (x), .int (y)]) dX9_equation_135 ln_Works_139 mf_Grammar_addEquation rfl (Nat.le_of_ble_eq_true rfl) rfl rfl np_Grammar_addEquation rfl rfl ⟨(Nat.le_of_ble_eq_true rfl), (Nat.le_of_ble_eq_true rfl), (Nat.le_of_ble_eq_true rfl), (Nat.le_of_ble_eq_true rfl)⟩ (by decide) ?_
              refine sp_Grammar_addEquation (p := p) (X := X) (Y := 0) (SC_U (by decide) sc) (gs.fr hb0 (by decide) (by decide)) (es.fr hb0 (by decide) (by decide) (by decide)) ha hp hk (fun z => by omega) (fun _ => hX) (fun _ => rfl) (fun z => by omega) ?_
              refine ⟨_, rfl, ?_⟩
              refine ex_if_eqN (tgt := 145) dX9_equation_138 (by decide) (by split <;> decide) (fun h138 => ?_) (fun h138 => ?_)
              · refine ex_iconst (v := nI 0) dX9_equation_145 (by decide) ?_
                refine ex_K0 ?_
                refine ex_iret dX9_equation_146 rfl rfl ?_
                exact hQ a p k X 0 0 rfl ha hd hp rfl hk (fun z => by omega) (fun _ => hX) (fun _ => rfl) (fun z => by omega) (by by_cases z : op (a * 15 + p) = 0 <;> simp [z] at h138 ⊢)
              · refine ex_iconst (v := nI 1) dX9_equation_141 (by decide) ?_
                refine ex_goto (tgt := 146) dX9_equation_142 (by decide) ?_
                refine ex_K0 ?_
                refine ex_iret dX9_equation_146 rfl rfl ?_
                exact hQ a p k X 0 1 rfl ha hd hp rfl hk (fun z => by omega) (fun _ => hX) (fun _ => rfl) (fun z => by omega) (by by_cases z : op (a * 15 + p) = 0 <;> simp [z] at h138 ⊢)
            · by_cases hy : plX (sy a) y = none
              ·
                refine ex_aload_n (i := 0) dX9_equation_0 rfl rfl ?_
                refine ex_getR (v := .ref (1)) dX9_equation_1 fl_Works_12 rfl rfl (by decide) rfl ?_
                refine ex_iload_n (i := 1) dX9_equation_4 rfl rfl ?_
                refine ex_cV (ν := m_Grammar_hasRule) (a := 1) (ci := 1) (as := [.int (nI (a))]) dX9_equation_5 ln_Works_116 mf_Grammar_hasRule rfl (Nat.le_of_ble_eq_true rfl) rfl rfl np_Grammar_hasRule rfl rfl ⟨(Nat.le_of_ble_eq_true rfl), (Nat.le_of_ble_eq_true rfl), (Nat.le_of_ble_eq_true rfl), (Nat.le_of_ble_eq_true rfl)⟩ (by decide) ?_
                refine sp_Grammar_hasRule (by omega) gs.1 hn14 ?_
                refine ⟨_, rfl, ?_⟩
                refine ex_asN (a := 1) (by rw [if_pos ha]) ?_
                refine ex_if_neN (tgt := 21) dX9_equation_8 (by decide) (by omega) (fun h8 => ?_) (fun h8 => by exact absurd h8 (by decide))
                refine ex_aload_n (i := 0) dX9_equation_21 rfl rfl ?_
                refine ex_getR (v := .ref (1)) dX9_equation_22 fl_Works_12 rfl rfl (by decide) rfl ?_
                refine ex_iload_n (i := 1) dX9_equation_25 rfl rfl ?_
                refine ex_iload_n (i := 2) dX9_equation_26 rfl rfl ?_
                refine ex_cV (ν := m_Grammar_isDefinable) (a := 1) (ci := 1) (as := [.int (nI (a)), .int (c)]) dX9_equation_27 ln_Works_124 mf_Grammar_isDefinable rfl (Nat.le_of_ble_eq_true rfl) rfl rfl np_Grammar_isDefinable rfl rfl ⟨(Nat.le_of_ble_eq_true rfl), (Nat.le_of_ble_eq_true rfl), (Nat.le_of_ble_eq_true rfl), (Nat.le_of_ble_eq_true rfl)⟩ (by decide) ?_
                refine sp_Grammar_isDefinable sc gs (by omega) ?_
                refine ⟨_, rfl, ?_⟩
                refine ex_if_neN (tgt := 43) dX9_equation_30 (by decide) (dfX_b _ _) (fun h30 => ?_) (fun h30 => by exact absurd h30 hd)
                refine ex_iload_n (i := 3) dX9_equation_43 rfl rfl ?_
                refine ex_if_ltN (tgt := 53) dX9_equation_44 (by decide) (by omega) ?_
                refine ex_iload_n (i := 3) dX9_equation_47 rfl rfl ?_
                refine ex_bipush (v := nI 7) dX9_equation_48 (by decide) ?_
                refine ex_icmp_leN (tgt := 63) dX9_equation_50 (by decide) (by omega) (by omega) (fun h50 => ?_) (fun h50 => by omega)
                refine ex_iload_n (i := 3) dX9_equation_63 rfl rfl ?_
                refine ex_iconst (v := nI 1) dX9_equation_64 (by decide) ?_
                refine ex_icmp_ltN (tgt := 91) dX9_equation_65 (by decide) (by omega) (by omega) (fun h65 => by omega) (fun h65 => ?_)
                refine ex_aload_n (i := 0) dX9_equation_68 rfl rfl ?_
                refine ex_getR (v := .ref (1)) dX9_equation_69 fl_Works_12 rfl rfl (by decide) rfl ?_
                refine ex_iload_n (i := 1) dX9_equation_72 rfl rfl ?_
                refine ex_iload dX9_equation_73 rfl ?_
                refine ex_cV (ν := m_Grammar_placeOf) (a := 1) (ci := 1) (as := [.int (nI (a)), .int (x)]) dX9_equation_75 ln_Works_131 mf_Grammar_placeOf rfl (Nat.le_of_ble_eq_true rfl) rfl rfl np_Grammar_placeOf rfl rfl ⟨(Nat.le_of_ble_eq_true rfl), (Nat.le_of_ble_eq_true rfl), (Nat.le_of_ble_eq_true rfl), (Nat.le_of_ble_eq_true rfl)⟩ (by decide) ?_
                refine sp_Grammar_placeOf_I sc gs (by omega) ?_
                refine ⟨_, rfl, ?_⟩
                refine ex_asN (a := X) (by rw [hX]; rfl) ?_
                refine ex_if_geN (tgt := 91) dX9_equation_78 (by decide) (by omega) ?_
                refine ex_iload_n (i := 3) dX9_equation_91 rfl rfl ?_
                refine ex_iconst (v := nI 2) dX9_equation_92 (by decide) ?_
                refine ex_icmp_ltN (tgt := 119) dX9_equation_93 (by decide) (by omega) (by omega) (fun h93 => by omega) (fun h93 => ?_)
                refine ex_aload_n (i := 0) dX9_equation_96 rfl rfl ?_
                refine ex_getR (v := .ref (1)) dX9_equation_97 fl_Works_12 rfl rfl (by decide) rfl ?_
                refine ex_iload_n (i := 1) dX9_equation_100 rfl rfl ?_
                refine ex_iload dX9_equation_101 rfl ?_
                refine ex_cV (ν := m_Grammar_placeOf) (a := 1) (ci := 1) (as := [.int (nI (a)), .int (y)]) dX9_equation_103 ln_Works_131 mf_Grammar_placeOf rfl (Nat.le_of_ble_eq_true rfl) rfl rfl np_Grammar_placeOf rfl rfl ⟨(Nat.le_of_ble_eq_true rfl), (Nat.le_of_ble_eq_true rfl), (Nat.le_of_ble_eq_true rfl), (Nat.le_of_ble_eq_true rfl)⟩ (by decide) ?_
                refine sp_Grammar_placeOf_I sc gs (by omega) ?_
                refine ⟨_, rfl, ?_⟩
                refine ex_asI (y := -1) (by rw [hy]; rfl) ?_
                refine ex_if_ge (tgt := 119) dX9_equation_106 (by decide) (fun h106 => by exact absurd h106 (by decide)) (fun h106 => ?_)
                refine ex_throw th_Works_equation_109 (by decide) ?_
                exact hX2 a rfl ha (fun z => by obtain ⟨_, k2, e, _, _, z2⟩ := z; exact z2 (by rw [← (nI_eq (by omega) (by omega)).mp e]; omega) hy)
              · obtain ⟨Y, hY⟩ := Option.ne_none_iff_exists'.mp hy
                have hYl := (plX_lt hY).1
                refine ex_aload_n (i := 0) dX9_equation_0 rfl rfl ?_
                refine ex_getR (v := .ref (1)) dX9_equation_1 fl_Works_12 rfl rfl (by decide) rfl ?_
                refine ex_iload_n (i := 1) dX9_equation_4 rfl rfl ?_
                refine ex_cV (ν := m_Grammar_hasRule) (a := 1) (ci := 1) (as := [.int (nI (a))]) dX9_equation_5 ln_Works_116 mf_Grammar_hasRule rfl (Nat.le_of_ble_eq_true rfl) rfl rfl np_Grammar_hasRule rfl rfl ⟨(Nat.le_of_ble_eq_true rfl), (Nat.le_of_ble_eq_true rfl), (Nat.le_of_ble_eq_true rfl), (Nat.le_of_ble_eq_true rfl)⟩ (by decide) ?_
                refine sp_Grammar_hasRule (by omega) gs.1 hn14 ?_
                refine ⟨_, rfl, ?_⟩
                refine ex_asN (a := 1) (by rw [if_pos ha]) ?_
                refine ex_if_neN (tgt := 21) dX9_equation_8 (by decide) (by omega) (fun h8 => ?_) (fun h8 => by exact absurd h8 (by decide))
                refine ex_aload_n (i := 0) dX9_equation_21 rfl rfl ?_
                refine ex_getR (v := .ref (1)) dX9_equation_22 fl_Works_12 rfl rfl (by decide) rfl ?_
                refine ex_iload_n (i := 1) dX9_equation_25 rfl rfl ?_
                refine ex_iload_n (i := 2) dX9_equation_26 rfl rfl ?_
                refine ex_cV (ν := m_Grammar_isDefinable) (a := 1) (ci := 1) (as := [.int (nI (a)), .int (c)]) dX9_equation_27 ln_Works_124 mf_Grammar_isDefinable rfl (Nat.le_of_ble_eq_true rfl) rfl rfl np_Grammar_isDefinable rfl rfl ⟨(Nat.le_of_ble_eq_true rfl), (Nat.le_of_ble_eq_true rfl), (Nat.le_of_ble_eq_true rfl), (Nat.le_of_ble_eq_true rfl)⟩ (by decide) ?_
                refine sp_Grammar_isDefinable sc gs (by omega) ?_
                refine ⟨_, rfl, ?_⟩
                refine ex_if_neN (tgt := 43) dX9_equation_30 (by decide) (dfX_b _ _) (fun h30 => ?_) (fun h30 => by exact absurd h30 hd)
                refine ex_iload_n (i := 3) dX9_equation_43 rfl rfl ?_
                refine ex_if_ltN (tgt := 53) dX9_equation_44 (by decide) (by omega) ?_
                refine ex_iload_n (i := 3) dX9_equation_47 rfl rfl ?_
                refine ex_bipush (v := nI 7) dX9_equation_48 (by decide) ?_
                refine ex_icmp_leN (tgt := 63) dX9_equation_50 (by decide) (by omega) (by omega) (fun h50 => ?_) (fun h50 => by omega)
                refine ex_iload_n (i := 3) dX9_equation_63 rfl rfl ?_
                refine ex_iconst (v := nI 1) dX9_equation_64 (by decide) ?_
                refine ex_icmp_ltN (tgt := 91) dX9_equation_65 (by decide) (by omega) (by omega) (fun h65 => by omega) (fun h65 => ?_)
                refine ex_aload_n (i := 0) dX9_equation_68 rfl rfl ?_
                refine ex_getR (v := .ref (1)) dX9_equation_69 fl_Works_12 rfl rfl (by decide) rfl ?_
                refine ex_iload_n (i := 1) dX9_equation_72 rfl rfl ?_
                refine ex_iload dX9_equation_73 rfl ?_
                refine ex_cV (ν := m_Grammar_placeOf) (a := 1) (ci := 1) (as := [.int (nI (a)), .int (x)]) dX9_equation_75 ln_Works_131 mf_Grammar_placeOf rfl (Nat.le_of_ble_eq_true rfl) rfl rfl np_Grammar_placeOf rfl rfl ⟨(Nat.le_of_ble_eq_true rfl), (Nat.le_of_ble_eq_true rfl), (Nat.le_of_ble_eq_true rfl), (Nat.le_of_ble_eq_true rfl)⟩ (by decide) ?_
                refine sp_Grammar_placeOf_I sc gs (by omega) ?_
                refine ⟨_, rfl, ?_⟩
                refine ex_asN (a := X) (by rw [hX]; rfl) ?_
                refine ex_if_geN (tgt := 91) dX9_equation_78 (by decide) (by omega) ?_
                refine ex_iload_n (i := 3) dX9_equation_91 rfl rfl ?_
                refine ex_iconst (v := nI 2) dX9_equation_92 (by decide) ?_
                refine ex_icmp_ltN (tgt := 119) dX9_equation_93 (by decide) (by omega) (by omega) (fun h93 => by omega) (fun h93 => ?_)
                refine ex_aload_n (i := 0) dX9_equation_96 rfl rfl ?_
                refine ex_getR (v := .ref (1)) dX9_equation_97 fl_Works_12 rfl rfl (by decide) rfl ?_
                refine ex_iload_n (i := 1) dX9_equation_100 rfl rfl ?_
                refine ex_iload dX9_equation_101 rfl ?_
                refine ex_cV (ν := m_Grammar_placeOf) (a := 1) (ci := 1) (as := [.int (nI (a)), .int (y)]) dX9_equation_103 ln_Works_131 mf_Grammar_placeOf rfl (Nat.le_of_ble_eq_true rfl) rfl rfl np_Grammar_placeOf rfl rfl ⟨(Nat.le_of_ble_eq_true rfl), (Nat.le_of_ble_eq_true rfl), (Nat.le_of_ble_eq_true rfl), (Nat.le_of_ble_eq_true rfl)⟩ (by decide) ?_
                refine sp_Grammar_placeOf_I sc gs (by omega) ?_
                refine ⟨_, rfl, ?_⟩
                refine ex_asN (a := Y) (by rw [hY]; rfl) ?_
                refine ex_if_geN (tgt := 119) dX9_equation_106 (by decide) (by omega) ?_
                refine ex_aload_n (i := 0) dX9_equation_119 rfl rfl ?_
                refine ex_iconst (v := nI 0) dX9_equation_120 (by decide) ?_
                refine ex_putI dX9_equation_121 fl_Works_58 cf_9 rfl (Or.inl rfl) (by decide) (by decide) rfl (by decide) ?_
                refine ex_aload_n (i := 0) dX9_equation_124 rfl rfl ?_
                refine ex_getR (v := .ref (1)) dX9_equation_125 fl_Works_12 rfl rfl (by decide) rfl ?_
                refine ex_iload_n (i := 1) dX9_equation_128 rfl rfl ?_
                refine ex_iload_n (i := 2) dX9_equation_129 rfl rfl ?_
                refine ex_iload_n (i := 3) dX9_equation_130 rfl rfl ?_
                refine ex_iload dX9_equation_131 rfl ?_
                refine ex_iload dX9_equation_133 rfl ?_
                refine ex_cV (ν := m_Grammar_addEquation) (a := 1) (ci := 1) (as := [.int (nI (a)), .int (c), .int (nI (k)), .int (x), .int (y)]) dX9_equation_135 ln_Works_139 mf_Grammar_addEquation rfl (Nat.le_of_ble_eq_true rfl) rfl rfl np_Grammar_addEquation rfl rfl ⟨(Nat.le_of_ble_eq_true rfl), (Nat.le_of_ble_eq_true rfl), (Nat.le_of_ble_eq_true rfl), (Nat.le_of_ble_eq_true rfl)⟩ (by decide) ?_
                refine sp_Grammar_addEquation (p := p) (X := X) (Y := Y) (SC_U (by decide) sc) (gs.fr hb0 (by decide) (by decide)) (es.fr hb0 (by decide) (by decide) (by decide)) ha hp hk (fun z => by omega) (fun _ => hX) (fun z => by omega) (fun _ => hY) ?_
                refine ⟨_, rfl, ?_⟩
                refine ex_if_eqN (tgt := 145) dX9_equation_138 (by decide) (by split <;> decide) (fun h138 => ?_) (fun h138 => ?_)
                · refine ex_iconst (v := nI 0) dX9_equation_145 (by decide) ?_
                  refine ex_K0 ?_
                  refine ex_iret dX9_equation_146 rfl rfl ?_
                  exact hQ a p k X Y 0 rfl ha hd hp rfl hk (fun z => by omega) (fun _ => hX) (fun z => by omega) (fun _ => hY) (by by_cases z : op (a * 15 + p) = 0 <;> simp [z] at h138 ⊢)
                · refine ex_iconst (v := nI 1) dX9_equation_141 (by decide) ?_
                  refine ex_goto (tgt := 146) dX9_equation_142 (by decide) ?_
                  refine ex_K0 ?_
                  refine ex_iret dX9_equation_146 rfl rfl ?_
                  exact hQ a p k X Y 1 rfl ha hd hp rfl hk (fun z => by omega) (fun _ => hX) (fun z => by omega) (fun _ => hY) (by by_cases z : op (a * 15 + p) = 0 <;> simp [z] at h138 ⊢)
      · by_cases on : o < 0
        ·
          refine ex_aload_n (i := 0) dX9_equation_0 rfl rfl ?_
          refine ex_getR (v := .ref (1)) dX9_equation_1 fl_Works_12 rfl rfl (by decide) rfl ?_
          refine ex_iload_n (i := 1) dX9_equation_4 rfl rfl ?_
          refine ex_cV (ν := m_Grammar_hasRule) (a := 1) (ci := 1) (as := [.int (nI (a))]) dX9_equation_5 ln_Works_116 mf_Grammar_hasRule rfl (Nat.le_of_ble_eq_true rfl) rfl rfl np_Grammar_hasRule rfl rfl ⟨(Nat.le_of_ble_eq_true rfl), (Nat.le_of_ble_eq_true rfl), (Nat.le_of_ble_eq_true rfl), (Nat.le_of_ble_eq_true rfl)⟩ (by decide) ?_
          refine sp_Grammar_hasRule (by omega) gs.1 hn14 ?_
          refine ⟨_, rfl, ?_⟩
          refine ex_asN (a := 1) (by rw [if_pos ha]) ?_
          refine ex_if_neN (tgt := 21) dX9_equation_8 (by decide) (by omega) (fun h8 => ?_) (fun h8 => by exact absurd h8 (by decide))
          refine ex_aload_n (i := 0) dX9_equation_21 rfl rfl ?_
          refine ex_getR (v := .ref (1)) dX9_equation_22 fl_Works_12 rfl rfl (by decide) rfl ?_
          refine ex_iload_n (i := 1) dX9_equation_25 rfl rfl ?_
          refine ex_iload_n (i := 2) dX9_equation_26 rfl rfl ?_
          refine ex_cV (ν := m_Grammar_isDefinable) (a := 1) (ci := 1) (as := [.int (nI (a)), .int (c)]) dX9_equation_27 ln_Works_124 mf_Grammar_isDefinable rfl (Nat.le_of_ble_eq_true rfl) rfl rfl np_Grammar_isDefinable rfl rfl ⟨(Nat.le_of_ble_eq_true rfl), (Nat.le_of_ble_eq_true rfl), (Nat.le_of_ble_eq_true rfl), (Nat.le_of_ble_eq_true rfl)⟩ (by decide) ?_
          refine sp_Grammar_isDefinable sc gs (by omega) ?_
          refine ⟨_, rfl, ?_⟩
          refine ex_if_neN (tgt := 43) dX9_equation_30 (by decide) (dfX_b _ _) (fun h30 => ?_) (fun h30 => by exact absurd h30 hd)
          refine ex_iload_n (i := 3) dX9_equation_43 rfl rfl ?_
          refine ex_if_lt (tgt := 53) dX9_equation_44 (by decide) (fun h44 => ?_) (fun h44 => by exact absurd on h44)
          refine ex_throw th_Works_equation_53 (by decide) ?_
          exact hX2 a rfl ha (fun z => by obtain ⟨_, k2, e, e2, _⟩ := z; exact ho ⟨k2, e, e2⟩)
        · obtain ⟨k, hk2, rfl⟩ := nI_of on
          have hk7 : 7 < k := Nat.lt_of_not_le (fun z => ho ⟨k, rfl, z⟩)
          refine ex_aload_n (i := 0) dX9_equation_0 rfl rfl ?_
          refine ex_getR (v := .ref (1)) dX9_equation_1 fl_Works_12 rfl rfl (by decide) rfl ?_
          refine ex_iload_n (i := 1) dX9_equation_4 rfl rfl ?_
          refine ex_cV (ν := m_Grammar_hasRule) (a := 1) (ci := 1) (as := [.int (nI (a))]) dX9_equation_5 ln_Works_116 mf_Grammar_hasRule rfl (Nat.le_of_ble_eq_true rfl) rfl rfl np_Grammar_hasRule rfl rfl ⟨(Nat.le_of_ble_eq_true rfl), (Nat.le_of_ble_eq_true rfl), (Nat.le_of_ble_eq_true rfl), (Nat.le_of_ble_eq_true rfl)⟩ (by decide) ?_
          refine sp_Grammar_hasRule (by omega) gs.1 hn14 ?_
          refine ⟨_, rfl, ?_⟩
          refine ex_asN (a := 1) (by rw [if_pos ha]) ?_
          refine ex_if_neN (tgt := 21) dX9_equation_8 (by decide) (by omega) (fun h8 => ?_) (fun h8 => by exact absurd h8 (by decide))
          refine ex_aload_n (i := 0) dX9_equation_21 rfl rfl ?_
          refine ex_getR (v := .ref (1)) dX9_equation_22 fl_Works_12 rfl rfl (by decide) rfl ?_
          refine ex_iload_n (i := 1) dX9_equation_25 rfl rfl ?_
          refine ex_iload_n (i := 2) dX9_equation_26 rfl rfl ?_
          refine ex_cV (ν := m_Grammar_isDefinable) (a := 1) (ci := 1) (as := [.int (nI (a)), .int (c)]) dX9_equation_27 ln_Works_124 mf_Grammar_isDefinable rfl (Nat.le_of_ble_eq_true rfl) rfl rfl np_Grammar_isDefinable rfl rfl ⟨(Nat.le_of_ble_eq_true rfl), (Nat.le_of_ble_eq_true rfl), (Nat.le_of_ble_eq_true rfl), (Nat.le_of_ble_eq_true rfl)⟩ (by decide) ?_
          refine sp_Grammar_isDefinable sc gs (by omega) ?_
          refine ⟨_, rfl, ?_⟩
          refine ex_if_neN (tgt := 43) dX9_equation_30 (by decide) (dfX_b _ _) (fun h30 => ?_) (fun h30 => by exact absurd h30 hd)
          refine ex_iload_n (i := 3) dX9_equation_43 rfl rfl ?_
          refine ex_if_ltN (tgt := 53) dX9_equation_44 (by decide) (by omega) ?_
          refine ex_iload_n (i := 3) dX9_equation_47 rfl rfl ?_
          refine ex_bipush (v := nI 7) dX9_equation_48 (by decide) ?_
          refine ex_icmp_leN (tgt := 63) dX9_equation_50 (by decide) (by omega) (by omega) (fun h50 => by omega) (fun h50 => ?_)
          refine ex_throw th_Works_equation_53 (by decide) ?_
          exact hX2 a rfl ha (fun z => by obtain ⟨_, k2, e, e2, _⟩ := z; exact ho ⟨k2, e, e2⟩)
  ·
    refine ex_aload_n (i := 0) dX9_equation_0 rfl rfl ?_
    refine ex_getR (v := .ref (1)) dX9_equation_1 fl_Works_12 rfl rfl (by decide) rfl ?_
    refine ex_iload_n (i := 1) dX9_equation_4 rfl rfl ?_
    refine ex_cV (ν := m_Grammar_hasRule) (a := 1) (ci := 1) (as := [.int (r)]) dX9_equation_5 ln_Works_116 mf_Grammar_hasRule rfl (Nat.le_of_ble_eq_true rfl) rfl rfl np_Grammar_hasRule rfl rfl ⟨(Nat.le_of_ble_eq_true rfl), (Nat.le_of_ble_eq_true rfl), (Nat.le_of_ble_eq_true rfl), (Nat.le_of_ble_eq_true rfl)⟩ (by decide) ?_
    refine sp_Grammar_hasRule_I gs.1 hn14 (fun _ => ?_) (fun s e1 e2 => absurd ⟨s, e1, e2⟩ hr)
    refine ⟨_, rfl, ?_⟩
    refine ex_if_neN (tgt := 21) dX9_equation_8 (by decide) (by omega) (fun h8 => by exact absurd h8 (by decide)) (fun h8 => ?_)
    refine ex_throw th_Works_equation_11 (by decide) ?_
    exact hX1 hr
theorem sp_Works_lookaheads {x y : Int32} {b S : Nat} {F : Nat → Nat} (sc : SC i) (gs : GS i n sy) (h7 : i 0 7 = nI b) (hb : b ≤ 1) (h6 : i 16 6 = nI S) (hS : S ≤ 50) (hF : b = 1 → Vw i 22 3750 F) (hF2 : b = 1 → ∀ j, j < 3750 → F j < 256) (hX0 : b = 0 → Q (.error "java/lang/IllegalStateException") (94, g + 1, i, q, RT t)) (hX1 : ¬ b = 0 → (¬ ∃ s, x = nI s ∧ s < S) → Q (.error "java/lang/IllegalArgumentException") (94, g + 1, i, q, RT t))
    (hX2 : ∀ s, ¬ b = 0 → x = nI s → s < S → (¬ ∃ r, y = nI r ∧ r < n) → Q (.error "java/util/NoSuchElementException") (94, g + 1, i, q, RT t)) (hX3 : ∀ s r, ¬ b = 0 → x = nI s → s < S → y = nI r → r < n → F (s * 75 + (r * 5 + lnR sy r)) = 0 → Q (.error "java/util/NoSuchElementException") (94, g + 1, i, q, RT t))
    (hQ : ∀ s r, ¬ b = 0 → x = nI s → s < S → y = nI r → r < n → ¬ F (s * 75 + (r * 5 + lnR sy r)) = 0 → Q (.ok (some (.int (nI (F (s * 75 + (r * 5 + lnR sy r)) &&& 127))))) (94, g, i, q, RT t)) : Wx m_Works_lookaheads 0 [some (.ref 0), some (.int x), some (.int y)] [] (94, g, i, q, RT t) (1, 6) Q := by
  have hn14 := gs.2.2.1
  by_cases b0 : b = 0
  · subst b0
    refine ex_aload_n (i := 0) dX9_lookaheads_0 rfl rfl ?_
    refine ex_getI dX9_lookaheads_1 fl_Works_58 rfl rfl (by decide) ?_
    refine ex_asN (a := 0) h7 ?_
    refine ex_if_neN (tgt := 17) dX9_lookaheads_4 (by decide) (by omega) (fun h4 => by exact absurd h4 (by decide)) (fun h4 => ?_)
    refine ex_throw th_Works_lookaheads_7 (by decide) ?_
    exact hX0 rfl
  · have b1 : b = 1 := by omega
    subst b1
    have hF := hF rfl
    have hF2 := hF2 rfl
    by_cases hs : ∃ s, x = nI s ∧ s < S
    · obtain ⟨s, rfl, hs2⟩ := hs
      by_cases hr : ∃ r, y = nI r ∧ r < n
      · obtain ⟨r, rfl, hr2⟩ := hr
        refine ex_aload_n (i := 0) dX9_lookaheads_0 rfl rfl ?_
        refine ex_getI dX9_lookaheads_1 fl_Works_58 rfl rfl (by decide) ?_
        refine ex_asN (a := 1) h7 ?_
        refine ex_if_neN (tgt := 17) dX9_lookaheads_4 (by decide) (by omega) (fun h4 => ?_) (fun h4 => by exact absurd h4 (by decide))
        refine ex_aload_n (i := 0) dX9_lookaheads_17 rfl rfl ?_
        refine ex_getR (v := .ref (16)) dX9_lookaheads_18 fl_Works_21 rfl rfl (by decide) rfl ?_
        refine ex_iload_n (i := 1) dX9_lookaheads_21 rfl rfl ?_
        refine ex_cV (ν := m_States_hasState) (a := 16) (ci := 7) (as := [.int (nI (s))]) dX9_lookaheads_22 ln_Works_171 mf_States_hasState rfl (Nat.le_of_ble_eq_true rfl) rfl rfl np_States_hasState rfl rfl ⟨(Nat.le_of_ble_eq_true rfl), (Nat.le_of_ble_eq_true rfl), (Nat.le_of_ble_eq_true rfl), (Nat.le_of_ble_eq_true rfl)⟩ (by decide) ?_
        refine sp_States_hasState (by omega) h6 hS ?_
        refine ⟨_, rfl, ?_⟩
        refine ex_asN (a := 1) (by rw [if_pos hs2]) ?_
        refine ex_if_neN (tgt := 38) dX9_lookaheads_25 (by decide) (by omega) (fun h25 => ?_) (fun h25 => by exact absurd h25 (by decide))
        refine ex_aload_n (i := 0) dX9_lookaheads_38 rfl rfl ?_
        refine ex_getR (v := .ref (1)) dX9_lookaheads_39 fl_Works_12 rfl rfl (by decide) rfl ?_
        refine ex_iload_n (i := 2) dX9_lookaheads_42 rfl rfl ?_
        refine ex_cV (ν := m_Grammar_hasRule) (a := 1) (ci := 1) (as := [.int (nI (r))]) dX9_lookaheads_43 ln_Works_116 mf_Grammar_hasRule rfl (Nat.le_of_ble_eq_true rfl) rfl rfl np_Grammar_hasRule rfl rfl ⟨(Nat.le_of_ble_eq_true rfl), (Nat.le_of_ble_eq_true rfl), (Nat.le_of_ble_eq_true rfl), (Nat.le_of_ble_eq_true rfl)⟩ (by decide) ?_
        refine sp_Grammar_hasRule (by omega) gs.1 hn14 ?_
        refine ⟨_, rfl, ?_⟩
        refine ex_asN (a := 1) (by rw [if_pos hr2]) ?_
        refine ex_if_neN (tgt := 59) dX9_lookaheads_46 (by decide) (by omega) (fun h46 => ?_) (fun h46 => by exact absurd h46 (by decide))
        refine ex_aload_n (i := 0) dX9_lookaheads_59 rfl rfl ?_
        refine ex_getR (v := .ref (16)) dX9_lookaheads_60 fl_Works_21 rfl rfl (by decide) rfl ?_
        refine ex_iload_n (i := 1) dX9_lookaheads_63 rfl rfl ?_
        refine ex_iload_n (i := 2) dX9_lookaheads_64 rfl rfl ?_
        refine ex_cV (ν := m_States_isEnding) (a := 16) (ci := 7) (as := [.int (nI (s)), .int (nI (r))]) dX9_lookaheads_65 ln_Works_186 mf_States_isEnding rfl (Nat.le_of_ble_eq_true rfl) rfl rfl np_States_isEnding rfl rfl ⟨(Nat.le_of_ble_eq_true rfl), (Nat.le_of_ble_eq_true rfl), (Nat.le_of_ble_eq_true rfl), (Nat.le_of_ble_eq_true rfl)⟩ (by decide) ?_
        refine sp_States_isEnding sc gs (by omega) (by omega) hF hF2 ?_
        refine ⟨_, rfl, ?_⟩
        refine ex_if_neN (tgt := 81) dX9_lookaheads_68 (by decide) (by split <;> decide) (fun h68 => ?_) (fun h68 => ?_)
        · refine ex_aload_n (i := 0) dX9_lookaheads_81 rfl rfl ?_
          refine ex_getR (v := .ref (16)) dX9_lookaheads_82 fl_Works_21 rfl rfl (by decide) rfl ?_
          refine ex_iload_n (i := 1) dX9_lookaheads_85 rfl rfl ?_
          refine ex_iload_n (i := 2) dX9_lookaheads_86 rfl rfl ?_
          refine ex_cV (ν := m_States_lookaheadsAtEnd) (a := 16) (ci := 7) (as := [.int (nI (s)), .int (nI (r))]) dX9_lookaheads_87 ln_Works_191 mf_States_lookaheadsAtEnd rfl (Nat.le_of_ble_eq_true rfl) rfl rfl np_States_lookaheadsAtEnd rfl rfl ⟨(Nat.le_of_ble_eq_true rfl), (Nat.le_of_ble_eq_true rfl), (Nat.le_of_ble_eq_true rfl), (Nat.le_of_ble_eq_true rfl)⟩ (by decide) ?_
          refine sp_States_lookaheadsAtEnd sc gs (by omega) (by omega) hF ?_
          refine ⟨_, rfl, ?_⟩
          refine ex_K0 ?_
          refine ex_iret dX9_lookaheads_90 rfl rfl ?_
          exact hQ s r (by decide) rfl hs2 rfl hr2 (fun z => by simp [z] at h68)
        · refine ex_throw th_Works_lookaheads_71 (by decide) ?_
          exact hX3 s r (by decide) rfl hs2 rfl hr2 (Classical.byContradiction fun z => by simp [z] at h68)
      ·
        refine ex_aload_n (i := 0) dX9_lookaheads_0 rfl rfl ?_
        refine ex_getI dX9_lookaheads_1 fl_Works_58 rfl rfl (by decide) ?_
        refine ex_asN (a := 1) h7 ?_
        refine ex_if_neN (tgt := 17) dX9_lookaheads_4 (by decide) (by omega) (fun h4 => ?_) (fun h4 => by exact absurd h4 (by decide))
        refine ex_aload_n (i := 0) dX9_lookaheads_17 rfl rfl ?_
        refine ex_getR (v := .ref (16)) dX9_lookaheads_18 fl_Works_21 rfl rfl (by decide) rfl ?_
        refine ex_iload_n (i := 1) dX9_lookaheads_21 rfl rfl ?_
        refine ex_cV (ν := m_States_hasState) (a := 16) (ci := 7) (as := [.int (nI (s))]) dX9_lookaheads_22 ln_Works_171 mf_States_hasState rfl (Nat.le_of_ble_eq_true rfl) rfl rfl np_States_hasState rfl rfl ⟨(Nat.le_of_ble_eq_true rfl), (Nat.le_of_ble_eq_true rfl), (Nat.le_of_ble_eq_true rfl), (Nat.le_of_ble_eq_true rfl)⟩ (by decide) ?_
        refine sp_States_hasState (by omega) h6 hS ?_
        refine ⟨_, rfl, ?_⟩
        refine ex_asN (a := 1) (by rw [if_pos hs2]) ?_
        refine ex_if_neN (tgt := 38) dX9_lookaheads_25 (by decide) (by omega) (fun h25 => ?_) (fun h25 => by exact absurd h25 (by decide))
        refine ex_aload_n (i := 0) dX9_lookaheads_38 rfl rfl ?_
        refine ex_getR (v := .ref (1)) dX9_lookaheads_39 fl_Works_12 rfl rfl (by decide) rfl ?_
        refine ex_iload_n (i := 2) dX9_lookaheads_42 rfl rfl ?_
        refine ex_cV (ν := m_Grammar_hasRule) (a := 1) (ci := 1) (as := [.int (y)]) dX9_lookaheads_43 ln_Works_116 mf_Grammar_hasRule rfl (Nat.le_of_ble_eq_true rfl) rfl rfl np_Grammar_hasRule rfl rfl ⟨(Nat.le_of_ble_eq_true rfl), (Nat.le_of_ble_eq_true rfl), (Nat.le_of_ble_eq_true rfl), (Nat.le_of_ble_eq_true rfl)⟩ (by decide) ?_
        refine sp_Grammar_hasRule_I gs.1 hn14 (fun _ => ?_) (fun s e1 e2 => absurd ⟨s, e1, e2⟩ hr)
        refine ⟨_, rfl, ?_⟩
        refine ex_if_neN (tgt := 59) dX9_lookaheads_46 (by decide) (by omega) (fun h46 => by exact absurd h46 (by decide)) (fun h46 => ?_)
        refine ex_throw th_Works_lookaheads_49 (by decide) ?_
        exact hX2 s (by decide) rfl hs2 hr
    ·
      refine ex_aload_n (i := 0) dX9_lookaheads_0 rfl rfl ?_
      refine ex_getI dX9_lookaheads_1 fl_Works_58 rfl rfl (by decide) ?_
      refine ex_asN (a := 1) h7 ?_
      refine ex_if_neN (tgt := 17) dX9_lookaheads_4 (by decide) (by omega) (fun h4 => ?_) (fun h4 => by exact absurd h4 (by decide))
      refine ex_aload_n (i := 0) dX9_lookaheads_17 rfl rfl ?_
      refine ex_getR (v := .ref (16)) dX9_lookaheads_18 fl_Works_21 rfl rfl (by decide) rfl ?_
      refine ex_iload_n (i := 1) dX9_lookaheads_21 rfl rfl ?_
      refine ex_cV (ν := m_States_hasState) (a := 16) (ci := 7) (as := [.int (x)]) dX9_lookaheads_22 ln_Works_171 mf_States_hasState rfl (Nat.le_of_ble_eq_true rfl) rfl rfl np_States_hasState rfl rfl ⟨(Nat.le_of_ble_eq_true rfl), (Nat.le_of_ble_eq_true rfl), (Nat.le_of_ble_eq_true rfl), (Nat.le_of_ble_eq_true rfl)⟩ (by decide) ?_
      refine sp_States_hasState_I h6 hS (fun _ => ?_) (fun s e1 e2 => absurd ⟨s, e1, e2⟩ hs)
      refine ⟨_, rfl, ?_⟩
      refine ex_if_neN (tgt := 38) dX9_lookaheads_25 (by decide) (by omega) (fun h25 => by exact absurd h25 (by decide)) (fun h25 => ?_)
      refine ex_throw th_Works_lookaheads_28 (by decide) ?_
      exact hX1 (by decide) hs
end S52
