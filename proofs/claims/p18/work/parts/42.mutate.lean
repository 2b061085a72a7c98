/-! ===== Grammar: adding a rule, levels, wiping ===== -/
def syA (n : Nat) (sy : Nat → Nat → Nat) (z : Nat → Nat) (r k : Nat) : Nat := if r = n then z k else if r = 14 ∧ k = 1 ∧ n = 0 then z 0 else sy r k
/-- a rule that may be added -/
def okZ (z : Nat → Nat) : Prop := (8 ≤ z 0 ∧ z 0 ≤ 13) ∧ (∀ k, 1 ≤ k → k < 5 → z k = 0 ∨ 1 ≤ z k ∧ z k ≤ 6 ∨ 8 ≤ z k ∧ z k ≤ 13) ∧ ∀ k, 1 ≤ k → k < 4 → z k = 0 → z (k + 1) = 0
theorem GW_add {n : Nat} {sy : Nat → Nat → Nat} {z : Nat → Nat} (h : GW n sy) (hn : n < 14) (hz : okZ z) : GW (n + 1) (syA n sy z) := by
  obtain ⟨h1, h2, h3, h4, h5, h6, h7, h8, h9⟩ := h
  obtain ⟨z1, z2, z3⟩ := hz
  refine ⟨by omega, ?_, ?_, ?_, ?_, ?_, ?_, ?_, fun e => absurd e (by omega)⟩
  · intro r k hr hk1 hk
    unfold syA
    split
    · exact z2 k hk1 hk
    · split
      · exact Or.inr (Or.inr z1)
      · exact h2 r k hr hk1 hk
  · intro r hr
    unfold syA
    split
    · exact z1
    · rw [if_neg (by omega)]; exact h3 r (by omega)
  · intro r hr hr2
    unfold syA
    rw [if_neg (by omega), if_neg (by omega)]
    exact h4 r (by omega) hr2
  · intro r k hr hk1 hk e
    unfold syA at e ⊢
    by_cases c : r = n
    · rw [if_pos c] at e ⊢; exact z3 k hk1 hk e
    · rw [if_neg c] at e ⊢
      rw [if_neg (show ¬ (r = 14 ∧ k + 1 = 1 ∧ n = 0) by omega)]
      by_cases c2 : r = 14 ∧ k = 1 ∧ n = 0
      · rw [c2.1, c2.2.1]; exact h7
      · rw [if_neg c2] at e; exact h5 r k hr hk1 hk e
  · intro r k hr hr2 hk1 hk
    unfold syA
    rw [if_neg (by omega), if_neg (by omega)]
    exact h6 r k (by omega) hr2 hk1 hk
  · unfold syA
    rw [if_neg (by omega), if_neg (by omega)]
    exact h7
  · intro _
    unfold syA
    rw [if_neg (show ¬ 14 = n by omega)]
    by_cases c : n = 0
    · rw [if_pos ⟨rfl, rfl, c⟩, if_pos c.symm]
    · rw [if_neg (show ¬ (14 = 14 ∧ 1 = 1 ∧ n = 0) by omega), if_neg (show ¬ 0 = n by omega), if_neg (show ¬ (0 = 14 ∧ 0 = 1 ∧ n = 0) by omega)]
      exact h8 (by omega)
theorem leF_add {n : Nat} {sy : Nat → Nat → Nat} {z f : Nat → Nat} (h : leF n sy f) : leF (n + 1) (syA n sy z) f := by
  intro G hG s
  refine h G (fun r hr => ?_) s
  have e := hG r (by omega)
  have ee : ∀ k, syA n sy z r k = if r = 14 ∧ k = 1 ∧ n = 0 then z 0 else sy r k := fun k => if_neg (by omega)
  have e2 : syA n sy z r = sy r := by
    funext k
    rw [ee k, if_neg (by omega)]
  unfold rhs at e ⊢
  rw [e2] at e
  exact e
section S42
variable {ζ g : Nat} {i : Nat → Nat → Int32} {q : Nat → Nat → Int64} {t : Bool} {Q : xRes → xMem → Prop} {n : Nat} {sy : Nat → Nat → Nat}
theorem GS_add {z : Nat → Nat} {i' : Nat → Nat → Int32} (gs : GS i n sy) (hn : n < 14) (hz : okZ z) (h7 : i' 1 7 = nI (n + 1)) (h3 : ∀ j, j < 75 → i' 3 j = if n * 5 ≤ j ∧ j < n * 5 + 5 then nI (z (j - n * 5)) else if n = 0 ∧ j = 71 then nI (z 0) else i 3 j) : GS i' (n + 1) (syA n sy z) := by
  refine ⟨h7, fun r k hr hk => ?_, GW_add gs.2.2 hn hz⟩
  rw [h3 _ (by omega)]
  unfold syA
  by_cases c : r = n
  · subst c
    rw [if_pos ⟨by omega, by omega⟩, if_pos rfl, show r * 5 + k - r * 5 = k by omega]
  · rw [if_neg c, if_neg (show ¬ (n * 5 ≤ r * 5 + k ∧ r * 5 + k < n * 5 + 5) by omega)]
    by_cases c2 : r = 14 ∧ k = 1 ∧ n = 0
    · rw [if_pos c2, if_pos ⟨c2.2.2, by omega⟩]
    · rw [if_neg c2, if_neg (show ¬ (n = 0 ∧ r * 5 + k = 71) by omega)]
      exact gs.2.1 r k hr hk
theorem up5 {f : Nat → Int32} {z : Nat → Nat} {n j : Nat} : upd (upd (upd (upd (upd f (n * 5 + 0) (nI (z 0))) (n * 5 + 1) (nI (z 1))) (n * 5 + 2) (nI (z 2))) (n * 5 + 3) (nI (z 3))) (n * 5 + 4) (nI (z 4)) j = if n * 5 ≤ j ∧ j < n * 5 + 5 then nI (z (j - n * 5)) else f j := by
  unfold upd
  by_cases c : n * 5 ≤ j ∧ j < n * 5 + 5
  · rw [if_pos c]
    obtain ⟨k, rfl⟩ : ∃ k, j = n * 5 + k := ⟨j - n * 5, by omega⟩
    rw [show n * 5 + k - n * 5 = k by omega]
    rcases (show k = 0 ∨ k = 1 ∨ k = 2 ∨ k = 3 ∨ k = 4 by omega) with rfl | rfl | rfl | rfl | rfl
    · rw [if_neg (by omega), if_neg (by omega), if_neg (by omega), if_neg (by omega), if_pos rfl]
    · rw [if_neg (by omega), if_neg (by omega), if_neg (by omega), if_pos rfl]
    · rw [if_neg (by omega), if_neg (by omega), if_pos rfl]
    · rw [if_neg (by omega), if_pos rfl]
    · rw [if_pos rfl]
  · rw [if_neg c, if_neg (by omega), if_neg (by omega), if_neg (by omega), if_neg (by omega), if_neg (by omega)]
theorem sp_Grammar_addRule {z f0 : Nat → Nat} (sc : SC i) (gs : GS i n sy) (hn : n < 14) (hz : okZ z) (hV : Vw i 9 14 f0) (hF : isF n sy f0)
    (hQ : ∀ i1 f, Fr [1, 3, 9] i i1 → i1 1 8 = i 1 8 → GS i1 (n + 1) (syA n sy z) → Vw i1 9 14 f → isF (n + 1) (syA n sy z) f → Q (.ok (some (.int (nI n)))) (56 + ζ, g, i1, q, RT t)) :
    Wx m_Grammar_addRule 0 [some (.ref 1), some (.int (nI (z 0))), some (.int (nI (z 1))), some (.int (nI (z 2))), some (.int (nI (z 3))), some (.int (nI (z 4))), none] [] (56 + ζ, g, i, q, RT t) (0, 0) Q := by
  have h17 := gs.1
  by_cases c : n = 0
  · subst c
    refine ex_aload_n (i := 0) dX1_addRule_0 rfl rfl ?_
    refine ex_getI dX1_addRule_1 fl_Grammar_44 rfl rfl (l56 (by decide)) ?_
    refine ex_asN (a := 0) (by first | exact h17 | (simp [xU, upd]; exact h17)) ?_
    refine ex_istore (L' := [some (.ref (1)), some (.int (nI (z 0))), some (.int (nI (z 1))), some (.int (nI (z 2))), some (.int (nI (z 3))), some (.int (nI (z 4))), some (.int (nI (0)))]) dX1_addRule_4 (by decide) rfl ?_
    refine ex_aload_n (i := 0) dX1_addRule_6 rfl rfl ?_
    refine ex_getR (v := .ref (2)) dX1_addRule_7 fl_Grammar_14 rfl rfl (l56 (by decide)) rfl ?_
    refine ex_iload dX1_addRule_10 rfl ?_
    refine ex_iconst (v := nI 0) dX1_addRule_12 (by decide) ?_
    refine ex_iload_n (i := 1) dX1_addRule_13 rfl rfl ?_
    refine ex_cV (ν := m_Grid_set) (a := 2) (ci := 2) (as := [.int (nI (0)), .int (nI (0)), .int (nI (z 0))]) dX1_addRule_14 ln_Grammar_55 mf_Grid_set rfl (l56 (by decide)) rfl rfl np_Grid_set rfl rfl ⟨(Nat.le_of_ble_eq_true rfl), (Nat.le_of_ble_eq_true rfl), (Nat.le_of_ble_eq_true rfl), (Nat.le_of_ble_eq_true rfl)⟩ (by decide) ?_
    refine sp_Grid_set (r := 2) (c := 3) rfl rfl rfl (l56 (by decide)) (l56 (by decide)) (sc_2_0 sc) (sc_2_1 sc) rfl (by decide) (by decide) ?_
    refine ⟨_, rfl, ?_⟩
    refine ex_aload_n (i := 0) dX1_addRule_17 rfl rfl ?_
    refine ex_getR (v := .ref (2)) dX1_addRule_18 fl_Grammar_14 rfl rfl (l56 (by decide)) rfl ?_
    refine ex_iload dX1_addRule_21 rfl ?_
    refine ex_iconst (v := nI 1) dX1_addRule_23 (by decide) ?_
    refine ex_iload_n (i := 2) dX1_addRule_24 rfl rfl ?_
    refine ex_cV (ν := m_Grid_set) (a := 2) (ci := 2) (as := [.int (nI (0)), .int (nI (1)), .int (nI (z 1))]) dX1_addRule_25 ln_Grammar_55 mf_Grid_set rfl (l56 (by decide)) rfl rfl np_Grid_set rfl rfl ⟨(Nat.le_of_ble_eq_true rfl), (Nat.le_of_ble_eq_true rfl), (Nat.le_of_ble_eq_true rfl), (Nat.le_of_ble_eq_true rfl)⟩ (by decide) ?_
    refine sp_Grid_set (r := 2) (c := 3) rfl rfl rfl (l56 (by decide)) (l56 (by decide)) (sc_2_0 (SC_U (by decide) sc)) (sc_2_1 (SC_U (by decide) sc)) rfl (by decide) (by decide) ?_
    refine ⟨_, rfl, ?_⟩
    refine ex_aload_n (i := 0) dX1_addRule_28 rfl rfl ?_
    refine ex_getR (v := .ref (2)) dX1_addRule_29 fl_Grammar_14 rfl rfl (l56 (by decide)) rfl ?_
    refine ex_iload dX1_addRule_32 rfl ?_
    refine ex_iconst (v := nI 2) dX1_addRule_34 (by decide) ?_
    refine ex_iload_n (i := 3) dX1_addRule_35 rfl rfl ?_
    refine ex_cV (ν := m_Grid_set) (a := 2) (ci := 2) (as := [.int (nI (0)), .int (nI (2)), .int (nI (z 2))]) dX1_addRule_36 ln_Grammar_55 mf_Grid_set rfl (l56 (by decide)) rfl rfl np_Grid_set rfl rfl ⟨(Nat.le_of_ble_eq_true rfl), (Nat.le_of_ble_eq_true rfl), (Nat.le_of_ble_eq_true rfl), (Nat.le_of_ble_eq_true rfl)⟩ (by decide) ?_
    refine sp_Grid_set (r := 2) (c := 3) rfl rfl rfl (l56 (by decide)) (l56 (by decide)) (sc_2_0 (SC_U (by decide) (SC_U (by decide) sc))) (sc_2_1 (SC_U (by decide) (SC_U (by decide) sc))) rfl (by decide) (by decide) ?_
    refine ⟨_, rfl, ?_⟩
    refine ex_aload_n (i := 0) dX1_addRule_39 rfl rfl ?_
    refine ex_getR (v := .ref (2)) dX1_addRule_40 fl_Grammar_14 rfl rfl (l56 (by decide)) rfl ?_
    refine ex_iload dX1_addRule_43 rfl ?_
    refine ex_iconst (v := nI 3) dX1_addRule_45 (by decide) ?_
    refine ex_iload dX1_addRule_46 rfl ?_
    refine ex_cV (ν := m_Grid_set) (a := 2) (ci := 2) (as := [.int (nI (0)), .int (nI (3)), .int (nI (z 3))]) dX1_addRule_48 ln_Grammar_55 mf_Grid_set rfl (l56 (by decide)) rfl rfl np_Grid_set rfl rfl ⟨(Nat.le_of_ble_eq_true rfl), (Nat.le_of_ble_eq_true rfl), (Nat.le_of_ble_eq_true rfl), (Nat.le_of_ble_eq_true rfl)⟩ (by decide) ?_
    refine sp_Grid_set (r := 2) (c := 3) rfl rfl rfl (l56 (by decide)) (l56 (by decide)) (sc_2_0 (SC_U (by decide) (SC_U (by decide) (SC_U (by decide) sc)))) (sc_2_1 (SC_U (by decide) (SC_U (by decide) (SC_U (by decide) sc)))) rfl (by decide) (by decide) ?_
    refine ⟨_, rfl, ?_⟩
    refine ex_aload_n (i := 0) dX1_addRule_51 rfl rfl ?_
    refine ex_getR (v := .ref (2)) dX1_addRule_52 fl_Grammar_14 rfl rfl (l56 (by decide)) rfl ?_
    refine ex_iload dX1_addRule_55 rfl ?_
    refine ex_iconst (v := nI 4) dX1_addRule_57 (by decide) ?_
    refine ex_iload dX1_addRule_58 rfl ?_
    refine ex_cV (ν := m_Grid_set) (a := 2) (ci := 2) (as := [.int (nI (0)), .int (nI (4)), .int (nI (z 4))]) dX1_addRule_60 ln_Grammar_55 mf_Grid_set rfl (l56 (by decide)) rfl rfl np_Grid_set rfl rfl ⟨(Nat.le_of_ble_eq_true rfl), (Nat.le_of_ble_eq_true rfl), (Nat.le_of_ble_eq_true rfl), (Nat.le_of_ble_eq_true rfl)⟩ (by decide) ?_
    refine sp_Grid_set (r := 2) (c := 3) rfl rfl rfl (l56 (by decide)) (l56 (by decide)) (sc_2_0 (SC_U (by decide) (SC_U (by decide) (SC_U (by decide) (SC_U (by decide) sc))))) (sc_2_1 (SC_U (by decide) (SC_U (by decide) (SC_U (by decide) (SC_U (by decide) sc))))) rfl (by decide) (by decide) ?_
    refine ⟨_, rfl, ?_⟩
    refine ex_iload dX1_addRule_63 rfl ?_
    refine ex_if_neN (tgt := 79) dX1_addRule_65 (by decide) (by omega) (fun h65 => by exact absurd h65 (by decide)) (fun h65 => ?_)
    refine ex_aload_n (i := 0) dX1_addRule_68 rfl rfl ?_
    refine ex_getR (v := .ref (2)) dX1_addRule_69 fl_Grammar_14 rfl rfl (l56 (by decide)) rfl ?_
    refine ex_bipush (v := nI 14) dX1_addRule_72 (by decide) ?_
    refine ex_iconst (v := nI 1) dX1_addRule_74 (by decide) ?_
    refine ex_iload_n (i := 1) dX1_addRule_75 rfl rfl ?_
    refine ex_cV (ν := m_Grid_set) (a := 2) (ci := 2) (as := [.int (nI (14)), .int (nI (1)), .int (nI (z 0))]) dX1_addRule_76 ln_Grammar_55 mf_Grid_set rfl (l56 (by decide)) rfl rfl np_Grid_set rfl rfl ⟨(Nat.le_of_ble_eq_true rfl), (Nat.le_of_ble_eq_true rfl), (Nat.le_of_ble_eq_true rfl), (Nat.le_of_ble_eq_true rfl)⟩ (by decide) ?_
    refine sp_Grid_set (r := 2) (c := 3) rfl rfl rfl (l56 (by decide)) (l56 (by decide)) (sc_2_0 (SC_U (by decide) (SC_U (by decide) (SC_U (by decide) (SC_U (by decide) (SC_U (by decide) sc)))))) (sc_2_1 (SC_U (by decide) (SC_U (by decide) (SC_U (by decide) (SC_U (by decide) (SC_U (by decide) sc)))))) rfl (by decide) (by decide) ?_
    refine ⟨_, rfl, ?_⟩
    refine ex_aload_n (i := 0) dX1_addRule_79 rfl rfl ?_
    refine ex_dup dX1_addRule_80 rfl ?_
    refine ex_getI dX1_addRule_81 fl_Grammar_44 rfl rfl (l56 (by decide)) ?_
    refine ex_asN (a := 0) (by first | exact h17 | (simp [xU, upd]; exact h17)) ?_
    refine ex_iconst (v := nI 1) dX1_addRule_84 (by decide) ?_
    refine ex_iaddN dX1_addRule_85 ?_
    refine ex_putI dX1_addRule_86 fl_Grammar_44 cf_1 rfl (Or.inl rfl) rfl rfl rfl (l56 (by decide)) ?_
    refine ex_aload_n (i := 0) dX1_addRule_89 rfl rfl ?_
    refine ex_cV (ν := m_Grammar_updateFirsts) (a := 1) (ci := 1) (as := []) dX1_addRule_90 ln_Grammar_59 mf_Grammar_updateFirsts rfl (l56 (by decide)) rfl rfl np_Grammar_updateFirsts rfl rfl ⟨(Nat.le_of_ble_eq_true rfl), (Nat.le_of_ble_eq_true rfl), (Nat.le_of_ble_eq_true rfl), (Nat.le_of_ble_eq_true rfl)⟩ (by decide) ?_
    refine sp_Grammar_updateFirsts (n := 0 + 1) (sy := syA 0 sy z) (f0 := f0) ?_ (GS_add gs hn hz ?_ ?_) ?_ (leF_add hF.2.1) hF.2.2 (fun i2 f hf2 hV2 hF2 => ?_)
    · exact SC_U (by decide) (SC_U (by decide) (SC_U (by decide) (SC_U (by decide) (SC_U (by decide) (SC_U (by decide) (SC_U (by decide) sc))))))
    · rw [xU_at]; simp [upd]
    · intro j hj
      simp only [xU_ne _ _ _ (show (3 : Nat) ≠ 1 by decide), xU_at]
      by_cases e : j = 71
      · subst e; rfl
      · rw [if_neg (show ¬ (True ∧ j = 71) from fun z => e z.2)]
        refine Eq.trans ?_ (up5 (f := i 3) (z := z) (n := 0) (j := j))
        show (if j = 71 then _ else _) = _
        rw [if_neg e]
    · intro j hj
      simp only [xU_ne _ _ _ (show (9 : Nat) ≠ 1 by decide), xU_ne _ _ _ (show (9 : Nat) ≠ 3 by decide)]
      exact hV j hj
    refine ⟨_, rfl, ?_⟩
    refine ex_iload dX1_addRule_93 rfl ?_
    refine ex_iret dX1_addRule_95 rfl rfl ?_
    refine hQ i2 f ?_ ?_ (GS.fr (l := [9]) (GS_add gs hn hz ?_ ?_) hf2 (by decide) (by decide)) hV2 hF2
    · exact (((((((Fr.rf.U (by decide)).U (by decide)).U (by decide)).U (by decide)).U (by decide)).U (by decide)).U (by decide)).tr (hf2.mono (by decide))
    · rw [hf2 1 (by decide), xU_at]; simp [upd, xU]
    · rw [xU_at]; simp [upd]
    · intro j hj
      simp only [xU_ne _ _ _ (show (3 : Nat) ≠ 1 by decide), xU_at]
      by_cases e : j = 71
      · subst e; rfl
      · rw [if_neg (show ¬ (True ∧ j = 71) from fun z => e z.2)]
        refine Eq.trans ?_ (up5 (f := i 3) (z := z) (n := 0) (j := j))
        show (if j = 71 then _ else _) = _
        rw [if_neg e]
  ·
    refine ex_aload_n (i := 0) dX1_addRule_0 rfl rfl ?_
    refine ex_getI dX1_addRule_1 fl_Grammar_44 rfl rfl (l56 (by decide)) ?_
    refine ex_asN (a := n) (by first | exact h17 | (simp [xU, upd]; exact h17)) ?_
    refine ex_istore (L' := [some (.ref (1)), some (.int (nI (z 0))), some (.int (nI (z 1))), some (.int (nI (z 2))), some (.int (nI (z 3))), some (.int (nI (z 4))), some (.int (nI (n)))]) dX1_addRule_4 (by decide) rfl ?_
    refine ex_aload_n (i := 0) dX1_addRule_6 rfl rfl ?_
    refine ex_getR (v := .ref (2)) dX1_addRule_7 fl_Grammar_14 rfl rfl (l56 (by decide)) rfl ?_
    refine ex_iload dX1_addRule_10 rfl ?_
    refine ex_iconst (v := nI 0) dX1_addRule_12 (by decide) ?_
    refine ex_iload_n (i := 1) dX1_addRule_13 rfl rfl ?_
    refine ex_cV (ν := m_Grid_set) (a := 2) (ci := 2) (as := [.int (nI (n)), .int (nI (0)), .int (nI (z 0))]) dX1_addRule_14 ln_Grammar_55 mf_Grid_set rfl (l56 (by decide)) rfl rfl np_Grid_set rfl rfl ⟨(Nat.le_of_ble_eq_true rfl), (Nat.le_of_ble_eq_true rfl), (Nat.le_of_ble_eq_true rfl), (Nat.le_of_ble_eq_true rfl)⟩ (by decide) ?_
    refine sp_Grid_set (r := 2) (c := 3) rfl rfl rfl (l56 (by decide)) (l56 (by decide)) (sc_2_0 sc) (sc_2_1 sc) rfl (by omega) (by decide) ?_
    refine ⟨_, rfl, ?_⟩
    refine ex_aload_n (i := 0) dX1_addRule_17 rfl rfl ?_
    refine ex_getR (v := .ref (2)) dX1_addRule_18 fl_Grammar_14 rfl rfl (l56 (by decide)) rfl ?_
    refine ex_iload dX1_addRule_21 rfl ?_
    refine ex_iconst (v := nI 1) dX1_addRule_23 (by decide) ?_
    refine ex_iload_n (i := 2) dX1_addRule_24 rfl rfl ?_
    refine ex_cV (ν := m_Grid_set) (a := 2) (ci := 2) (as := [.int (nI (n)), .int (nI (1)), .int (nI (z 1))]) dX1_addRule_25 ln_Grammar_55 mf_Grid_set rfl (l56 (by decide)) rfl rfl np_Grid_set rfl rfl ⟨(Nat.le_of_ble_eq_true rfl), (Nat.le_of_ble_eq_true rfl), (Nat.le_of_ble_eq_true rfl), (Nat.le_of_ble_eq_true rfl)⟩ (by decide) ?_
    refine sp_Grid_set (r := 2) (c := 3) rfl rfl rfl (l56 (by decide)) (l56 (by decide)) (sc_2_0 (SC_U (by decide) sc)) (sc_2_1 (SC_U (by decide) sc)) rfl (by omega) (by decide) ?_
    refine ⟨_, rfl, ?_⟩
    refine ex_aload_n (i := 0) dX1_addRule_28 rfl rfl ?_
    refine ex_getR (v := .ref (2)) dX1_addRule_29 fl_Grammar_14 rfl rfl (l56 (by decide)) rfl ?_
    refine ex_iload dX1_addRule_32 rfl ?_
    refine ex_iconst (v := nI 2) dX1_addRule_34 (by decide) ?_
    refine ex_iload_n (i := 3) dX1_addRule_35 rfl rfl ?_
    refine ex_cV (ν := m_Grid_set) (a := 2) (ci := 2) (as := [.int (nI (n)), .int (nI (2)), .int (nI (z 2))]) dX1_addRule_36 ln_Grammar_55 mf_Grid_set rfl (l56 (by decide)) rfl rfl np_Grid_set rfl rfl ⟨(Nat.le_of_ble_eq_true rfl), (Nat.le_of_ble_eq_true rfl), (Nat.le_of_ble_eq_true rfl), (Nat.le_of_ble_eq_true rfl)⟩ (by decide) ?_
    refine sp_Grid_set (r := 2) (c := 3) rfl rfl rfl (l56 (by decide)) (l56 (by decide)) (sc_2_0 (SC_U (by decide) (SC_U (by decide) sc))) (sc_2_1 (SC_U (by decide) (SC_U (by decide) sc))) rfl (by omega) (by decide) ?_
    refine ⟨_, rfl, ?_⟩
    refine ex_aload_n (i := 0) dX1_addRule_39 rfl rfl ?_
    refine ex_getR (v := .ref (2)) dX1_addRule_40 fl_Grammar_14 rfl rfl (l56 (by decide)) rfl ?_
    refine ex_iload dX1_addRule_43 rfl ?_
    refine ex_iconst (v := nI 3) dX1_addRule_45 (by decide) ?_
    refine ex_iload dX1_addRule_46 rfl ?_
    refine ex_cV (ν := m_Grid_set) (a := 2) (ci := 2) (as := [.int (nI (n)), .int (nI (3)), .int (nI (z 3))]) dX1_addRule_48 ln_Grammar_55 mf_Grid_set rfl (l56 (by decide)) rfl rfl np_Grid_set rfl rfl ⟨(Nat.le_of_ble_eq_true rfl), (Nat.le_of_ble_eq_true rfl), (Nat.le_of_ble_eq_true rfl), (Nat.le_of_ble_eq_true rfl)⟩ (by decide) ?_
    refine sp_Grid_set (r := 2) (c := 3) rfl rfl rfl (l56 (by decide)) (l56 (by decide)) (sc_2_0 (SC_U (by decide) (SC_U (by decide) (SC_U (by decide) sc)))) (sc_2_1 (SC_U (by decide) (SC_U (by decide) (SC_U (by decide) sc)))) rfl (by omega) (by decide) ?_
    refine ⟨_, rfl, ?_⟩
    refine ex_aload_n (i := 0) dX1_addRule_51 rfl rfl ?_
    refine ex_getR (v := .ref (2)) dX1_addRule_52 fl_Grammar_14 rfl rfl (l56 (by decide)) rfl ?_
    refine ex_iload dX1_addRule_55 rfl ?_
    refine ex_iconst (v := nI 4) dX1_addRule_57 (by decide) ?_
    refine ex_iload dX1_addRule_58 rfl ?_
    refine ex_cV (ν := m_Grid_set) (a := 2) (ci := 2) (as := [.int (nI (n)), .int (nI (4)), .int (nI (z 4))]) dX1_addRule_60 ln_Grammar_55 mf_Grid_set rfl (l56 (by decide)) rfl rfl np_Grid_set rfl rfl ⟨(Nat.le_of_ble_eq_true rfl), (Nat.le_of_ble_eq_true rfl), (Nat.le_of_ble_eq_true rfl), (Nat.le_of_ble_eq_true rfl)⟩ (by decide) ?_
    refine sp_Grid_set (r := 2) (c := 3) rfl rfl rfl (l56 (by decide)) (l56 (by decide)) (sc_2_0 (SC_U (by decide) (SC_U (by decide) (SC_U (by decide) (SC_U (by decide) sc))))) (sc_2_1 (SC_U (by decide) (SC_U (by decide) (SC_U (by decide) (SC_U (by decide) sc))))) rfl (by omega) (by decide) ?_
    refine ⟨_, rfl, ?_⟩
    refine ex_iload dX1_addRule_63 rfl ?_
    refine ex_if_neN (tgt := 79) dX1_addRule_65 (by decide) (by omega) (fun h65 => ?_) (fun h65 => by exact absurd h65 c)
    refine ex_aload_n (i := 0) dX1_addRule_79 rfl rfl ?_
    refine ex_dup dX1_addRule_80 rfl ?_
    refine ex_getI dX1_addRule_81 fl_Grammar_44 rfl rfl (l56 (by decide)) ?_
    refine ex_asN (a := n) (by first | exact h17 | (simp [xU, upd]; exact h17)) ?_
    refine ex_iconst (v := nI 1) dX1_addRule_84 (by decide) ?_
    refine ex_iaddN dX1_addRule_85 ?_
    refine ex_putI dX1_addRule_86 fl_Grammar_44 cf_1 rfl (Or.inl rfl) rfl rfl rfl (l56 (by decide)) ?_
    refine ex_aload_n (i := 0) dX1_addRule_89 rfl rfl ?_
    refine ex_cV (ν := m_Grammar_updateFirsts) (a := 1) (ci := 1) (as := []) dX1_addRule_90 ln_Grammar_59 mf_Grammar_updateFirsts rfl (l56 (by decide)) rfl rfl np_Grammar_updateFirsts rfl rfl ⟨(Nat.le_of_ble_eq_true rfl), (Nat.le_of_ble_eq_true rfl), (Nat.le_of_ble_eq_true rfl), (Nat.le_of_ble_eq_true rfl)⟩ (by decide) ?_
    refine sp_Grammar_updateFirsts (n := n + 1) (sy := syA n sy z) (f0 := f0) ?_ (GS_add gs hn hz ?_ ?_) ?_ (leF_add hF.2.1) hF.2.2 (fun i2 f hf2 hV2 hF2 => ?_)
    · exact SC_U (by decide) (SC_U (by decide) (SC_U (by decide) (SC_U (by decide) (SC_U (by decide) (SC_U (by decide) sc)))))
    · rw [xU_at]; simp [upd]
    · intro j hj
      simp only [xU_ne _ _ _ (show (3 : Nat) ≠ 1 by decide), xU_at]
      rw [if_neg (show ¬ (n = 0 ∧ j = 71) by omega)]
      exact up5
    · intro j hj
      simp only [xU_ne _ _ _ (show (9 : Nat) ≠ 1 by decide), xU_ne _ _ _ (show (9 : Nat) ≠ 3 by decide)]
      exact hV j hj
    refine ⟨_, rfl, ?_⟩
    refine ex_iload dX1_addRule_93 rfl ?_
    refine ex_iret dX1_addRule_95 rfl rfl ?_
    refine hQ i2 f ?_ ?_ (GS.fr (l := [9]) (GS_add gs hn hz ?_ ?_) hf2 (by decide) (by decide)) hV2 hF2
    · exact ((((((Fr.rf.U (by decide)).U (by decide)).U (by decide)).U (by decide)).U (by decide)).U (by decide)).tr (hf2.mono (by decide))
    · rw [hf2 1 (by decide), xU_at]; simp [upd, xU]
    · rw [xU_at]; simp [upd]
    · intro j hj
      simp only [xU_ne _ _ _ (show (3 : Nat) ≠ 1 by decide), xU_at]
      rw [if_neg (show ¬ (n = 0 ∧ j = 71) by omega)]
      exact up5
end S42
