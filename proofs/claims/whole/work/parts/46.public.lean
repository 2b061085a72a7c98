/-! ===== the public methods ===== -/
theorem ex_K0 {μ : xMeth} {pc : Nat} {L : xLoc} {st : List Value} {M : xMem} {K : Nat × Nat} {Q : xRes → xMem → Prop} (k : Wx μ pc L st M (0, 0) Q) : Wx μ pc L st M K Q := by
  intro p l e s m args below meth c R base b D T CT ST QF hC hF H locs cells slots ls hS hL hc hs
  exact k p l e s m args below meth c R base b D T CT ST QF hC hF H locs cells slots ls hS hL (Nat.le_trans (Nat.add_le_add_left (Nat.zero_le _) _) hc) (Nat.le_trans (Nat.add_le_add_left (Nat.zero_le _) _) hs)
section S46
variable {g : Nat} {i : Nat → Nat → Int32} {q : Nat → Nat → Int64} {t : Bool} {Q : xRes → xMem → Prop} {n : Nat} {sy : Nat → Nat → Nat}
theorem tmX_s {x : Int32} (h : ¬ tmX x = 0) : ∃ s, x = nI s ∧ 1 ≤ s ∧ s ≤ 6 := by
  unfold tmX at h
  by_cases c : 1 ≤ x.toInt ∧ x.toInt ≤ 6
  · obtain ⟨a, ha, rfl⟩ := nI_of (x := x) (fun z => by have := Int32.lt_iff_toInt_lt.mp z; simp at this; omega)
    rw [nI_toInt ha] at c
    exact ⟨a, rfl, by omega, by omega⟩
  · rw [if_neg c] at h; exact absurd rfl h
theorem ntX_s {x : Int32} (h : ¬ ntX x = 0) : ∃ s, x = nI s ∧ 8 ≤ s ∧ s ≤ 13 := by
  unfold ntX at h
  by_cases c : 8 ≤ x.toInt ∧ x.toInt ≤ 13
  · obtain ⟨a, ha, rfl⟩ := nI_of (x := x) (fun z => by have := Int32.lt_iff_toInt_lt.mp z; simp at this; omega)
    rw [nI_toInt ha] at c
    exact ⟨a, rfl, by omega, by omega⟩
  · rw [if_neg c] at h; exact absurd rfl h
theorem smX_s {x : Int32} (h : ¬ smX x = 0) : ∃ s, x = nI s ∧ (1 ≤ s ∧ s ≤ 6 ∨ 8 ≤ s ∧ s ≤ 13) := by
  unfold smX at h
  by_cases c : tmX x = 0
  · by_cases c2 : ntX x = 0
    · rw [if_pos ⟨c, c2⟩] at h; exact absurd rfl h
    · obtain ⟨s, e, a, b⟩ := ntX_s c2; exact ⟨s, e, Or.inr ⟨a, b⟩⟩
  · obtain ⟨s, e, a, b⟩ := tmX_s c; exact ⟨s, e, Or.inl ⟨a, b⟩⟩
theorem sp_Works_first {x : Int32} {f : Nat → Nat} (hV : Vw i 9 14 f) (hX : smX x = 0 → Q (.error "java/lang/IllegalArgumentException") (94, g + 1, i, q, RT t)) (hQ : ∀ s, x = nI s → (1 ≤ s ∧ s ≤ 6 ∨ 8 ≤ s ∧ s ≤ 13) → Q (.ok (some (.int (nI (fsT f s))))) (94, g, i, q, RT t)) : Wx m_Works_first 0 [some (.ref 0), some (.int x)] [] (94, g, i, q, RT t) (1, 6) Q := by
  by_cases h : smX x = 0
  ·
    refine ex_iload_n (i := 1) dX9_first_0 rfl rfl ?_
    refine ex_cS (ν := m_Works_isSymbol) (as := [.int (x)]) dX9_first_1 ln_Works_77 mf_Works_isSymbol np_Works_isSymbol rfl rfl ⟨(Nat.le_of_ble_eq_true rfl), (Nat.le_of_ble_eq_true rfl), (Nat.le_of_ble_eq_true rfl), (Nat.le_of_ble_eq_true rfl)⟩ (by decide) ?_
    refine sp_Works_isSymbol ?_
    refine ⟨_, rfl, ?_⟩
    refine ex_if_neN (tgt := 17) dX9_first_4 (by decide) (smX_b _) (fun h4 => by exact absurd h h4) (fun h4 => ?_)
    refine ex_throw th_Works_first_7 (by decide) ?_
    exact hX h
  · obtain ⟨s, e, hs⟩ := smX_s h
    refine ex_iload_n (i := 1) dX9_first_0 rfl rfl ?_
    refine ex_cS (ν := m_Works_isSymbol) (as := [.int (x)]) dX9_first_1 ln_Works_77 mf_Works_isSymbol np_Works_isSymbol rfl rfl ⟨(Nat.le_of_ble_eq_true rfl), (Nat.le_of_ble_eq_true rfl), (Nat.le_of_ble_eq_true rfl), (Nat.le_of_ble_eq_true rfl)⟩ (by decide) ?_
    refine sp_Works_isSymbol ?_
    refine ⟨_, rfl, ?_⟩
    refine ex_if_neN (tgt := 17) dX9_first_4 (by decide) (smX_b _) (fun h4 => ?_) (fun h4 => by exact absurd h4 h)
    refine ex_aload_n (i := 0) dX9_first_17 rfl rfl ?_
    refine ex_getR (v := .ref (1)) dX9_first_18 fl_Works_12 rfl rfl (by decide) rfl ?_
    refine ex_iload_n (i := 1) dX9_first_21 rfl rfl ?_
    refine ex_asN (a := s) e ?_
    refine ex_cV (ν := m_Grammar_firstOf) (a := 1) (ci := 1) (as := [.int (nI (s))]) dX9_first_22 ln_Works_166 mf_Grammar_firstOf rfl (Nat.le_of_ble_eq_true rfl) rfl rfl np_Grammar_firstOf rfl rfl ⟨(Nat.le_of_ble_eq_true rfl), (Nat.le_of_ble_eq_true rfl), (Nat.le_of_ble_eq_true rfl), (Nat.le_of_ble_eq_true rfl)⟩ (by decide) ?_
    refine sp_Grammar_firstOf hs (fun s h1 h2 => hV s (by omega)) ?_
    refine ⟨_, rfl, ?_⟩
    refine ex_K0 ?_
    refine ex_iret dX9_first_25 rfl rfl ?_
    exact hQ s e hs
theorem sp_Works_fault (hQ : Q (.ok (some (.int (i 0 8)))) (94, g, i, q, RT t)) : Wx m_Works_fault 0 [some (.ref 0)] [] (94, g, i, q, RT t) (0, 0) Q := by
  refine ex_aload_n (i := 0) dX9_fault_0 rfl rfl ?_
  refine ex_getI dX9_fault_1 fl_Works_62 rfl rfl (by decide) ?_
  refine ex_iret dX9_fault_4 rfl rfl ?_
  exact hQ
end S46
