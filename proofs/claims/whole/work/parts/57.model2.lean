/-! ===== the reference: codes, equations, rules, levels ===== -/
def usX (f : Nat → Nat) (c : Int32) : Nat := match plX f c with | none => 0 | some _ => 1
theorem usX_b (f : Nat → Nat) (c : Int32) : usX f c < 2 ^ 31 := by unfold usX; split <;> decide
theorem usX_01 (f : Nat → Nat) (c : Int32) : usX f c < 2 := by unfold usX; split <;> decide
theorem usX_0 {f : Nat → Nat} {c : Int32} : usX f c = 0 ↔ plX f c = none := by
  unfold usX
  cases plX f c with
  | none => exact ⟨fun _ => rfl, fun _ => rfl⟩
  | some p => exact ⟨fun h => by simp at h, fun h => by simp at h⟩
/-- the reference's equations -/
def RE (i : Nat → Nat → Int32) (op xp yp : Nat → Nat) : Prop := ∀ j, j < 210 → i 62 j = (if op j = 0 then -1 else nI (op j - 1)) ∧ op j ≤ 8 ∧ (op j = 1 → i 63 j = nI (xp j)) ∧ (2 ≤ op j → ∃ c, i 63 j = nI c ∧ c < 50 ∧ c % 10 < 3 ∧ c / 10 * 3 + c % 10 = xp j) ∧ (3 ≤ op j → ∃ c, i 64 j = nI c ∧ c < 50 ∧ c % 10 < 3 ∧ c / 10 * 3 + c % 10 = yp j)
theorem RE.fm {i i' : Nat → Nat → Int32} {op xp yp : Nat → Nat} {l ks : List Nat} (h : RE i op xp yp) (hf : Fm l ks i i') (h1 : 62 ∉ l) (h2 : 63 ∉ l) (h3 : 64 ∉ l) : RE i' op xp yp := fun j hj => by
  rw [hf.1 62 h1 (by decide), hf.1 63 h2 (by decide), hf.1 64 h3 (by decide)]; exact h j hj
section S57
variable {g : Nat} {i : Nat → Nat → Int32} {q : Nat → Nat → Int64} {t : Bool} {Q : xRes → xMem → Prop} {n : Nat} {sy : Nat → Nat → Nat} {op xp yp : Nat → Nat}
/-- the symbol that a code is about: -1, or a number -/
def abX (f : Nat → Nat) (c : Nat) : Int32 := if 2 < c % 10 ∨ lnS f < c / 10 then -1 else nI (f (c / 10))
theorem sp_Model_about_neg {r : Nat} {c : Int32} (hc : c < 0) (hQ : Q (.ok (some (.int (-1)))) (94, g, i, q, RT t)) : Wx m_Model_about 0 [some (.ref 56), some (.int (nI r)), some (.int c)] [] (94, g, i, q, RT t) (0, 0) Q := by
  refine ex_iload_n (i := 2) dX10_about_0 rfl rfl ?_
  refine ex_if_lt (tgt := 25) dX10_about_1 (by decide) (fun h1 => ?_) (fun h1 => by exact absurd hc h1)
  refine ex_iconst (v := -1) dX10_about_25 (by decide) ?_
  refine ex_iret dX10_about_26 rfl rfl ?_
  exact hQ
theorem sp_Model_about {r c : Nat} (rg : RG i n sy) (hr : r < n) (hc : c < 2 ^ 31) (hQ : Q (.ok (some (.int (abX (sy r) c)))) (94, g, i, q, RT t)) : Wx m_Model_about 0 [some (.ref 56), some (.int (nI r)), some (.int (nI c))] [] (94, g, i, q, RT t) (0, 0) Q := by
  have hn := rg.2.2.2.2.1
  have e59 := rg.2.2.2.1 r hr
  have hl := lnR_le sy r
  unfold abX at hQ
  by_cases c1 : 2 < c % 10
  · rw [if_pos (Or.inl c1)] at hQ
    refine ex_iload_n (i := 2) dX10_about_0 rfl rfl ?_
    refine ex_if_ltN (tgt := 25) dX10_about_1 (by decide) (by omega) ?_
    refine ex_iload_n (i := 2) dX10_about_4 rfl rfl ?_
    refine ex_bipush (v := nI 10) dX10_about_5 (by decide) ?_
    refine ex_iremN dX10_about_7 (by omega) (by decide) (by decide) ?_
    refine ex_iconst (v := nI 2) dX10_about_8 (by decide) ?_
    refine ex_icmp_gtN (tgt := 25) dX10_about_9 (by decide) (by omega) (by omega) (fun h9 => ?_) (fun h9 => by omega)
    refine ex_iconst (v := -1) dX10_about_25 (by decide) ?_
    refine ex_iret dX10_about_26 rfl rfl ?_
    exact hQ
  · by_cases c2 : lnR sy r < c / 10
    · rw [if_pos (Or.inr c2)] at hQ
      refine ex_iload_n (i := 2) dX10_about_0 rfl rfl ?_
      refine ex_if_ltN (tgt := 25) dX10_about_1 (by decide) (by omega) ?_
      refine ex_iload_n (i := 2) dX10_about_4 rfl rfl ?_
      refine ex_bipush (v := nI 10) dX10_about_5 (by decide) ?_
      refine ex_iremN dX10_about_7 (by omega) (by decide) (by decide) ?_
      refine ex_iconst (v := nI 2) dX10_about_8 (by decide) ?_
      refine ex_icmp_gtN (tgt := 25) dX10_about_9 (by decide) (by omega) (by omega) (fun h9 => by omega) (fun h9 => ?_)
      refine ex_iload_n (i := 2) dX10_about_12 rfl rfl ?_
      refine ex_bipush (v := nI 10) dX10_about_13 (by decide) ?_
      refine ex_idivN dX10_about_15 (by omega) (by decide) (by decide) ?_
      refine ex_aload_n (i := 0) dX10_about_16 rfl rfl ?_
      refine ex_getR (v := .ref (59)) dX10_about_17 fl_Model_16 rfl rfl (by decide) rfl ?_
      refine ex_iload_n (i := 1) dX10_about_20 rfl rfl ?_
      refine ex_ialdN dX10_about_21 rfl (by decide) (by omega) rfl ?_
      refine ex_asN (a := lnR sy r) e59 ?_
      refine ex_icmp_leN (tgt := 27) dX10_about_22 (by decide) (by omega) (by omega) (fun h22 => by omega) (fun h22 => ?_)
      refine ex_iconst (v := -1) dX10_about_25 (by decide) ?_
      refine ex_iret dX10_about_26 rfl rfl ?_
      exact hQ
    · rw [if_neg (fun z => z.elim c1 c2)] at hQ
      by_cases c3 : c < 10
      · have e57 := rg.2.1 r hr
        have : c / 10 = 0 := by omega
        rw [this] at hQ
        refine ex_iload_n (i := 2) dX10_about_0 rfl rfl ?_
        refine ex_if_ltN (tgt := 25) dX10_about_1 (by decide) (by omega) ?_
        refine ex_iload_n (i := 2) dX10_about_4 rfl rfl ?_
        refine ex_bipush (v := nI 10) dX10_about_5 (by decide) ?_
        refine ex_iremN dX10_about_7 (by omega) (by decide) (by decide) ?_
        refine ex_iconst (v := nI 2) dX10_about_8 (by decide) ?_
        refine ex_icmp_gtN (tgt := 25) dX10_about_9 (by decide) (by omega) (by omega) (fun h9 => by omega) (fun h9 => ?_)
        refine ex_iload_n (i := 2) dX10_about_12 rfl rfl ?_
        refine ex_bipush (v := nI 10) dX10_about_13 (by decide) ?_
        refine ex_idivN dX10_about_15 (by omega) (by decide) (by decide) ?_
        refine ex_aload_n (i := 0) dX10_about_16 rfl rfl ?_
        refine ex_getR (v := .ref (59)) dX10_about_17 fl_Model_16 rfl rfl (by decide) rfl ?_
        refine ex_iload_n (i := 1) dX10_about_20 rfl rfl ?_
        refine ex_ialdN dX10_about_21 rfl (by decide) (by omega) rfl ?_
        refine ex_asN (a := lnR sy r) e59 ?_
        refine ex_icmp_leN (tgt := 27) dX10_about_22 (by decide) (by omega) (by omega) (fun h22 => ?_) (fun h22 => by omega)
        refine ex_iload_n (i := 2) dX10_about_27 rfl rfl ?_
        refine ex_bipush (v := nI 10) dX10_about_28 (by decide) ?_
        refine ex_icmp_geN (tgt := 42) dX10_about_30 (by decide) (by omega) (by omega) (fun h30 => by omega) (fun h30 => ?_)
        refine ex_aload_n (i := 0) dX10_about_33 rfl rfl ?_
        refine ex_getR (v := .ref (57)) dX10_about_34 fl_Model_7 rfl rfl (by decide) rfl ?_
        refine ex_iload_n (i := 1) dX10_about_37 rfl rfl ?_
        refine ex_ialdN dX10_about_38 rfl (by decide) (by omega) rfl ?_
        refine ex_asN (a := sy r 0) e57 ?_
        refine ex_goto (tgt := 57) dX10_about_39 (by decide) ?_
        refine ex_iret dX10_about_57 rfl rfl ?_
        exact hQ
      · have e58 : i 58 (4 * r + c / 10 - 1) = nI (sy r (c / 10)) := by
          have := rg.2.2.1 r (c / 10 - 1) hr (by omega)
          rw [show 4 * r + c / 10 - 1 = 4 * r + (c / 10 - 1) by omega, this, show c / 10 - 1 + 1 = c / 10 by omega]
        refine ex_iload_n (i := 2) dX10_about_0 rfl rfl ?_
        refine ex_if_ltN (tgt := 25) dX10_about_1 (by decide) (by omega) ?_
        refine ex_iload_n (i := 2) dX10_about_4 rfl rfl ?_
        refine ex_bipush (v := nI 10) dX10_about_5 (by decide) ?_
        refine ex_iremN dX10_about_7 (by omega) (by decide) (by decide) ?_
        refine ex_iconst (v := nI 2) dX10_about_8 (by decide) ?_
        refine ex_icmp_gtN (tgt := 25) dX10_about_9 (by decide) (by omega) (by omega) (fun h9 => by omega) (fun h9 => ?_)
        refine ex_iload_n (i := 2) dX10_about_12 rfl rfl ?_
        refine ex_bipush (v := nI 10) dX10_about_13 (by decide) ?_
        refine ex_idivN dX10_about_15 (by omega) (by decide) (by decide) ?_
        refine ex_aload_n (i := 0) dX10_about_16 rfl rfl ?_
        refine ex_getR (v := .ref (59)) dX10_about_17 fl_Model_16 rfl rfl (by decide) rfl ?_
        refine ex_iload_n (i := 1) dX10_about_20 rfl rfl ?_
        refine ex_ialdN dX10_about_21 rfl (by decide) (by omega) rfl ?_
        refine ex_asN (a := lnR sy r) e59 ?_
        refine ex_icmp_leN (tgt := 27) dX10_about_22 (by decide) (by omega) (by omega) (fun h22 => ?_) (fun h22 => by omega)
        refine ex_iload_n (i := 2) dX10_about_27 rfl rfl ?_
        refine ex_bipush (v := nI 10) dX10_about_28 (by decide) ?_
        refine ex_icmp_geN (tgt := 42) dX10_about_30 (by decide) (by omega) (by omega) (fun h30 => ?_) (fun h30 => by omega)
        refine ex_aload_n (i := 0) dX10_about_42 rfl rfl ?_
        refine ex_getR (v := .ref (58)) dX10_about_43 fl_Model_13 rfl rfl (by decide) rfl ?_
        refine ex_iconst (v := nI 4) dX10_about_46 (by decide) ?_
        refine ex_iload_n (i := 1) dX10_about_47 rfl rfl ?_
        refine ex_imulN dX10_about_48 ?_
        refine ex_iload_n (i := 2) dX10_about_49 rfl rfl ?_
        refine ex_bipush (v := nI 10) dX10_about_50 (by decide) ?_
        refine ex_idivN dX10_about_52 (by omega) (by decide) (by decide) ?_
        refine ex_iaddN dX10_about_53 ?_
        refine ex_iconst (v := nI 1) dX10_about_54 (by decide) ?_
        refine ex_isubN dX10_about_55 (by omega) ?_
        refine ex_ialdN dX10_about_56 rfl (by decide) (by omega) rfl ?_
        refine ex_asN (a := sy r (c / 10)) e58 ?_
        refine ex_iret dX10_about_57 rfl rfl ?_
        exact hQ
theorem lnR_nz {sy : Nat → Nat → Nat} {r k : Nat} (h1 : 1 ≤ k) (h : k ≤ lnR sy r) : 0 < sy r k := by
  unfold lnR lnS at h
  split at h
  · omega
  · split at h
    · rcases (show k = 1 by omega) with rfl; omega
    · split at h
      · rcases (show k = 1 ∨ k = 2 by omega) with rfl | rfl <;> omega
      · split at h
        · rcases (show k = 1 ∨ k = 2 ∨ k = 3 by omega) with rfl | rfl | rfl <;> omega
        · rcases (show k = 1 ∨ k = 2 ∨ k = 3 ∨ k = 4 by omega) with rfl | rfl | rfl | rfl <;> omega
theorem nt_tm {i : Nat → Nat → Int32} {n : Nat} {sy : Nat → Nat → Nat} {r c : Nat} (rg : RG i n sy) (hr : r < n) (hr15 : r < 15) (h5 : c / 10 < 5) (hz : 0 < sy r (c / 10)) (h2 : c % 10 = 2) (h : ntB (sy r (c / 10)) = 0) : 0 < c / 10 ∧ c % 10 = 2 ∧ tmB (sy r (c / 10)) = 1 := by
  have gw := rg.2.2.2.2
  by_cases c0 : c / 10 = 0
  · exfalso
    rw [c0] at h
    have := gw.2.2.1 r hr
    unfold ntB at h; rw [if_pos this] at h; exact absurd h (by decide)
  · refine ⟨by omega, h2, ?_⟩
    rcases gw.2.1 r (c / 10) hr15 (by omega) h5 with z | z | z
    · omega
    · unfold tmB; rw [if_pos z]
    · unfold ntB at h; rw [if_pos z] at h; exact absurd h (by decide)
theorem sp_Model_usable {r : Nat} {c : Int32} (rg : RG i n sy) (hr : r < n) (hQ : Q (.ok (some (.int (nI (usX (sy r) c))))) (94, g, i, q, RT t)) : Wx m_Model_usable 0 [some (.ref 56), some (.int (nI r)), some (.int c), none] [] (94, g, i, q, RT t) (0, 0) Q := by
  have hn := rg.2.2.2.2.1
  by_cases h : c < 0
  · rw [show usX (sy r) c = 0 from usX_0.mpr (plX_neg h)] at hQ
    refine ex_aload_n (i := 0) dX10_usable_0 rfl rfl ?_
    refine ex_iload_n (i := 1) dX10_usable_1 rfl rfl ?_
    refine ex_iload_n (i := 2) dX10_usable_2 rfl rfl ?_
    refine ex_cV (ν := m_Model_about) (a := 56) (ci := 10) (as := [.int (nI (r)), .int (c)]) dX10_usable_3 ln_Model_152 mf_Model_about rfl (Nat.le_of_ble_eq_true rfl) rfl rfl np_Model_about rfl rfl ⟨(Nat.le_of_ble_eq_true rfl), (Nat.le_of_ble_eq_true rfl), (Nat.le_of_ble_eq_true rfl), (Nat.le_of_ble_eq_true rfl)⟩ (by decide) ?_
    refine sp_Model_about_neg h ?_
    refine ⟨_, rfl, ?_⟩
    refine ex_istore_n (L' := [some (.ref (56)), some (.int (nI (r))), some (.int (c)), some (.int ((-1)))]) dX10_usable_6 (i := 3) rfl (by decide) rfl ?_
    refine ex_iload_n (i := 3) dX10_usable_7 rfl rfl ?_
    refine ex_if_le (tgt := 30) dX10_usable_8 (by decide) (fun h8 => ?_) (fun h8 => by exact absurd (by decide) h8)
    refine ex_iconst (v := nI 0) dX10_usable_30 (by decide) ?_
    refine ex_iret dX10_usable_31 rfl (by decide) ?_
    exact hQ
  · obtain ⟨c, hc, rfl⟩ := nI_of h
    have hsy : ∀ k, k < 5 → sy r k < 2 ^ 31 := fun k hk => by have := rg.2.2.2.2.le (r := r) (k := k) (by omega) hk; omega
    have hl := lnR_le sy r
    by_cases ha : 2 < c % 10 ∨ lnR sy r < c / 10
    · have e : usX (sy r) (nI c) = 0 := usX_0.mpr (by rw [plX_nat hc]; unfold plS; rw [if_pos (by rcases ha with z | z; exact Or.inr (Or.inl (by omega)); exact Or.inl z)])
      rw [e] at hQ
      refine ex_aload_n (i := 0) dX10_usable_0 rfl rfl ?_
      refine ex_iload_n (i := 1) dX10_usable_1 rfl rfl ?_
      refine ex_iload_n (i := 2) dX10_usable_2 rfl rfl ?_
      refine ex_cV (ν := m_Model_about) (a := 56) (ci := 10) (as := [.int (nI (r)), .int (nI (c))]) dX10_usable_3 ln_Model_152 mf_Model_about rfl (Nat.le_of_ble_eq_true rfl) rfl rfl np_Model_about rfl rfl ⟨(Nat.le_of_ble_eq_true rfl), (Nat.le_of_ble_eq_true rfl), (Nat.le_of_ble_eq_true rfl), (Nat.le_of_ble_eq_true rfl)⟩ (by decide) ?_
      refine sp_Model_about rg hr hc ?_
      refine ⟨_, rfl, ?_⟩
      refine ex_asI (y := -1) (by unfold abX; rw [if_pos ha]) ?_
      refine ex_istore_n (L' := [some (.ref (56)), some (.int (nI (r))), some (.int (nI (c))), some (.int ((-1)))]) dX10_usable_6 (i := 3) rfl (by decide) rfl ?_
      refine ex_iload_n (i := 3) dX10_usable_7 rfl rfl ?_
      refine ex_if_le (tgt := 30) dX10_usable_8 (by decide) (fun h8 => ?_) (fun h8 => by exact absurd (by decide) h8)
      refine ex_iconst (v := nI 0) dX10_usable_30 (by decide) ?_
      refine ex_iret dX10_usable_31 rfl (by decide) ?_
      exact hQ
    · have hz : 0 < sy r (c / 10) := by
        by_cases c0 : c / 10 = 0
        · rw [c0]; have := (rg.2.2.2.2.2.2.1 r hr).1; omega
        · have h1 : ¬ lnR sy r < c / 10 := fun z => ha (Or.inr z)
          exact lnR_nz (by omega) (by omega)
      have h5 : c / 10 < 5 := by have : ¬ lnR sy r < c / 10 := fun z => ha (Or.inr z); omega
      have hs31 := hsy _ h5
      by_cases c2 : c % 10 < 2
      · have e : usX (sy r) (nI c) = 1 := by unfold usX; rw [plX_nat hc]; unfold plS; rw [if_neg (by rintro (z | z | z); exact ha (Or.inr z); omega; omega)]
        rw [e] at hQ
        refine ex_aload_n (i := 0) dX10_usable_0 rfl rfl ?_
        refine ex_iload_n (i := 1) dX10_usable_1 rfl rfl ?_
        refine ex_iload_n (i := 2) dX10_usable_2 rfl rfl ?_
        refine ex_cV (ν := m_Model_about) (a := 56) (ci := 10) (as := [.int (nI (r)), .int (nI (c))]) dX10_usable_3 ln_Model_152 mf_Model_about rfl (Nat.le_of_ble_eq_true rfl) rfl rfl np_Model_about rfl rfl ⟨(Nat.le_of_ble_eq_true rfl), (Nat.le_of_ble_eq_true rfl), (Nat.le_of_ble_eq_true rfl), (Nat.le_of_ble_eq_true rfl)⟩ (by decide) ?_
        refine sp_Model_about rg hr hc ?_
        refine ⟨_, rfl, ?_⟩
        refine ex_asN (a := sy r (c / 10)) (by unfold abX; rw [if_neg ha]) ?_
        refine ex_istore_n (L' := [some (.ref (56)), some (.int (nI (r))), some (.int (nI (c))), some (.int (nI (sy r (c / 10))))]) dX10_usable_6 (i := 3) rfl (by decide) rfl ?_
        refine ex_iload_n (i := 3) dX10_usable_7 rfl rfl ?_
        refine ex_if_leN (tgt := 30) dX10_usable_8 (by decide) (by omega) (fun h8 => by omega) (fun h8 => ?_)
        refine ex_iload_n (i := 2) dX10_usable_11 rfl rfl ?_
        refine ex_bipush (v := nI 10) dX10_usable_12 (by decide) ?_
        refine ex_iremN dX10_usable_14 (by omega) (by decide) (by decide) ?_
        refine ex_iconst (v := nI 2) dX10_usable_15 (by decide) ?_
        refine ex_icmp_ltN (tgt := 26) dX10_usable_16 (by decide) (by omega) (by omega) (fun h16 => ?_) (fun h16 => by omega)
        refine ex_iconst (v := nI 1) dX10_usable_26 (by decide) ?_
        refine ex_goto (tgt := 31) dX10_usable_27 (by decide) ?_
        refine ex_iret dX10_usable_31 rfl (by decide) ?_
        exact hQ
      · by_cases c4 : ntB (sy r (c / 10)) = 0
        · have e : usX (sy r) (nI c) = 0 := usX_0.mpr (by rw [plX_nat hc]; unfold plS; rw [if_pos (Or.inr (Or.inr (nt_tm rg hr (by omega) h5 hz (by have : ¬ 2 < c % 10 := fun z => ha (Or.inl z); omega) c4)))])
          rw [e] at hQ
          refine ex_aload_n (i := 0) dX10_usable_0 rfl rfl ?_
          refine ex_iload_n (i := 1) dX10_usable_1 rfl rfl ?_
          refine ex_iload_n (i := 2) dX10_usable_2 rfl rfl ?_
          refine ex_cV (ν := m_Model_about) (a := 56) (ci := 10) (as := [.int (nI (r)), .int (nI (c))]) dX10_usable_3 ln_Model_152 mf_Model_about rfl (Nat.le_of_ble_eq_true rfl) rfl rfl np_Model_about rfl rfl ⟨(Nat.le_of_ble_eq_true rfl), (Nat.le_of_ble_eq_true rfl), (Nat.le_of_ble_eq_true rfl), (Nat.le_of_ble_eq_true rfl)⟩ (by decide) ?_
          refine sp_Model_about rg hr hc ?_
          refine ⟨_, rfl, ?_⟩
          refine ex_asN (a := sy r (c / 10)) (by unfold abX; rw [if_neg ha]) ?_
          refine ex_istore_n (L' := [some (.ref (56)), some (.int (nI (r))), some (.int (nI (c))), some (.int (nI (sy r (c / 10))))]) dX10_usable_6 (i := 3) rfl (by decide) rfl ?_
          refine ex_iload_n (i := 3) dX10_usable_7 rfl rfl ?_
          refine ex_if_leN (tgt := 30) dX10_usable_8 (by decide) (by omega) (fun h8 => by omega) (fun h8 => ?_)
          refine ex_iload_n (i := 2) dX10_usable_11 rfl rfl ?_
          refine ex_bipush (v := nI 10) dX10_usable_12 (by decide) ?_
          refine ex_iremN dX10_usable_14 (by omega) (by decide) (by decide) ?_
          refine ex_iconst (v := nI 2) dX10_usable_15 (by decide) ?_
          refine ex_icmp_ltN (tgt := 26) dX10_usable_16 (by decide) (by omega) (by omega) (fun h16 => by omega) (fun h16 => ?_)
          refine ex_iload_n (i := 3) dX10_usable_19 rfl rfl ?_
          refine ex_cS (ν := m_Model_nonterminal) (as := [.int (nI (sy r (c / 10)))]) dX10_usable_20 ln_Model_135 mf_Model_nonterminal np_Model_nonterminal rfl rfl ⟨(Nat.le_of_ble_eq_true rfl), (Nat.le_of_ble_eq_true rfl), (Nat.le_of_ble_eq_true rfl), (Nat.le_of_ble_eq_true rfl)⟩ (by decide) ?_
          refine sp_Model_nonterminal_N hs31 ?_
          refine ⟨_, rfl, ?_⟩
          refine ex_if_eqN (tgt := 30) dX10_usable_23 (by decide) (ntB_b _) (fun h23 => ?_) (fun h23 => by exact absurd c4 h23)
          refine ex_iconst (v := nI 0) dX10_usable_30 (by decide) ?_
          refine ex_iret dX10_usable_31 rfl (by decide) ?_
          exact hQ
        · have e : usX (sy r) (nI c) = 1 := by unfold usX; rw [plX_nat hc]; unfold plS; rw [if_neg (by rintro (z | z | z); exact ha (Or.inr z); exact ha (Or.inl (by omega)); exact c4 (by have z2 := z.2.2; unfold tmB at z2; unfold ntB; split at z2; rw [if_neg (by omega)]; exact absurd z2 (by decide)))]
          rw [e] at hQ
          refine ex_aload_n (i := 0) dX10_usable_0 rfl rfl ?_
          refine ex_iload_n (i := 1) dX10_usable_1 rfl rfl ?_
          refine ex_iload_n (i := 2) dX10_usable_2 rfl rfl ?_
          refine ex_cV (ν := m_Model_about) (a := 56) (ci := 10) (as := [.int (nI (r)), .int (nI (c))]) dX10_usable_3 ln_Model_152 mf_Model_about rfl (Nat.le_of_ble_eq_true rfl) rfl rfl np_Model_about rfl rfl ⟨(Nat.le_of_ble_eq_true rfl), (Nat.le_of_ble_eq_true rfl), (Nat.le_of_ble_eq_true rfl), (Nat.le_of_ble_eq_true rfl)⟩ (by decide) ?_
          refine sp_Model_about rg hr hc ?_
          refine ⟨_, rfl, ?_⟩
          refine ex_asN (a := sy r (c / 10)) (by unfold abX; rw [if_neg ha]) ?_
          refine ex_istore_n (L' := [some (.ref (56)), some (.int (nI (r))), some (.int (nI (c))), some (.int (nI (sy r (c / 10))))]) dX10_usable_6 (i := 3) rfl (by decide) rfl ?_
          refine ex_iload_n (i := 3) dX10_usable_7 rfl rfl ?_
          refine ex_if_leN (tgt := 30) dX10_usable_8 (by decide) (by omega) (fun h8 => by omega) (fun h8 => ?_)
          refine ex_iload_n (i := 2) dX10_usable_11 rfl rfl ?_
          refine ex_bipush (v := nI 10) dX10_usable_12 (by decide) ?_
          refine ex_iremN dX10_usable_14 (by omega) (by decide) (by decide) ?_
          refine ex_iconst (v := nI 2) dX10_usable_15 (by decide) ?_
          refine ex_icmp_ltN (tgt := 26) dX10_usable_16 (by decide) (by omega) (by omega) (fun h16 => by omega) (fun h16 => ?_)
          refine ex_iload_n (i := 3) dX10_usable_19 rfl rfl ?_
          refine ex_cS (ν := m_Model_nonterminal) (as := [.int (nI (sy r (c / 10)))]) dX10_usable_20 ln_Model_135 mf_Model_nonterminal np_Model_nonterminal rfl rfl ⟨(Nat.le_of_ble_eq_true rfl), (Nat.le_of_ble_eq_true rfl), (Nat.le_of_ble_eq_true rfl), (Nat.le_of_ble_eq_true rfl)⟩ (by decide) ?_
          refine sp_Model_nonterminal_N hs31 ?_
          refine ⟨_, rfl, ?_⟩
          refine ex_if_eqN (tgt := 30) dX10_usable_23 (by decide) (ntB_b _) (fun h23 => by exact absurd h23 c4) (fun h23 => ?_)
          refine ex_iconst (v := nI 1) dX10_usable_26 (by decide) ?_
          refine ex_goto (tgt := 31) dX10_usable_27 (by decide) ?_
          refine ex_iret dX10_usable_31 rfl (by decide) ?_
          exact hQ
theorem sp_Model_index {r c : Nat} (hr : r < 14) (hc : c < 2 ^ 31) (hQ : Q (.ok (some (.int (nI (15 * r + 3 * (c / 10) + c % 10))))) (94, g, i, q, RT t)) : Wx m_Model_index 0 [some (.int (nI r)), some (.int (nI c))] [] (94, g, i, q, RT t) (0, 0) Q := by
  refine ex_bipush (v := nI 15) dX10_index_0 (by decide) ?_
  refine ex_iload_n (i := 0) dX10_index_2 rfl rfl ?_
  refine ex_imulN dX10_index_3 ?_
  refine ex_iconst (v := nI 3) dX10_index_4 (by decide) ?_
  refine ex_iload_n (i := 1) dX10_index_5 rfl rfl ?_
  refine ex_bipush (v := nI 10) dX10_index_6 (by decide) ?_
  refine ex_idivN dX10_index_8 (by omega) (by decide) (by decide) ?_
  refine ex_imulN dX10_index_9 ?_
  refine ex_iaddN dX10_index_10 ?_
  refine ex_iload_n (i := 1) dX10_index_11 rfl rfl ?_
  refine ex_bipush (v := nI 10) dX10_index_12 (by decide) ?_
  refine ex_iremN dX10_index_14 (by omega) (by decide) (by decide) ?_
  refine ex_iaddN dX10_index_15 ?_
  refine ex_iret dX10_index_16 rfl rfl ?_
  exact hQ
end S57
