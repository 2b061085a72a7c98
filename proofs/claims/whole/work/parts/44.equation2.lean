/-! ===== Grammar: codes as given, isDefinable, addEquation ===== -/
def plX (f : Nat → Nat) (x : Int32) : Option Nat := if x < 0 then none else plS f x.toNatClampNeg
def plI : Option Nat → Int32
  | none => -1
  | some p => nI p
theorem plX_neg {f : Nat → Nat} {x : Int32} (h : x < 0) : plX f x = none := if_pos h
theorem plX_nat {f : Nat → Nat} {c : Nat} (h : c < 2 ^ 31) : plX f (nI c) = plS f c := by
  unfold plX
  rw [if_neg (nI_pos h), nI_clamp h]
theorem plS_lt {f : Nat → Nat} {c p : Nat} (h : plS f c = some p) : p < 15 ∧ p / 3 ≤ lnS f ∧ p = c / 10 * 3 + c % 10 ∧ c % 10 < 3 := by
  have hl := lnS_le f
  unfold plS at h
  split at h
  · exact absurd h (by simp)
  · rename_i h2
    simp only [Option.some.injEq] at h
    have h3 : ¬ lnS f < c / 10 := fun z => h2 (Or.inl z)
    have h4 : ¬ 3 ≤ c % 10 := fun z => h2 (Or.inr (Or.inl z))
    omega
theorem plX_lt {f : Nat → Nat} {x : Int32} {p : Nat} (h : plX f x = some p) : p < 15 ∧ p / 3 ≤ lnS f := by
  unfold plX at h
  split at h
  · exact absurd h (by simp)
  · have := plS_lt h; exact ⟨this.1, this.2.1⟩
def dfX (f : Nat → Nat) (x : Int32) : Nat := if x < 0 then 0 else if plS f x.toNatClampNeg = none ∨ (x.toNatClampNeg < 10 ∧ x.toNatClampNeg % 10 = 2) ∨ (10 ≤ x.toNatClampNeg ∧ ¬ x.toNatClampNeg % 10 = 2) then 0 else 1
section S44
variable {g : Nat} {i : Nat → Nat → Int32} {q : Nat → Nat → Int64} {t : Bool} {Q : xRes → xMem → Prop} {n : Nat} {sy : Nat → Nat → Nat} {op xp yp : Nat → Nat}
theorem sp_Grammar_placeOf_I {r : Nat} {x : Int32} (sc : SC i) (gs : GS i n sy) (hr : r < 15) (hQ : Q (.ok (some (.int (plI (plX (sy r) x))))) (94, g, i, q, RT t)) : Wx m_Grammar_placeOf 0 [some (.ref 1), some (.int (nI r)), some (.int x), none, none] [] (94, g, i, q, RT t) (0, 0) Q := by
  by_cases h : x < 0
  · rw [plX_neg h] at hQ
    exact sp_Grammar_placeOf_neg h hQ
  · obtain ⟨c, hc, rfl⟩ := nI_of h
    rw [plX_nat hc] at hQ
    refine sp_Grammar_placeOf (f := sy r) sc hr hc (fun k hk => gs.2.1 r k hr hk) (fun k hk => Nat.lt_of_le_of_lt (gs.2.2.le hr hk) (by decide)) ?_
    cases hp : plS (sy r) c with
    | none => rw [hp] at hQ; exact hQ
    | some p => rw [hp] at hQ; exact hQ
theorem sp_Grammar_isDefinable {r : Nat} {x : Int32} (sc : SC i) (gs : GS i n sy) (hr : r < 15) (hQ : Q (.ok (some (.int (nI (dfX (sy r) x))))) (94, g, i, q, RT t)) : Wx m_Grammar_isDefinable 0 [some (.ref 1), some (.int (nI r)), some (.int x), none, none] [] (94, g, i, q, RT t) (0, 0) Q := by
  unfold dfX at hQ
  by_cases h : x < 0
  · rw [if_pos h] at hQ
    refine ex_iload_n (i := 2) dX1_isDefinable_0 rfl rfl ?_
    refine ex_bipush (v := nI 10) dX1_isDefinable_1 (by decide) ?_
    refine ex_icmp_ge (tgt := 10) dX1_isDefinable_3 (by decide) (fun hx3 => ?_) (fun hx3 => ?_)
    · refine ex_iconst (v := nI 0) dX1_isDefinable_10 (by decide) ?_
      refine ex_istore_n (L' := [some (.ref (1)), some (.int (nI (r))), some (.int (x)), some (.int (nI (0))), none]) dX1_isDefinable_11 (i := 3) rfl (by decide) rfl ?_
      refine ex_iload_n (i := 2) dX1_isDefinable_12 rfl rfl ?_
      refine ex_bipush (v := nI 10) dX1_isDefinable_13 (by decide) ?_
      refine ex_irem dX1_isDefinable_15 (by decide) ?_
      refine ex_iconst (v := nI 2) dX1_isDefinable_16 (by decide) ?_
      refine ex_icmp_ne (tgt := 24) dX1_isDefinable_17 (by decide) (fun hx17 => ?_) (fun hx17 => ?_)
      · refine ex_iconst (v := nI 0) dX1_isDefinable_24 (by decide) ?_
        refine ex_istore (L' := [some (.ref (1)), some (.int (nI (r))), some (.int (x)), some (.int (nI (0))), some (.int (nI (0)))]) dX1_isDefinable_25 (by decide) rfl ?_
        refine ex_aload_n (i := 0) dX1_isDefinable_27 rfl rfl ?_
        refine ex_iload_n (i := 1) dX1_isDefinable_28 rfl rfl ?_
        refine ex_iload_n (i := 2) dX1_isDefinable_29 rfl rfl ?_
        refine ex_cV (ν := m_Grammar_placeOf) (a := 1) (ci := 1) (as := [.int (nI (r)), .int (x)]) dX1_isDefinable_30 ln_Grammar_94 mf_Grammar_placeOf rfl (Nat.le_of_ble_eq_true rfl) rfl rfl np_Grammar_placeOf rfl rfl ⟨(Nat.le_of_ble_eq_true rfl), (Nat.le_of_ble_eq_true rfl), (Nat.le_of_ble_eq_true rfl), (Nat.le_of_ble_eq_true rfl)⟩ (by decide) ?_
        refine sp_Grammar_placeOf_neg h ?_
        refine ⟨_, rfl, ?_⟩
        refine ex_if_lt (tgt := 46) dX1_isDefinable_33 (by decide) (fun hx33 => ?_) (fun hx33 => by exact absurd (by decide) hx33)
        refine ex_iconst (v := nI 0) dX1_isDefinable_46 (by decide) ?_
        refine ex_iret dX1_isDefinable_47 rfl (by decide) ?_
        exact hQ
      · refine ex_iconst (v := nI 1) dX1_isDefinable_20 (by decide) ?_
        refine ex_goto (tgt := 25) dX1_isDefinable_21 (by decide) ?_
        refine ex_istore (L' := [some (.ref (1)), some (.int (nI (r))), some (.int (x)), some (.int (nI (0))), some (.int (nI (1)))]) dX1_isDefinable_25 (by decide) rfl ?_
        refine ex_aload_n (i := 0) dX1_isDefinable_27 rfl rfl ?_
        refine ex_iload_n (i := 1) dX1_isDefinable_28 rfl rfl ?_
        refine ex_iload_n (i := 2) dX1_isDefinable_29 rfl rfl ?_
        refine ex_cV (ν := m_Grammar_placeOf) (a := 1) (ci := 1) (as := [.int (nI (r)), .int (x)]) dX1_isDefinable_30 ln_Grammar_94 mf_Grammar_placeOf rfl (Nat.le_of_ble_eq_true rfl) rfl rfl np_Grammar_placeOf rfl rfl ⟨(Nat.le_of_ble_eq_true rfl), (Nat.le_of_ble_eq_true rfl), (Nat.le_of_ble_eq_true rfl), (Nat.le_of_ble_eq_true rfl)⟩ (by decide) ?_
        refine sp_Grammar_placeOf_neg h ?_
        refine ⟨_, rfl, ?_⟩
        refine ex_if_lt (tgt := 46) dX1_isDefinable_33 (by decide) (fun hx33 => ?_) (fun hx33 => by exact absurd (by decide) hx33)
        refine ex_iconst (v := nI 0) dX1_isDefinable_46 (by decide) ?_
        refine ex_iret dX1_isDefinable_47 rfl (by decide) ?_
        exact hQ
    · refine ex_iconst (v := nI 1) dX1_isDefinable_6 (by decide) ?_
      refine ex_goto (tgt := 11) dX1_isDefinable_7 (by decide) ?_
      refine ex_istore_n (L' := [some (.ref (1)), some (.int (nI (r))), some (.int (x)), some (.int (nI (1))), none]) dX1_isDefinable_11 (i := 3) rfl (by decide) rfl ?_
      refine ex_iload_n (i := 2) dX1_isDefinable_12 rfl rfl ?_
      refine ex_bipush (v := nI 10) dX1_isDefinable_13 (by decide) ?_
      refine ex_irem dX1_isDefinable_15 (by decide) ?_
      refine ex_iconst (v := nI 2) dX1_isDefinable_16 (by decide) ?_
      refine ex_icmp_ne (tgt := 24) dX1_isDefinable_17 (by decide) (fun hx17 => ?_) (fun hx17 => ?_)
      · refine ex_iconst (v := nI 0) dX1_isDefinable_24 (by decide) ?_
        refine ex_istore (L' := [some (.ref (1)), some (.int (nI (r))), some (.int (x)), some (.int (nI (1))), some (.int (nI (0)))]) dX1_isDefinable_25 (by decide) rfl ?_
        refine ex_aload_n (i := 0) dX1_isDefinable_27 rfl rfl ?_
        refine ex_iload_n (i := 1) dX1_isDefinable_28 rfl rfl ?_
        refine ex_iload_n (i := 2) dX1_isDefinable_29 rfl rfl ?_
        refine ex_cV (ν := m_Grammar_placeOf) (a := 1) (ci := 1) (as := [.int (nI (r)), .int (x)]) dX1_isDefinable_30 ln_Grammar_94 mf_Grammar_placeOf rfl (Nat.le_of_ble_eq_true rfl) rfl rfl np_Grammar_placeOf rfl rfl ⟨(Nat.le_of_ble_eq_true rfl), (Nat.le_of_ble_eq_true rfl), (Nat.le_of_ble_eq_true rfl), (Nat.le_of_ble_eq_true rfl)⟩ (by decide) ?_
        refine sp_Grammar_placeOf_neg h ?_
        refine ⟨_, rfl, ?_⟩
        refine ex_if_lt (tgt := 46) dX1_isDefinable_33 (by decide) (fun hx33 => ?_) (fun hx33 => by exact absurd (by decide) hx33)
        refine ex_iconst (v := nI 0) dX1_isDefinable_46 (by decide) ?_
        refine ex_iret dX1_isDefinable_47 rfl (by decide) ?_
        exact hQ
      · refine ex_iconst (v := nI 1) dX1_isDefinable_20 (by decide) ?_
        refine ex_goto (tgt := 25) dX1_isDefinable_21 (by decide) ?_
        refine ex_istore (L' := [some (.ref (1)), some (.int (nI (r))), some (.int (x)), some (.int (nI (1))), some (.int (nI (1)))]) dX1_isDefinable_25 (by decide) rfl ?_
        refine ex_aload_n (i := 0) dX1_isDefinable_27 rfl rfl ?_
        refine ex_iload_n (i := 1) dX1_isDefinable_28 rfl rfl ?_
        refine ex_iload_n (i := 2) dX1_isDefinable_29 rfl rfl ?_
        refine ex_cV (ν := m_Grammar_placeOf) (a := 1) (ci := 1) (as := [.int (nI (r)), .int (x)]) dX1_isDefinable_30 ln_Grammar_94 mf_Grammar_placeOf rfl (Nat.le_of_ble_eq_true rfl) rfl rfl np_Grammar_placeOf rfl rfl ⟨(Nat.le_of_ble_eq_true rfl), (Nat.le_of_ble_eq_true rfl), (Nat.le_of_ble_eq_true rfl), (Nat.le_of_ble_eq_true rfl)⟩ (by decide) ?_
        refine sp_Grammar_placeOf_neg h ?_
        refine ⟨_, rfl, ?_⟩
        refine ex_if_lt (tgt := 46) dX1_isDefinable_33 (by decide) (fun hx33 => ?_) (fun hx33 => by exact absurd (by decide) hx33)
        refine ex_iconst (v := nI 0) dX1_isDefinable_46 (by decide) ?_
        refine ex_iret dX1_isDefinable_47 rfl (by decide) ?_
        exact hQ
  · rw [if_neg h] at hQ
    obtain ⟨c, hc, rfl⟩ := nI_of h
    rw [nI_clamp hc] at hQ
    cases hp : plS (sy r) c with
    | none =>
      rw [hp, if_pos (Or.inl rfl)] at hQ
      have e : plX (sy r) (nI c) = none := by rw [plX_nat hc]; exact hp
      refine ex_iload_n (i := 2) dX1_isDefinable_0 rfl rfl ?_
      refine ex_bipush (v := nI 10) dX1_isDefinable_1 (by decide) ?_
      refine ex_icmp_geN (tgt := 10) dX1_isDefinable_3 (by decide) (by omega) (by omega) (fun hx3 => ?_) (fun hx3 => ?_)
      · refine ex_iconst (v := nI 0) dX1_isDefinable_10 (by decide) ?_
        refine ex_istore_n (L' := [some (.ref (1)), some (.int (nI (r))), some (.int (nI (c))), some (.int (nI (0))), none]) dX1_isDefinable_11 (i := 3) rfl (by decide) rfl ?_
        refine ex_iload_n (i := 2) dX1_isDefinable_12 rfl rfl ?_
        refine ex_bipush (v := nI 10) dX1_isDefinable_13 (by decide) ?_
        refine ex_iremN dX1_isDefinable_15 (by omega) (by decide) (by decide) ?_
        refine ex_iconst (v := nI 2) dX1_isDefinable_16 (by decide) ?_
        refine ex_icmp_neN (tgt := 24) dX1_isDefinable_17 (by decide) (by omega) (by omega) (fun hx17 => ?_) (fun hx17 => ?_)
        · refine ex_iconst (v := nI 0) dX1_isDefinable_24 (by decide) ?_
          refine ex_istore (L' := [some (.ref (1)), some (.int (nI (r))), some (.int (nI (c))), some (.int (nI (0))), some (.int (nI (0)))]) dX1_isDefinable_25 (by decide) rfl ?_
          refine ex_aload_n (i := 0) dX1_isDefinable_27 rfl rfl ?_
          refine ex_iload_n (i := 1) dX1_isDefinable_28 rfl rfl ?_
          refine ex_iload_n (i := 2) dX1_isDefinable_29 rfl rfl ?_
          refine ex_cV (ν := m_Grammar_placeOf) (a := 1) (ci := 1) (as := [.int (nI (r)), .int (nI (c))]) dX1_isDefinable_30 ln_Grammar_94 mf_Grammar_placeOf rfl (Nat.le_of_ble_eq_true rfl) rfl rfl np_Grammar_placeOf rfl rfl ⟨(Nat.le_of_ble_eq_true rfl), (Nat.le_of_ble_eq_true rfl), (Nat.le_of_ble_eq_true rfl), (Nat.le_of_ble_eq_true rfl)⟩ (by decide) ?_
          refine sp_Grammar_placeOf_I sc gs hr ?_
          refine ⟨_, rfl, ?_⟩
          refine ex_asI (y := -1) (by rw [e]; rfl) ?_
          refine ex_if_lt (tgt := 46) dX1_isDefinable_33 (by decide) (fun hx33 => ?_) (fun hx33 => by exact absurd (by decide) hx33)
          refine ex_iconst (v := nI 0) dX1_isDefinable_46 (by decide) ?_
          refine ex_iret dX1_isDefinable_47 rfl (by decide) ?_
          exact hQ
        · refine ex_iconst (v := nI 1) dX1_isDefinable_20 (by decide) ?_
          refine ex_goto (tgt := 25) dX1_isDefinable_21 (by decide) ?_
          refine ex_istore (L' := [some (.ref (1)), some (.int (nI (r))), some (.int (nI (c))), some (.int (nI (0))), some (.int (nI (1)))]) dX1_isDefinable_25 (by decide) rfl ?_
          refine ex_aload_n (i := 0) dX1_isDefinable_27 rfl rfl ?_
          refine ex_iload_n (i := 1) dX1_isDefinable_28 rfl rfl ?_
          refine ex_iload_n (i := 2) dX1_isDefinable_29 rfl rfl ?_
          refine ex_cV (ν := m_Grammar_placeOf) (a := 1) (ci := 1) (as := [.int (nI (r)), .int (nI (c))]) dX1_isDefinable_30 ln_Grammar_94 mf_Grammar_placeOf rfl (Nat.le_of_ble_eq_true rfl) rfl rfl np_Grammar_placeOf rfl rfl ⟨(Nat.le_of_ble_eq_true rfl), (Nat.le_of_ble_eq_true rfl), (Nat.le_of_ble_eq_true rfl), (Nat.le_of_ble_eq_true rfl)⟩ (by decide) ?_
          refine sp_Grammar_placeOf_I sc gs hr ?_
          refine ⟨_, rfl, ?_⟩
          refine ex_asI (y := -1) (by rw [e]; rfl) ?_
          refine ex_if_lt (tgt := 46) dX1_isDefinable_33 (by decide) (fun hx33 => ?_) (fun hx33 => by exact absurd (by decide) hx33)
          refine ex_iconst (v := nI 0) dX1_isDefinable_46 (by decide) ?_
          refine ex_iret dX1_isDefinable_47 rfl (by decide) ?_
          exact hQ
      · refine ex_iconst (v := nI 1) dX1_isDefinable_6 (by decide) ?_
        refine ex_goto (tgt := 11) dX1_isDefinable_7 (by decide) ?_
        refine ex_istore_n (L' := [some (.ref (1)), some (.int (nI (r))), some (.int (nI (c))), some (.int (nI (1))), none]) dX1_isDefinable_11 (i := 3) rfl (by decide) rfl ?_
        refine ex_iload_n (i := 2) dX1_isDefinable_12 rfl rfl ?_
        refine ex_bipush (v := nI 10) dX1_isDefinable_13 (by decide) ?_
        refine ex_iremN dX1_isDefinable_15 (by omega) (by decide) (by decide) ?_
        refine ex_iconst (v := nI 2) dX1_isDefinable_16 (by decide) ?_
        refine ex_icmp_neN (tgt := 24) dX1_isDefinable_17 (by decide) (by omega) (by omega) (fun hx17 => ?_) (fun hx17 => ?_)
        · refine ex_iconst (v := nI 0) dX1_isDefinable_24 (by decide) ?_
          refine ex_istore (L' := [some (.ref (1)), some (.int (nI (r))), some (.int (nI (c))), some (.int (nI (1))), some (.int (nI (0)))]) dX1_isDefinable_25 (by decide) rfl ?_
          refine ex_aload_n (i := 0) dX1_isDefinable_27 rfl rfl ?_
          refine ex_iload_n (i := 1) dX1_isDefinable_28 rfl rfl ?_
          refine ex_iload_n (i := 2) dX1_isDefinable_29 rfl rfl ?_
          refine ex_cV (ν := m_Grammar_placeOf) (a := 1) (ci := 1) (as := [.int (nI (r)), .int (nI (c))]) dX1_isDefinable_30 ln_Grammar_94 mf_Grammar_placeOf rfl (Nat.le_of_ble_eq_true rfl) rfl rfl np_Grammar_placeOf rfl rfl ⟨(Nat.le_of_ble_eq_true rfl), (Nat.le_of_ble_eq_true rfl), (Nat.le_of_ble_eq_true rfl), (Nat.le_of_ble_eq_true rfl)⟩ (by decide) ?_
          refine sp_Grammar_placeOf_I sc gs hr ?_
          refine ⟨_, rfl, ?_⟩
          refine ex_asI (y := -1) (by rw [e]; rfl) ?_
          refine ex_if_lt (tgt := 46) dX1_isDefinable_33 (by decide) (fun hx33 => ?_) (fun hx33 => by exact absurd (by decide) hx33)
          refine ex_iconst (v := nI 0) dX1_isDefinable_46 (by decide) ?_
          refine ex_iret dX1_isDefinable_47 rfl (by decide) ?_
          exact hQ
        · refine ex_iconst (v := nI 1) dX1_isDefinable_20 (by decide) ?_
          refine ex_goto (tgt := 25) dX1_isDefinable_21 (by decide) ?_
          refine ex_istore (L' := [some (.ref (1)), some (.int (nI (r))), some (.int (nI (c))), some (.int (nI (1))), some (.int (nI (1)))]) dX1_isDefinable_25 (by decide) rfl ?_
          refine ex_aload_n (i := 0) dX1_isDefinable_27 rfl rfl ?_
          refine ex_iload_n (i := 1) dX1_isDefinable_28 rfl rfl ?_
          refine ex_iload_n (i := 2) dX1_isDefinable_29 rfl rfl ?_
          refine ex_cV (ν := m_Grammar_placeOf) (a := 1) (ci := 1) (as := [.int (nI (r)), .int (nI (c))]) dX1_isDefinable_30 ln_Grammar_94 mf_Grammar_placeOf rfl (Nat.le_of_ble_eq_true rfl) rfl rfl np_Grammar_placeOf rfl rfl ⟨(Nat.le_of_ble_eq_true rfl), (Nat.le_of_ble_eq_true rfl), (Nat.le_of_ble_eq_true rfl), (Nat.le_of_ble_eq_true rfl)⟩ (by decide) ?_
          refine sp_Grammar_placeOf_I sc gs hr ?_
          refine ⟨_, rfl, ?_⟩
          refine ex_asI (y := -1) (by rw [e]; rfl) ?_
          refine ex_if_lt (tgt := 46) dX1_isDefinable_33 (by decide) (fun hx33 => ?_) (fun hx33 => by exact absurd (by decide) hx33)
          refine ex_iconst (v := nI 0) dX1_isDefinable_46 (by decide) ?_
          refine ex_iret dX1_isDefinable_47 rfl (by decide) ?_
          exact hQ
    | some p =>
      have e : plX (sy r) (nI c) = some p := by rw [plX_nat hc]; exact hp
      have hp15 := (plS_lt hp).1
      rw [hp] at hQ
      refine ex_iload_n (i := 2) dX1_isDefinable_0 rfl rfl ?_
      refine ex_bipush (v := nI 10) dX1_isDefinable_1 (by decide) ?_
      refine ex_icmp_geN (tgt := 10) dX1_isDefinable_3 (by decide) (by omega) (by omega) (fun hx3 => ?_) (fun hx3 => ?_)
      · refine ex_iconst (v := nI 0) dX1_isDefinable_10 (by decide) ?_
        refine ex_istore_n (L' := [some (.ref (1)), some (.int (nI (r))), some (.int (nI (c))), some (.int (nI (0))), none]) dX1_isDefinable_11 (i := 3) rfl (by decide) rfl ?_
        refine ex_iload_n (i := 2) dX1_isDefinable_12 rfl rfl ?_
        refine ex_bipush (v := nI 10) dX1_isDefinable_13 (by decide) ?_
        refine ex_iremN dX1_isDefinable_15 (by omega) (by decide) (by decide) ?_
        refine ex_iconst (v := nI 2) dX1_isDefinable_16 (by decide) ?_
        refine ex_icmp_neN (tgt := 24) dX1_isDefinable_17 (by decide) (by omega) (by omega) (fun hx17 => ?_) (fun hx17 => ?_)
        · refine ex_iconst (v := nI 0) dX1_isDefinable_24 (by decide) ?_
          refine ex_istore (L' := [some (.ref (1)), some (.int (nI (r))), some (.int (nI (c))), some (.int (nI (0))), some (.int (nI (0)))]) dX1_isDefinable_25 (by decide) rfl ?_
          refine ex_aload_n (i := 0) dX1_isDefinable_27 rfl rfl ?_
          refine ex_iload_n (i := 1) dX1_isDefinable_28 rfl rfl ?_
          refine ex_iload_n (i := 2) dX1_isDefinable_29 rfl rfl ?_
          refine ex_cV (ν := m_Grammar_placeOf) (a := 1) (ci := 1) (as := [.int (nI (r)), .int (nI (c))]) dX1_isDefinable_30 ln_Grammar_94 mf_Grammar_placeOf rfl (Nat.le_of_ble_eq_true rfl) rfl rfl np_Grammar_placeOf rfl rfl ⟨(Nat.le_of_ble_eq_true rfl), (Nat.le_of_ble_eq_true rfl), (Nat.le_of_ble_eq_true rfl), (Nat.le_of_ble_eq_true rfl)⟩ (by decide) ?_
          refine sp_Grammar_placeOf_I sc gs hr ?_
          refine ⟨_, rfl, ?_⟩
          refine ex_asN (a := p) (by rw [e]; rfl) ?_
          refine ex_if_ltN (tgt := 46) dX1_isDefinable_33 (by decide) (by omega) ?_
          refine ex_iload_n (i := 3) dX1_isDefinable_36 rfl rfl ?_
          refine ex_iload dX1_isDefinable_37 rfl ?_
          refine ex_icmp_eqN (tgt := 46) dX1_isDefinable_39 (by decide) (by decide) (by decide) (fun hx39 => ?_) (fun hx39 => by exact absurd hx39 (by decide))
          refine ex_iconst (v := nI 0) dX1_isDefinable_46 (by decide) ?_
          refine ex_iret dX1_isDefinable_47 rfl (by decide) ?_
          first | (rw [if_neg (fun z => by rcases z with z | z | z <;> first | omega | cases z)] at hQ; exact hQ) | (rw [if_pos (Or.inr (by omega))] at hQ; exact hQ)
        · refine ex_iconst (v := nI 1) dX1_isDefinable_20 (by decide) ?_
          refine ex_goto (tgt := 25) dX1_isDefinable_21 (by decide) ?_
          refine ex_istore (L' := [some (.ref (1)), some (.int (nI (r))), some (.int (nI (c))), some (.int (nI (0))), some (.int (nI (1)))]) dX1_isDefinable_25 (by decide) rfl ?_
          refine ex_aload_n (i := 0) dX1_isDefinable_27 rfl rfl ?_
          refine ex_iload_n (i := 1) dX1_isDefinable_28 rfl rfl ?_
          refine ex_iload_n (i := 2) dX1_isDefinable_29 rfl rfl ?_
          refine ex_cV (ν := m_Grammar_placeOf) (a := 1) (ci := 1) (as := [.int (nI (r)), .int (nI (c))]) dX1_isDefinable_30 ln_Grammar_94 mf_Grammar_placeOf rfl (Nat.le_of_ble_eq_true rfl) rfl rfl np_Grammar_placeOf rfl rfl ⟨(Nat.le_of_ble_eq_true rfl), (Nat.le_of_ble_eq_true rfl), (Nat.le_of_ble_eq_true rfl), (Nat.le_of_ble_eq_true rfl)⟩ (by decide) ?_
          refine sp_Grammar_placeOf_I sc gs hr ?_
          refine ⟨_, rfl, ?_⟩
          refine ex_asN (a := p) (by rw [e]; rfl) ?_
          refine ex_if_ltN (tgt := 46) dX1_isDefinable_33 (by decide) (by omega) ?_
          refine ex_iload_n (i := 3) dX1_isDefinable_36 rfl rfl ?_
          refine ex_iload dX1_isDefinable_37 rfl ?_
          refine ex_icmp_eqN (tgt := 46) dX1_isDefinable_39 (by decide) (by decide) (by decide) (fun hx39 => by exact absurd hx39 (by decide)) (fun hx39 => ?_)
          refine ex_iconst (v := nI 1) dX1_isDefinable_42 (by decide) ?_
          refine ex_goto (tgt := 47) dX1_isDefinable_43 (by decide) ?_
          refine ex_iret dX1_isDefinable_47 rfl (by decide) ?_
          first | (rw [if_neg (fun z => by rcases z with z | z | z <;> first | omega | cases z)] at hQ; exact hQ) | (rw [if_pos (Or.inr (by omega))] at hQ; exact hQ)
      · refine ex_iconst (v := nI 1) dX1_isDefinable_6 (by decide) ?_
        refine ex_goto (tgt := 11) dX1_isDefinable_7 (by decide) ?_
        refine ex_istore_n (L' := [some (.ref (1)), some (.int (nI (r))), some (.int (nI (c))), some (.int (nI (1))), none]) dX1_isDefinable_11 (i := 3) rfl (by decide) rfl ?_
        refine ex_iload_n (i := 2) dX1_isDefinable_12 rfl rfl ?_
        refine ex_bipush (v := nI 10) dX1_isDefinable_13 (by decide) ?_
        refine ex_iremN dX1_isDefinable_15 (by omega) (by decide) (by decide) ?_
        refine ex_iconst (v := nI 2) dX1_isDefinable_16 (by decide) ?_
        refine ex_icmp_neN (tgt := 24) dX1_isDefinable_17 (by decide) (by omega) (by omega) (fun hx17 => ?_) (fun hx17 => ?_)
        · refine ex_iconst (v := nI 0) dX1_isDefinable_24 (by decide) ?_
          refine ex_istore (L' := [some (.ref (1)), some (.int (nI (r))), some (.int (nI (c))), some (.int (nI (1))), some (.int (nI (0)))]) dX1_isDefinable_25 (by decide) rfl ?_
          refine ex_aload_n (i := 0) dX1_isDefinable_27 rfl rfl ?_
          refine ex_iload_n (i := 1) dX1_isDefinable_28 rfl rfl ?_
          refine ex_iload_n (i := 2) dX1_isDefinable_29 rfl rfl ?_
          refine ex_cV (ν := m_Grammar_placeOf) (a := 1) (ci := 1) (as := [.int (nI (r)), .int (nI (c))]) dX1_isDefinable_30 ln_Grammar_94 mf_Grammar_placeOf rfl (Nat.le_of_ble_eq_true rfl) rfl rfl np_Grammar_placeOf rfl rfl ⟨(Nat.le_of_ble_eq_true rfl), (Nat.le_of_ble_eq_true rfl), (Nat.le_of_ble_eq_true rfl), (Nat.le_of_ble_eq_true rfl)⟩ (by decide) ?_
          refine sp_Grammar_placeOf_I sc gs hr ?_
          refine ⟨_, rfl, ?_⟩
          refine ex_asN (a := p) (by rw [e]; rfl) ?_
          refine ex_if_ltN (tgt := 46) dX1_isDefinable_33 (by decide) (by omega) ?_
          refine ex_iload_n (i := 3) dX1_isDefinable_36 rfl rfl ?_
          refine ex_iload dX1_isDefinable_37 rfl ?_
          refine ex_icmp_eqN (tgt := 46) dX1_isDefinable_39 (by decide) (by decide) (by decide) (fun hx39 => by exact absurd hx39 (by decide)) (fun hx39 => ?_)
          refine ex_iconst (v := nI 1) dX1_isDefinable_42 (by decide) ?_
          refine ex_goto (tgt := 47) dX1_isDefinable_43 (by decide) ?_
          refine ex_iret dX1_isDefinable_47 rfl (by decide) ?_
          first | (rw [if_neg (fun z => by rcases z with z | z | z <;> first | omega | cases z)] at hQ; exact hQ) | (rw [if_pos (Or.inr (by omega))] at hQ; exact hQ)
        · refine ex_iconst (v := nI 1) dX1_isDefinable_20 (by decide) ?_
          refine ex_goto (tgt := 25) dX1_isDefinable_21 (by decide) ?_
          refine ex_istore (L' := [some (.ref (1)), some (.int (nI (r))), some (.int (nI (c))), some (.int (nI (1))), some (.int (nI (1)))]) dX1_isDefinable_25 (by decide) rfl ?_
          refine ex_aload_n (i := 0) dX1_isDefinable_27 rfl rfl ?_
          refine ex_iload_n (i := 1) dX1_isDefinable_28 rfl rfl ?_
          refine ex_iload_n (i := 2) dX1_isDefinable_29 rfl rfl ?_
          refine ex_cV (ν := m_Grammar_placeOf) (a := 1) (ci := 1) (as := [.int (nI (r)), .int (nI (c))]) dX1_isDefinable_30 ln_Grammar_94 mf_Grammar_placeOf rfl (Nat.le_of_ble_eq_true rfl) rfl rfl np_Grammar_placeOf rfl rfl ⟨(Nat.le_of_ble_eq_true rfl), (Nat.le_of_ble_eq_true rfl), (Nat.le_of_ble_eq_true rfl), (Nat.le_of_ble_eq_true rfl)⟩ (by decide) ?_
          refine sp_Grammar_placeOf_I sc gs hr ?_
          refine ⟨_, rfl, ?_⟩
          refine ex_asN (a := p) (by rw [e]; rfl) ?_
          refine ex_if_ltN (tgt := 46) dX1_isDefinable_33 (by decide) (by omega) ?_
          refine ex_iload_n (i := 3) dX1_isDefinable_36 rfl rfl ?_
          refine ex_iload dX1_isDefinable_37 rfl ?_
          refine ex_icmp_eqN (tgt := 46) dX1_isDefinable_39 (by decide) (by decide) (by decide) (fun hx39 => ?_) (fun hx39 => by exact absurd hx39 (by decide))
          refine ex_iconst (v := nI 0) dX1_isDefinable_46 (by decide) ?_
          refine ex_iret dX1_isDefinable_47 rfl (by decide) ?_
          first | (rw [if_neg (fun z => by rcases z with z | z | z <;> first | omega | cases z)] at hQ; exact hQ) | (rw [if_pos (Or.inr (by omega))] at hQ; exact hQ)
theorem GS.U8 {x : Int32} (gs : GS i n sy) : GS (xU i 1 8 x) n sy := ⟨by rw [xU_at]; simp [upd]; exact gs.1, fun r k hr hk => by rw [xU_ne _ _ _ (show (3 : Nat) ≠ 1 by decide)]; exact gs.2.1 r k hr hk, gs.2.2⟩
theorem GS.frU {x y : Int32} {a r : Nat} (gs : GS i n sy) (hr : r < n) : GS (xU (xU i 1 8 x) 11 a y) n sy := gs.U8.fr (l := [11]) (Fr.rf.U (by decide)) (by decide) (by decide)
theorem GS.frU2 {x y z : Int32} {a b r : Nat} (gs : GS i n sy) (hr : r < n) : GS (xU (xU (xU i 1 8 x) 11 a y) 13 b z) n sy := gs.U8.fr (l := [11, 13]) ((Fr.rf.U (by decide)).U (by decide)) (by decide) (by decide)
theorem sp_Grammar_addEquation {r p o X Y : Nat} {c x y : Int32} (sc : SC i) (gs : GS i n sy) (es : ES i op xp yp) (hr : r < n) (hp : plX (sy r) c = some p) (ho : o ≤ 7) (hx0 : o = 0 → x = nI X) (hx1 : 1 ≤ o → plX (sy r) x = some X) (hy0 : o < 2 → Y = 0) (hy1 : 2 ≤ o → plX (sy r) y = some Y)
    (hQ : Q (.ok (some (.int (nI (if op (r * 15 + p) = 0 then 1 else 0))))) (94, g, xU (xU (xU (if op (r * 15 + p) = 0 then xU i 1 8 (i 1 8 + nI 1) else i) 11 (r * 15 + p) (nI (o + 1))) 13 (r * 15 + p) (nI X)) 15 (r * 15 + p) (nI Y), q, RT t)) :
    Wx m_Grammar_addEquation 0 [some (.ref 1), some (.int (nI r)), some (.int c), some (.int (nI o)), some (.int x), some (.int y), none, none] [] (94, g, i, q, RT t) (0, 0) Q := by
  have hn := gs.2.2.1
  have hp15 := (plX_lt hp).1
  have hop := es.2.2.2.1 (r * 15 + p)
  have hov := es.1 (r * 15 + p) (by omega)
  by_cases h0 : op (r * 15 + p) = 0
  · rw [if_pos h0, if_pos h0] at hQ
    rw [h0] at hov
    by_cases o0 : o = 0
    · subst o0
      have hxx := hx0 rfl
      have hyy := hy0 (by decide)
      subst hxx; subst hyy
      refine ex_aload_n (i := 0) dX1_addEquation_0 rfl rfl ?_
      refine ex_iload_n (i := 1) dX1_addEquation_1 rfl rfl ?_
      refine ex_iload_n (i := 2) dX1_addEquation_2 rfl rfl ?_
      refine ex_cV (ν := m_Grammar_placeOf) (a := 1) (ci := 1) (as := [.int (nI (r)), .int (c)]) dX1_addEquation_3 ln_Grammar_94 mf_Grammar_placeOf rfl (Nat.le_of_ble_eq_true rfl) rfl rfl np_Grammar_placeOf rfl rfl ⟨(Nat.le_of_ble_eq_true rfl), (Nat.le_of_ble_eq_true rfl), (Nat.le_of_ble_eq_true rfl), (Nat.le_of_ble_eq_true rfl)⟩ (by decide) ?_
      refine sp_Grammar_placeOf_I sc gs (by omega) ?_
      refine ⟨_, rfl, ?_⟩
      refine ex_asN (a := p) (by rw [hp]; rfl) ?_
      refine ex_istore (L' := [some (.ref (1)), some (.int (nI (r))), some (.int (c)), some (.int (nI (0))), some (.int (nI (X))), some (.int (y)), some (.int (nI (p))), none]) dX1_addEquation_6 (by decide) rfl ?_
      refine ex_aload_n (i := 0) dX1_addEquation_8 rfl rfl ?_
      refine ex_iload_n (i := 1) dX1_addEquation_9 rfl rfl ?_
      refine ex_iload dX1_addEquation_10 rfl ?_
      refine ex_cV (ν := m_Grammar_operationAt) (a := 1) (ci := 1) (as := [.int (nI (r)), .int (nI (p))]) dX1_addEquation_12 ln_Grammar_97 mf_Grammar_operationAt rfl (Nat.le_of_ble_eq_true rfl) rfl rfl np_Grammar_operationAt rfl rfl ⟨(Nat.le_of_ble_eq_true rfl), (Nat.le_of_ble_eq_true rfl), (Nat.le_of_ble_eq_true rfl), (Nat.le_of_ble_eq_true rfl)⟩ (by decide) ?_
      refine sp_Grammar_operationAt sc (by omega) hp15 ?_
      refine ⟨_, rfl, ?_⟩
      refine ex_asI (y := -1) (by rw [hov]; rfl) ?_
      refine ex_if_ge (tgt := 22) dX1_addEquation_15 (by decide) (fun hx15 => by exact absurd hx15 (by decide)) (fun hx15 => ?_)
      refine ex_iconst (v := nI 1) dX1_addEquation_18 (by decide) ?_
      refine ex_goto (tgt := 23) dX1_addEquation_19 (by decide) ?_
      refine ex_istore (L' := [some (.ref (1)), some (.int (nI (r))), some (.int (c)), some (.int (nI (0))), some (.int (nI (X))), some (.int (y)), some (.int (nI (p))), some (.int (nI (1)))]) dX1_addEquation_23 (by decide) rfl ?_
      refine ex_iload dX1_addEquation_25 rfl ?_
      refine ex_if_eqN (tgt := 40) dX1_addEquation_27 (by decide) (by omega) (fun hx27 => by exact absurd hx27 (by decide)) (fun hx27 => ?_)
      refine ex_aload_n (i := 0) dX1_addEquation_30 rfl rfl ?_
      refine ex_dup dX1_addEquation_31 rfl ?_
      refine ex_getI dX1_addEquation_32 fl_Grammar_48 rfl rfl (by decide) ?_
      refine ex_iconst (v := nI 1) dX1_addEquation_35 (by decide) ?_
      refine ex_iadd dX1_addEquation_36 ?_
      refine ex_putI dX1_addEquation_37 fl_Grammar_48 cf_1 rfl (Or.inl rfl) rfl rfl rfl (by decide) ?_
      refine ex_aload_n (i := 0) dX1_addEquation_40 rfl rfl ?_
      refine ex_getR (v := .ref (10)) dX1_addEquation_41 fl_Grammar_35 rfl rfl (by decide) rfl ?_
      refine ex_iload_n (i := 1) dX1_addEquation_44 rfl rfl ?_
      refine ex_iload dX1_addEquation_45 rfl ?_
      refine ex_iload_n (i := 3) dX1_addEquation_47 rfl rfl ?_
      refine ex_iconst (v := nI 1) dX1_addEquation_48 (by decide) ?_
      refine ex_iaddN dX1_addEquation_49 ?_
      refine ex_cV (ν := m_Grid_set) (a := 10) (ci := 2) (as := [.int (nI (r)), .int (nI (p)), .int (nI (1))]) dX1_addEquation_50 ln_Grammar_55 mf_Grid_set rfl (Nat.le_of_ble_eq_true rfl) rfl rfl np_Grid_set rfl rfl ⟨(Nat.le_of_ble_eq_true rfl), (Nat.le_of_ble_eq_true rfl), (Nat.le_of_ble_eq_true rfl), (Nat.le_of_ble_eq_true rfl)⟩ (by decide) ?_
      refine sp_Grid_set (r := 10) (c := 11) rfl rfl rfl (by decide) (by decide) (sc_10_0 (SC_U (by decide) sc)) (sc_10_1 (SC_U (by decide) sc)) rfl (by omega) (by omega) ?_
      refine ⟨_, rfl, ?_⟩
      refine ex_aload_n (i := 0) dX1_addEquation_53 rfl rfl ?_
      refine ex_getR (v := .ref (12)) dX1_addEquation_54 fl_Grammar_38 rfl rfl (by decide) rfl ?_
      refine ex_iload_n (i := 1) dX1_addEquation_57 rfl rfl ?_
      refine ex_iload dX1_addEquation_58 rfl ?_
      refine ex_iload_n (i := 3) dX1_addEquation_60 rfl rfl ?_
      refine ex_if_neN (tgt := 69) dX1_addEquation_61 (by decide) (by omega) (fun hx61 => by exact absurd hx61 (by decide)) (fun hx61 => ?_)
      refine ex_iload dX1_addEquation_64 rfl ?_
      refine ex_goto (tgt := 76) dX1_addEquation_66 (by decide) ?_
      refine ex_cV (ν := m_Grid_set) (a := 12) (ci := 2) (as := [.int (nI (r)), .int (nI (p)), .int (nI (X))]) dX1_addEquation_76 ln_Grammar_55 mf_Grid_set rfl (Nat.le_of_ble_eq_true rfl) rfl rfl np_Grid_set rfl rfl ⟨(Nat.le_of_ble_eq_true rfl), (Nat.le_of_ble_eq_true rfl), (Nat.le_of_ble_eq_true rfl), (Nat.le_of_ble_eq_true rfl)⟩ (by decide) ?_
      refine sp_Grid_set (r := 12) (c := 13) rfl rfl rfl (by decide) (by decide) (sc_12_0 (SC_U (by decide) (SC_U (by decide) sc))) (sc_12_1 (SC_U (by decide) (SC_U (by decide) sc))) rfl (by omega) (by omega) ?_
      refine ⟨_, rfl, ?_⟩
      refine ex_aload_n (i := 0) dX1_addEquation_79 rfl rfl ?_
      refine ex_getR (v := .ref (14)) dX1_addEquation_80 fl_Grammar_41 rfl rfl (by decide) rfl ?_
      refine ex_iload_n (i := 1) dX1_addEquation_83 rfl rfl ?_
      refine ex_iload dX1_addEquation_84 rfl ?_
      refine ex_iload_n (i := 3) dX1_addEquation_86 rfl rfl ?_
      refine ex_iconst (v := nI 2) dX1_addEquation_87 (by decide) ?_
      refine ex_icmp_geN (tgt := 95) dX1_addEquation_88 (by decide) (by decide) (by decide) (fun hx88 => by exact absurd hx88 (by decide)) (fun hx88 => ?_)
      refine ex_iconst (v := nI 0) dX1_addEquation_91 (by decide) ?_
      refine ex_goto (tgt := 102) dX1_addEquation_92 (by decide) ?_
      refine ex_cV (ν := m_Grid_set) (a := 14) (ci := 2) (as := [.int (nI (r)), .int (nI (p)), .int (nI (0))]) dX1_addEquation_102 ln_Grammar_55 mf_Grid_set rfl (Nat.le_of_ble_eq_true rfl) rfl rfl np_Grid_set rfl rfl ⟨(Nat.le_of_ble_eq_true rfl), (Nat.le_of_ble_eq_true rfl), (Nat.le_of_ble_eq_true rfl), (Nat.le_of_ble_eq_true rfl)⟩ (by decide) ?_
      refine sp_Grid_set (r := 14) (c := 15) rfl rfl rfl (by decide) (by decide) (sc_14_0 (SC_U (by decide) (SC_U (by decide) (SC_U (by decide) sc)))) (sc_14_1 (SC_U (by decide) (SC_U (by decide) (SC_U (by decide) sc)))) rfl (by omega) (by omega) ?_
      refine ⟨_, rfl, ?_⟩
      refine ex_iload dX1_addEquation_105 rfl ?_
      refine ex_iret dX1_addEquation_107 rfl (by decide) ?_
      exact hQ
    · have hpx := hx1 (by omega)
      by_cases o1 : o = 1
      · subst o1
        have hyy := hy0 (by decide)
        subst hyy
        refine ex_aload_n (i := 0) dX1_addEquation_0 rfl rfl ?_
        refine ex_iload_n (i := 1) dX1_addEquation_1 rfl rfl ?_
        refine ex_iload_n (i := 2) dX1_addEquation_2 rfl rfl ?_
        refine ex_cV (ν := m_Grammar_placeOf) (a := 1) (ci := 1) (as := [.int (nI (r)), .int (c)]) dX1_addEquation_3 ln_Grammar_94 mf_Grammar_placeOf rfl (Nat.le_of_ble_eq_true rfl) rfl rfl np_Grammar_placeOf rfl rfl ⟨(Nat.le_of_ble_eq_true rfl), (Nat.le_of_ble_eq_true rfl), (Nat.le_of_ble_eq_true rfl), (Nat.le_of_ble_eq_true rfl)⟩ (by decide) ?_
        refine sp_Grammar_placeOf_I sc gs (by omega) ?_
        refine ⟨_, rfl, ?_⟩
        refine ex_asN (a := p) (by rw [hp]; rfl) ?_
        refine ex_istore (L' := [some (.ref (1)), some (.int (nI (r))), some (.int (c)), some (.int (nI (1))), some (.int (x)), some (.int (y)), some (.int (nI (p))), none]) dX1_addEquation_6 (by decide) rfl ?_
        refine ex_aload_n (i := 0) dX1_addEquation_8 rfl rfl ?_
        refine ex_iload_n (i := 1) dX1_addEquation_9 rfl rfl ?_
        refine ex_iload dX1_addEquation_10 rfl ?_
        refine ex_cV (ν := m_Grammar_operationAt) (a := 1) (ci := 1) (as := [.int (nI (r)), .int (nI (p))]) dX1_addEquation_12 ln_Grammar_97 mf_Grammar_operationAt rfl (Nat.le_of_ble_eq_true rfl) rfl rfl np_Grammar_operationAt rfl rfl ⟨(Nat.le_of_ble_eq_true rfl), (Nat.le_of_ble_eq_true rfl), (Nat.le_of_ble_eq_true rfl), (Nat.le_of_ble_eq_true rfl)⟩ (by decide) ?_
        refine sp_Grammar_operationAt sc (by omega) hp15 ?_
        refine ⟨_, rfl, ?_⟩
        refine ex_asI (y := -1) (by rw [hov]; rfl) ?_
        refine ex_if_ge (tgt := 22) dX1_addEquation_15 (by decide) (fun hx15 => by exact absurd hx15 (by decide)) (fun hx15 => ?_)
        refine ex_iconst (v := nI 1) dX1_addEquation_18 (by decide) ?_
        refine ex_goto (tgt := 23) dX1_addEquation_19 (by decide) ?_
        refine ex_istore (L' := [some (.ref (1)), some (.int (nI (r))), some (.int (c)), some (.int (nI (1))), some (.int (x)), some (.int (y)), some (.int (nI (p))), some (.int (nI (1)))]) dX1_addEquation_23 (by decide) rfl ?_
        refine ex_iload dX1_addEquation_25 rfl ?_
        refine ex_if_eqN (tgt := 40) dX1_addEquation_27 (by decide) (by omega) (fun hx27 => by exact absurd hx27 (by decide)) (fun hx27 => ?_)
        refine ex_aload_n (i := 0) dX1_addEquation_30 rfl rfl ?_
        refine ex_dup dX1_addEquation_31 rfl ?_
        refine ex_getI dX1_addEquation_32 fl_Grammar_48 rfl rfl (by decide) ?_
        refine ex_iconst (v := nI 1) dX1_addEquation_35 (by decide) ?_
        refine ex_iadd dX1_addEquation_36 ?_
        refine ex_putI dX1_addEquation_37 fl_Grammar_48 cf_1 rfl (Or.inl rfl) rfl rfl rfl (by decide) ?_
        refine ex_aload_n (i := 0) dX1_addEquation_40 rfl rfl ?_
        refine ex_getR (v := .ref (10)) dX1_addEquation_41 fl_Grammar_35 rfl rfl (by decide) rfl ?_
        refine ex_iload_n (i := 1) dX1_addEquation_44 rfl rfl ?_
        refine ex_iload dX1_addEquation_45 rfl ?_
        refine ex_iload_n (i := 3) dX1_addEquation_47 rfl rfl ?_
        refine ex_iconst (v := nI 1) dX1_addEquation_48 (by decide) ?_
        refine ex_iaddN dX1_addEquation_49 ?_
        refine ex_cV (ν := m_Grid_set) (a := 10) (ci := 2) (as := [.int (nI (r)), .int (nI (p)), .int (nI (2))]) dX1_addEquation_50 ln_Grammar_55 mf_Grid_set rfl (Nat.le_of_ble_eq_true rfl) rfl rfl np_Grid_set rfl rfl ⟨(Nat.le_of_ble_eq_true rfl), (Nat.le_of_ble_eq_true rfl), (Nat.le_of_ble_eq_true rfl), (Nat.le_of_ble_eq_true rfl)⟩ (by decide) ?_
        refine sp_Grid_set (r := 10) (c := 11) rfl rfl rfl (by decide) (by decide) (sc_10_0 (SC_U (by decide) sc)) (sc_10_1 (SC_U (by decide) sc)) rfl (by omega) (by omega) ?_
        refine ⟨_, rfl, ?_⟩
        refine ex_aload_n (i := 0) dX1_addEquation_53 rfl rfl ?_
        refine ex_getR (v := .ref (12)) dX1_addEquation_54 fl_Grammar_38 rfl rfl (by decide) rfl ?_
        refine ex_iload_n (i := 1) dX1_addEquation_57 rfl rfl ?_
        refine ex_iload dX1_addEquation_58 rfl ?_
        refine ex_iload_n (i := 3) dX1_addEquation_60 rfl rfl ?_
        refine ex_if_neN (tgt := 69) dX1_addEquation_61 (by decide) (by omega) (fun hx61 => ?_) (fun hx61 => by exact absurd hx61 (by decide))
        refine ex_aload_n (i := 0) dX1_addEquation_69 rfl rfl ?_
        refine ex_iload_n (i := 1) dX1_addEquation_70 rfl rfl ?_
        refine ex_iload dX1_addEquation_71 rfl ?_
        refine ex_cV (ν := m_Grammar_placeOf) (a := 1) (ci := 1) (as := [.int (nI (r)), .int (x)]) dX1_addEquation_73 ln_Grammar_94 mf_Grammar_placeOf rfl (Nat.le_of_ble_eq_true rfl) rfl rfl np_Grammar_placeOf rfl rfl ⟨(Nat.le_of_ble_eq_true rfl), (Nat.le_of_ble_eq_true rfl), (Nat.le_of_ble_eq_true rfl), (Nat.le_of_ble_eq_true rfl)⟩ (by decide) ?_
        refine sp_Grammar_placeOf_I (n := n) (sy := sy) (SC_U (by decide) (SC_U (by decide) sc)) (gs.frU hr) (by omega) ?_
        refine ⟨_, rfl, ?_⟩
        refine ex_asN (a := X) (by rw [hpx]; rfl) ?_
        refine ex_cV (ν := m_Grid_set) (a := 12) (ci := 2) (as := [.int (nI (r)), .int (nI (p)), .int (nI (X))]) dX1_addEquation_76 ln_Grammar_55 mf_Grid_set rfl (Nat.le_of_ble_eq_true rfl) rfl rfl np_Grid_set rfl rfl ⟨(Nat.le_of_ble_eq_true rfl), (Nat.le_of_ble_eq_true rfl), (Nat.le_of_ble_eq_true rfl), (Nat.le_of_ble_eq_true rfl)⟩ (by decide) ?_
        refine sp_Grid_set (r := 12) (c := 13) rfl rfl rfl (by decide) (by decide) (sc_12_0 (SC_U (by decide) (SC_U (by decide) sc))) (sc_12_1 (SC_U (by decide) (SC_U (by decide) sc))) rfl (by omega) (by omega) ?_
        refine ⟨_, rfl, ?_⟩
        refine ex_aload_n (i := 0) dX1_addEquation_79 rfl rfl ?_
        refine ex_getR (v := .ref (14)) dX1_addEquation_80 fl_Grammar_41 rfl rfl (by decide) rfl ?_
        refine ex_iload_n (i := 1) dX1_addEquation_83 rfl rfl ?_
        refine ex_iload dX1_addEquation_84 rfl ?_
        refine ex_iload_n (i := 3) dX1_addEquation_86 rfl rfl ?_
        refine ex_iconst (v := nI 2) dX1_addEquation_87 (by decide) ?_
        refine ex_icmp_geN (tgt := 95) dX1_addEquation_88 (by decide) (by decide) (by decide) (fun hx88 => by exact absurd hx88 (by decide)) (fun hx88 => ?_)
        refine ex_iconst (v := nI 0) dX1_addEquation_91 (by decide) ?_
        refine ex_goto (tgt := 102) dX1_addEquation_92 (by decide) ?_
        refine ex_cV (ν := m_Grid_set) (a := 14) (ci := 2) (as := [.int (nI (r)), .int (nI (p)), .int (nI (0))]) dX1_addEquation_102 ln_Grammar_55 mf_Grid_set rfl (Nat.le_of_ble_eq_true rfl) rfl rfl np_Grid_set rfl rfl ⟨(Nat.le_of_ble_eq_true rfl), (Nat.le_of_ble_eq_true rfl), (Nat.le_of_ble_eq_true rfl), (Nat.le_of_ble_eq_true rfl)⟩ (by decide) ?_
        refine sp_Grid_set (r := 14) (c := 15) rfl rfl rfl (by decide) (by decide) (sc_14_0 (SC_U (by decide) (SC_U (by decide) (SC_U (by decide) sc)))) (sc_14_1 (SC_U (by decide) (SC_U (by decide) (SC_U (by decide) sc)))) rfl (by omega) (by omega) ?_
        refine ⟨_, rfl, ?_⟩
        refine ex_iload dX1_addEquation_105 rfl ?_
        refine ex_iret dX1_addEquation_107 rfl (by decide) ?_
        exact hQ
      · have hpy := hy1 (by omega)
        refine ex_aload_n (i := 0) dX1_addEquation_0 rfl rfl ?_
        refine ex_iload_n (i := 1) dX1_addEquation_1 rfl rfl ?_
        refine ex_iload_n (i := 2) dX1_addEquation_2 rfl rfl ?_
        refine ex_cV (ν := m_Grammar_placeOf) (a := 1) (ci := 1) (as := [.int (nI (r)), .int (c)]) dX1_addEquation_3 ln_Grammar_94 mf_Grammar_placeOf rfl (Nat.le_of_ble_eq_true rfl) rfl rfl np_Grammar_placeOf rfl rfl ⟨(Nat.le_of_ble_eq_true rfl), (Nat.le_of_ble_eq_true rfl), (Nat.le_of_ble_eq_true rfl), (Nat.le_of_ble_eq_true rfl)⟩ (by decide) ?_
        refine sp_Grammar_placeOf_I sc gs (by omega) ?_
        refine ⟨_, rfl, ?_⟩
        refine ex_asN (a := p) (by rw [hp]; rfl) ?_
        refine ex_istore (L' := [some (.ref (1)), some (.int (nI (r))), some (.int (c)), some (.int (nI (o))), some (.int (x)), some (.int (y)), some (.int (nI (p))), none]) dX1_addEquation_6 (by decide) rfl ?_
        refine ex_aload_n (i := 0) dX1_addEquation_8 rfl rfl ?_
        refine ex_iload_n (i := 1) dX1_addEquation_9 rfl rfl ?_
        refine ex_iload dX1_addEquation_10 rfl ?_
        refine ex_cV (ν := m_Grammar_operationAt) (a := 1) (ci := 1) (as := [.int (nI (r)), .int (nI (p))]) dX1_addEquation_12 ln_Grammar_97 mf_Grammar_operationAt rfl (Nat.le_of_ble_eq_true rfl) rfl rfl np_Grammar_operationAt rfl rfl ⟨(Nat.le_of_ble_eq_true rfl), (Nat.le_of_ble_eq_true rfl), (Nat.le_of_ble_eq_true rfl), (Nat.le_of_ble_eq_true rfl)⟩ (by decide) ?_
        refine sp_Grammar_operationAt sc (by omega) hp15 ?_
        refine ⟨_, rfl, ?_⟩
        refine ex_asI (y := -1) (by rw [hov]; rfl) ?_
        refine ex_if_ge (tgt := 22) dX1_addEquation_15 (by decide) (fun hx15 => by exact absurd hx15 (by decide)) (fun hx15 => ?_)
        refine ex_iconst (v := nI 1) dX1_addEquation_18 (by decide) ?_
        refine ex_goto (tgt := 23) dX1_addEquation_19 (by decide) ?_
        refine ex_istore (L' := [some (.ref (1)), some (.int (nI (r))), some (.int (c)), some (.int (nI (o))), some (.int (x)), some (.int (y)), some (.int (nI (p))), some (.int (nI (1)))]) dX1_addEquation_23 (by decide) rfl ?_
        refine ex_iload dX1_addEquation_25 rfl ?_
        refine ex_if_eqN (tgt := 40) dX1_addEquation_27 (by decide) (by omega) (fun hx27 => by exact absurd hx27 (by decide)) (fun hx27 => ?_)
        refine ex_aload_n (i := 0) dX1_addEquation_30 rfl rfl ?_
        refine ex_dup dX1_addEquation_31 rfl ?_
        refine ex_getI dX1_addEquation_32 fl_Grammar_48 rfl rfl (by decide) ?_
        refine ex_iconst (v := nI 1) dX1_addEquation_35 (by decide) ?_
        refine ex_iadd dX1_addEquation_36 ?_
        refine ex_putI dX1_addEquation_37 fl_Grammar_48 cf_1 rfl (Or.inl rfl) rfl rfl rfl (by decide) ?_
        refine ex_aload_n (i := 0) dX1_addEquation_40 rfl rfl ?_
        refine ex_getR (v := .ref (10)) dX1_addEquation_41 fl_Grammar_35 rfl rfl (by decide) rfl ?_
        refine ex_iload_n (i := 1) dX1_addEquation_44 rfl rfl ?_
        refine ex_iload dX1_addEquation_45 rfl ?_
        refine ex_iload_n (i := 3) dX1_addEquation_47 rfl rfl ?_
        refine ex_iconst (v := nI 1) dX1_addEquation_48 (by decide) ?_
        refine ex_iaddN dX1_addEquation_49 ?_
        refine ex_cV (ν := m_Grid_set) (a := 10) (ci := 2) (as := [.int (nI (r)), .int (nI (p)), .int (nI (o + 1))]) dX1_addEquation_50 ln_Grammar_55 mf_Grid_set rfl (Nat.le_of_ble_eq_true rfl) rfl rfl np_Grid_set rfl rfl ⟨(Nat.le_of_ble_eq_true rfl), (Nat.le_of_ble_eq_true rfl), (Nat.le_of_ble_eq_true rfl), (Nat.le_of_ble_eq_true rfl)⟩ (by decide) ?_
        refine sp_Grid_set (r := 10) (c := 11) rfl rfl rfl (by decide) (by decide) (sc_10_0 (SC_U (by decide) sc)) (sc_10_1 (SC_U (by decide) sc)) rfl (by omega) (by omega) ?_
        refine ⟨_, rfl, ?_⟩
        refine ex_aload_n (i := 0) dX1_addEquation_53 rfl rfl ?_
        refine ex_getR (v := .ref (12)) dX1_addEquation_54 fl_Grammar_38 rfl rfl (by decide) rfl ?_
        refine ex_iload_n (i := 1) dX1_addEquation_57 rfl rfl ?_
        refine ex_iload dX1_addEquation_58 rfl ?_
        refine ex_iload_n (i := 3) dX1_addEquation_60 rfl rfl ?_
        refine ex_if_neN (tgt := 69) dX1_addEquation_61 (by decide) (by omega) (fun hx61 => ?_) (fun hx61 => by omega)
        refine ex_aload_n (i := 0) dX1_addEquation_69 rfl rfl ?_
        refine ex_iload_n (i := 1) dX1_addEquation_70 rfl rfl ?_
        refine ex_iload dX1_addEquation_71 rfl ?_
        refine ex_cV (ν := m_Grammar_placeOf) (a := 1) (ci := 1) (as := [.int (nI (r)), .int (x)]) dX1_addEquation_73 ln_Grammar_94 mf_Grammar_placeOf rfl (Nat.le_of_ble_eq_true rfl) rfl rfl np_Grammar_placeOf rfl rfl ⟨(Nat.le_of_ble_eq_true rfl), (Nat.le_of_ble_eq_true rfl), (Nat.le_of_ble_eq_true rfl), (Nat.le_of_ble_eq_true rfl)⟩ (by decide) ?_
        refine sp_Grammar_placeOf_I (n := n) (sy := sy) (SC_U (by decide) (SC_U (by decide) sc)) (gs.frU hr) (by omega) ?_
        refine ⟨_, rfl, ?_⟩
        refine ex_asN (a := X) (by rw [hpx]; rfl) ?_
        refine ex_cV (ν := m_Grid_set) (a := 12) (ci := 2) (as := [.int (nI (r)), .int (nI (p)), .int (nI (X))]) dX1_addEquation_76 ln_Grammar_55 mf_Grid_set rfl (Nat.le_of_ble_eq_true rfl) rfl rfl np_Grid_set rfl rfl ⟨(Nat.le_of_ble_eq_true rfl), (Nat.le_of_ble_eq_true rfl), (Nat.le_of_ble_eq_true rfl), (Nat.le_of_ble_eq_true rfl)⟩ (by decide) ?_
        refine sp_Grid_set (r := 12) (c := 13) rfl rfl rfl (by decide) (by decide) (sc_12_0 (SC_U (by decide) (SC_U (by decide) sc))) (sc_12_1 (SC_U (by decide) (SC_U (by decide) sc))) rfl (by omega) (by omega) ?_
        refine ⟨_, rfl, ?_⟩
        refine ex_aload_n (i := 0) dX1_addEquation_79 rfl rfl ?_
        refine ex_getR (v := .ref (14)) dX1_addEquation_80 fl_Grammar_41 rfl rfl (by decide) rfl ?_
        refine ex_iload_n (i := 1) dX1_addEquation_83 rfl rfl ?_
        refine ex_iload dX1_addEquation_84 rfl ?_
        refine ex_iload_n (i := 3) dX1_addEquation_86 rfl rfl ?_
        refine ex_iconst (v := nI 2) dX1_addEquation_87 (by decide) ?_
        refine ex_icmp_geN (tgt := 95) dX1_addEquation_88 (by decide) (by omega) (by omega) (fun hx88 => ?_) (fun hx88 => by omega)
        refine ex_aload_n (i := 0) dX1_addEquation_95 rfl rfl ?_
        refine ex_iload_n (i := 1) dX1_addEquation_96 rfl rfl ?_
        refine ex_iload dX1_addEquation_97 rfl ?_
        refine ex_cV (ν := m_Grammar_placeOf) (a := 1) (ci := 1) (as := [.int (nI (r)), .int (y)]) dX1_addEquation_99 ln_Grammar_94 mf_Grammar_placeOf rfl (Nat.le_of_ble_eq_true rfl) rfl rfl np_Grammar_placeOf rfl rfl ⟨(Nat.le_of_ble_eq_true rfl), (Nat.le_of_ble_eq_true rfl), (Nat.le_of_ble_eq_true rfl), (Nat.le_of_ble_eq_true rfl)⟩ (by decide) ?_
        refine sp_Grammar_placeOf_I (n := n) (sy := sy) (SC_U (by decide) (SC_U (by decide) (SC_U (by decide) sc))) (gs.frU2 hr) (by omega) ?_
        refine ⟨_, rfl, ?_⟩
        refine ex_asN (a := Y) (by rw [hpy]; rfl) ?_
        refine ex_cV (ν := m_Grid_set) (a := 14) (ci := 2) (as := [.int (nI (r)), .int (nI (p)), .int (nI (Y))]) dX1_addEquation_102 ln_Grammar_55 mf_Grid_set rfl (Nat.le_of_ble_eq_true rfl) rfl rfl np_Grid_set rfl rfl ⟨(Nat.le_of_ble_eq_true rfl), (Nat.le_of_ble_eq_true rfl), (Nat.le_of_ble_eq_true rfl), (Nat.le_of_ble_eq_true rfl)⟩ (by decide) ?_
        refine sp_Grid_set (r := 14) (c := 15) rfl rfl rfl (by decide) (by decide) (sc_14_0 (SC_U (by decide) (SC_U (by decide) (SC_U (by decide) sc)))) (sc_14_1 (SC_U (by decide) (SC_U (by decide) (SC_U (by decide) sc)))) rfl (by omega) (by omega) ?_
        refine ⟨_, rfl, ?_⟩
        refine ex_iload dX1_addEquation_105 rfl ?_
        refine ex_iret dX1_addEquation_107 rfl (by decide) ?_
        exact hQ
  · rw [if_neg h0, if_neg h0] at hQ
    have hov2 : i 11 (r * 15 + p) - nI 1 = nI (op (r * 15 + p) - 1) := by rw [hov]; exact nI_m1' (by omega)
    by_cases o0 : o = 0
    · subst o0
      have hxx := hx0 rfl
      have hyy := hy0 (by decide)
      subst hxx; subst hyy
      refine ex_aload_n (i := 0) dX1_addEquation_0 rfl rfl ?_
      refine ex_iload_n (i := 1) dX1_addEquation_1 rfl rfl ?_
      refine ex_iload_n (i := 2) dX1_addEquation_2 rfl rfl ?_
      refine ex_cV (ν := m_Grammar_placeOf) (a := 1) (ci := 1) (as := [.int (nI (r)), .int (c)]) dX1_addEquation_3 ln_Grammar_94 mf_Grammar_placeOf rfl (Nat.le_of_ble_eq_true rfl) rfl rfl np_Grammar_placeOf rfl rfl ⟨(Nat.le_of_ble_eq_true rfl), (Nat.le_of_ble_eq_true rfl), (Nat.le_of_ble_eq_true rfl), (Nat.le_of_ble_eq_true rfl)⟩ (by decide) ?_
      refine sp_Grammar_placeOf_I sc gs (by omega) ?_
      refine ⟨_, rfl, ?_⟩
      refine ex_asN (a := p) (by rw [hp]; rfl) ?_
      refine ex_istore (L' := [some (.ref (1)), some (.int (nI (r))), some (.int (c)), some (.int (nI (0))), some (.int (nI (X))), some (.int (y)), some (.int (nI (p))), none]) dX1_addEquation_6 (by decide) rfl ?_
      refine ex_aload_n (i := 0) dX1_addEquation_8 rfl rfl ?_
      refine ex_iload_n (i := 1) dX1_addEquation_9 rfl rfl ?_
      refine ex_iload dX1_addEquation_10 rfl ?_
      refine ex_cV (ν := m_Grammar_operationAt) (a := 1) (ci := 1) (as := [.int (nI (r)), .int (nI (p))]) dX1_addEquation_12 ln_Grammar_97 mf_Grammar_operationAt rfl (Nat.le_of_ble_eq_true rfl) rfl rfl np_Grammar_operationAt rfl rfl ⟨(Nat.le_of_ble_eq_true rfl), (Nat.le_of_ble_eq_true rfl), (Nat.le_of_ble_eq_true rfl), (Nat.le_of_ble_eq_true rfl)⟩ (by decide) ?_
      refine sp_Grammar_operationAt sc (by omega) hp15 ?_
      refine ⟨_, rfl, ?_⟩
      refine ex_asN (a := op (r * 15 + p) - 1) hov2 ?_
      refine ex_if_geN (tgt := 22) dX1_addEquation_15 (by decide) (by omega) ?_
      refine ex_iconst (v := nI 0) dX1_addEquation_22 (by decide) ?_
      refine ex_istore (L' := [some (.ref (1)), some (.int (nI (r))), some (.int (c)), some (.int (nI (0))), some (.int (nI (X))), some (.int (y)), some (.int (nI (p))), some (.int (nI (0)))]) dX1_addEquation_23 (by decide) rfl ?_
      refine ex_iload dX1_addEquation_25 rfl ?_
      refine ex_if_eqN (tgt := 40) dX1_addEquation_27 (by decide) (by omega) (fun hx27 => ?_) (fun hx27 => by exact absurd hx27 (by decide))
      refine ex_aload_n (i := 0) dX1_addEquation_40 rfl rfl ?_
      refine ex_getR (v := .ref (10)) dX1_addEquation_41 fl_Grammar_35 rfl rfl (by decide) rfl ?_
      refine ex_iload_n (i := 1) dX1_addEquation_44 rfl rfl ?_
      refine ex_iload dX1_addEquation_45 rfl ?_
      refine ex_iload_n (i := 3) dX1_addEquation_47 rfl rfl ?_
      refine ex_iconst (v := nI 1) dX1_addEquation_48 (by decide) ?_
      refine ex_iaddN dX1_addEquation_49 ?_
      refine ex_cV (ν := m_Grid_set) (a := 10) (ci := 2) (as := [.int (nI (r)), .int (nI (p)), .int (nI (1))]) dX1_addEquation_50 ln_Grammar_55 mf_Grid_set rfl (Nat.le_of_ble_eq_true rfl) rfl rfl np_Grid_set rfl rfl ⟨(Nat.le_of_ble_eq_true rfl), (Nat.le_of_ble_eq_true rfl), (Nat.le_of_ble_eq_true rfl), (Nat.le_of_ble_eq_true rfl)⟩ (by decide) ?_
      refine sp_Grid_set (r := 10) (c := 11) rfl rfl rfl (by decide) (by decide) (sc_10_0 sc) (sc_10_1 sc) rfl (by omega) (by omega) ?_
      refine ⟨_, rfl, ?_⟩
      refine ex_aload_n (i := 0) dX1_addEquation_53 rfl rfl ?_
      refine ex_getR (v := .ref (12)) dX1_addEquation_54 fl_Grammar_38 rfl rfl (by decide) rfl ?_
      refine ex_iload_n (i := 1) dX1_addEquation_57 rfl rfl ?_
      refine ex_iload dX1_addEquation_58 rfl ?_
      refine ex_iload_n (i := 3) dX1_addEquation_60 rfl rfl ?_
      refine ex_if_neN (tgt := 69) dX1_addEquation_61 (by decide) (by omega) (fun hx61 => by exact absurd hx61 (by decide)) (fun hx61 => ?_)
      refine ex_iload dX1_addEquation_64 rfl ?_
      refine ex_goto (tgt := 76) dX1_addEquation_66 (by decide) ?_
      refine ex_cV (ν := m_Grid_set) (a := 12) (ci := 2) (as := [.int (nI (r)), .int (nI (p)), .int (nI (X))]) dX1_addEquation_76 ln_Grammar_55 mf_Grid_set rfl (Nat.le_of_ble_eq_true rfl) rfl rfl np_Grid_set rfl rfl ⟨(Nat.le_of_ble_eq_true rfl), (Nat.le_of_ble_eq_true rfl), (Nat.le_of_ble_eq_true rfl), (Nat.le_of_ble_eq_true rfl)⟩ (by decide) ?_
      refine sp_Grid_set (r := 12) (c := 13) rfl rfl rfl (by decide) (by decide) (sc_12_0 (SC_U (by decide) sc)) (sc_12_1 (SC_U (by decide) sc)) rfl (by omega) (by omega) ?_
      refine ⟨_, rfl, ?_⟩
      refine ex_aload_n (i := 0) dX1_addEquation_79 rfl rfl ?_
      refine ex_getR (v := .ref (14)) dX1_addEquation_80 fl_Grammar_41 rfl rfl (by decide) rfl ?_
      refine ex_iload_n (i := 1) dX1_addEquation_83 rfl rfl ?_
      refine ex_iload dX1_addEquation_84 rfl ?_
      refine ex_iload_n (i := 3) dX1_addEquation_86 rfl rfl ?_
      refine ex_iconst (v := nI 2) dX1_addEquation_87 (by decide) ?_
      refine ex_icmp_geN (tgt := 95) dX1_addEquation_88 (by decide) (by decide) (by decide) (fun hx88 => by exact absurd hx88 (by decide)) (fun hx88 => ?_)
      refine ex_iconst (v := nI 0) dX1_addEquation_91 (by decide) ?_
      refine ex_goto (tgt := 102) dX1_addEquation_92 (by decide) ?_
      refine ex_cV (ν := m_Grid_set) (a := 14) (ci := 2) (as := [.int (nI (r)), .int (nI (p)), .int (nI (0))]) dX1_addEquation_102 ln_Grammar_55 mf_Grid_set rfl (Nat.le_of_ble_eq_true rfl) rfl rfl np_Grid_set rfl rfl ⟨(Nat.le_of_ble_eq_true rfl), (Nat.le_of_ble_eq_true rfl), (Nat.le_of_ble_eq_true rfl), (Nat.le_of_ble_eq_true rfl)⟩ (by decide) ?_
      refine sp_Grid_set (r := 14) (c := 15) rfl rfl rfl (by decide) (by decide) (sc_14_0 (SC_U (by decide) (SC_U (by decide) sc))) (sc_14_1 (SC_U (by decide) (SC_U (by decide) sc))) rfl (by omega) (by omega) ?_
      refine ⟨_, rfl, ?_⟩
      refine ex_iload dX1_addEquation_105 rfl ?_
      refine ex_iret dX1_addEquation_107 rfl (by decide) ?_
      exact hQ
    · have hpx := hx1 (by omega)
      by_cases o1 : o = 1
      · subst o1
        have hyy := hy0 (by decide)
        subst hyy
        refine ex_aload_n (i := 0) dX1_addEquation_0 rfl rfl ?_
        refine ex_iload_n (i := 1) dX1_addEquation_1 rfl rfl ?_
        refine ex_iload_n (i := 2) dX1_addEquation_2 rfl rfl ?_
        refine ex_cV (ν := m_Grammar_placeOf) (a := 1) (ci := 1) (as := [.int (nI (r)), .int (c)]) dX1_addEquation_3 ln_Grammar_94 mf_Grammar_placeOf rfl (Nat.le_of_ble_eq_true rfl) rfl rfl np_Grammar_placeOf rfl rfl ⟨(Nat.le_of_ble_eq_true rfl), (Nat.le_of_ble_eq_true rfl), (Nat.le_of_ble_eq_true rfl), (Nat.le_of_ble_eq_true rfl)⟩ (by decide) ?_
        refine sp_Grammar_placeOf_I sc gs (by omega) ?_
        refine ⟨_, rfl, ?_⟩
        refine ex_asN (a := p) (by rw [hp]; rfl) ?_
        refine ex_istore (L' := [some (.ref (1)), some (.int (nI (r))), some (.int (c)), some (.int (nI (1))), some (.int (x)), some (.int (y)), some (.int (nI (p))), none]) dX1_addEquation_6 (by decide) rfl ?_
        refine ex_aload_n (i := 0) dX1_addEquation_8 rfl rfl ?_
        refine ex_iload_n (i := 1) dX1_addEquation_9 rfl rfl ?_
        refine ex_iload dX1_addEquation_10 rfl ?_
        refine ex_cV (ν := m_Grammar_operationAt) (a := 1) (ci := 1) (as := [.int (nI (r)), .int (nI (p))]) dX1_addEquation_12 ln_Grammar_97 mf_Grammar_operationAt rfl (Nat.le_of_ble_eq_true rfl) rfl rfl np_Grammar_operationAt rfl rfl ⟨(Nat.le_of_ble_eq_true rfl), (Nat.le_of_ble_eq_true rfl), (Nat.le_of_ble_eq_true rfl), (Nat.le_of_ble_eq_true rfl)⟩ (by decide) ?_
        refine sp_Grammar_operationAt sc (by omega) hp15 ?_
        refine ⟨_, rfl, ?_⟩
        refine ex_asN (a := op (r * 15 + p) - 1) hov2 ?_
        refine ex_if_geN (tgt := 22) dX1_addEquation_15 (by decide) (by omega) ?_
        refine ex_iconst (v := nI 0) dX1_addEquation_22 (by decide) ?_
        refine ex_istore (L' := [some (.ref (1)), some (.int (nI (r))), some (.int (c)), some (.int (nI (1))), some (.int (x)), some (.int (y)), some (.int (nI (p))), some (.int (nI (0)))]) dX1_addEquation_23 (by decide) rfl ?_
        refine ex_iload dX1_addEquation_25 rfl ?_
        refine ex_if_eqN (tgt := 40) dX1_addEquation_27 (by decide) (by omega) (fun hx27 => ?_) (fun hx27 => by exact absurd hx27 (by decide))
        refine ex_aload_n (i := 0) dX1_addEquation_40 rfl rfl ?_
        refine ex_getR (v := .ref (10)) dX1_addEquation_41 fl_Grammar_35 rfl rfl (by decide) rfl ?_
        refine ex_iload_n (i := 1) dX1_addEquation_44 rfl rfl ?_
        refine ex_iload dX1_addEquation_45 rfl ?_
        refine ex_iload_n (i := 3) dX1_addEquation_47 rfl rfl ?_
        refine ex_iconst (v := nI 1) dX1_addEquation_48 (by decide) ?_
        refine ex_iaddN dX1_addEquation_49 ?_
        refine ex_cV (ν := m_Grid_set) (a := 10) (ci := 2) (as := [.int (nI (r)), .int (nI (p)), .int (nI (2))]) dX1_addEquation_50 ln_Grammar_55 mf_Grid_set rfl (Nat.le_of_ble_eq_true rfl) rfl rfl np_Grid_set rfl rfl ⟨(Nat.le_of_ble_eq_true rfl), (Nat.le_of_ble_eq_true rfl), (Nat.le_of_ble_eq_true rfl), (Nat.le_of_ble_eq_true rfl)⟩ (by decide) ?_
        refine sp_Grid_set (r := 10) (c := 11) rfl rfl rfl (by decide) (by decide) (sc_10_0 sc) (sc_10_1 sc) rfl (by omega) (by omega) ?_
        refine ⟨_, rfl, ?_⟩
        refine ex_aload_n (i := 0) dX1_addEquation_53 rfl rfl ?_
        refine ex_getR (v := .ref (12)) dX1_addEquation_54 fl_Grammar_38 rfl rfl (by decide) rfl ?_
        refine ex_iload_n (i := 1) dX1_addEquation_57 rfl rfl ?_
        refine ex_iload dX1_addEquation_58 rfl ?_
        refine ex_iload_n (i := 3) dX1_addEquation_60 rfl rfl ?_
        refine ex_if_neN (tgt := 69) dX1_addEquation_61 (by decide) (by omega) (fun hx61 => ?_) (fun hx61 => by exact absurd hx61 (by decide))
        refine ex_aload_n (i := 0) dX1_addEquation_69 rfl rfl ?_
        refine ex_iload_n (i := 1) dX1_addEquation_70 rfl rfl ?_
        refine ex_iload dX1_addEquation_71 rfl ?_
        refine ex_cV (ν := m_Grammar_placeOf) (a := 1) (ci := 1) (as := [.int (nI (r)), .int (x)]) dX1_addEquation_73 ln_Grammar_94 mf_Grammar_placeOf rfl (Nat.le_of_ble_eq_true rfl) rfl rfl np_Grammar_placeOf rfl rfl ⟨(Nat.le_of_ble_eq_true rfl), (Nat.le_of_ble_eq_true rfl), (Nat.le_of_ble_eq_true rfl), (Nat.le_of_ble_eq_true rfl)⟩ (by decide) ?_
        refine sp_Grammar_placeOf_I (n := n) (sy := sy) (SC_U (by decide) sc) (gs.fr (l := [11]) (Fr.rf.U (by decide)) (by decide) (by decide)) (by omega) ?_
        refine ⟨_, rfl, ?_⟩
        refine ex_asN (a := X) (by rw [hpx]; rfl) ?_
        refine ex_cV (ν := m_Grid_set) (a := 12) (ci := 2) (as := [.int (nI (r)), .int (nI (p)), .int (nI (X))]) dX1_addEquation_76 ln_Grammar_55 mf_Grid_set rfl (Nat.le_of_ble_eq_true rfl) rfl rfl np_Grid_set rfl rfl ⟨(Nat.le_of_ble_eq_true rfl), (Nat.le_of_ble_eq_true rfl), (Nat.le_of_ble_eq_true rfl), (Nat.le_of_ble_eq_true rfl)⟩ (by decide) ?_
        refine sp_Grid_set (r := 12) (c := 13) rfl rfl rfl (by decide) (by decide) (sc_12_0 (SC_U (by decide) sc)) (sc_12_1 (SC_U (by decide) sc)) rfl (by omega) (by omega) ?_
        refine ⟨_, rfl, ?_⟩
        refine ex_aload_n (i := 0) dX1_addEquation_79 rfl rfl ?_
        refine ex_getR (v := .ref (14)) dX1_addEquation_80 fl_Grammar_41 rfl rfl (by decide) rfl ?_
        refine ex_iload_n (i := 1) dX1_addEquation_83 rfl rfl ?_
        refine ex_iload dX1_addEquation_84 rfl ?_
        refine ex_iload_n (i := 3) dX1_addEquation_86 rfl rfl ?_
        refine ex_iconst (v := nI 2) dX1_addEquation_87 (by decide) ?_
        refine ex_icmp_geN (tgt := 95) dX1_addEquation_88 (by decide) (by decide) (by decide) (fun hx88 => by exact absurd hx88 (by decide)) (fun hx88 => ?_)
        refine ex_iconst (v := nI 0) dX1_addEquation_91 (by decide) ?_
        refine ex_goto (tgt := 102) dX1_addEquation_92 (by decide) ?_
        refine ex_cV (ν := m_Grid_set) (a := 14) (ci := 2) (as := [.int (nI (r)), .int (nI (p)), .int (nI (0))]) dX1_addEquation_102 ln_Grammar_55 mf_Grid_set rfl (Nat.le_of_ble_eq_true rfl) rfl rfl np_Grid_set rfl rfl ⟨(Nat.le_of_ble_eq_true rfl), (Nat.le_of_ble_eq_true rfl), (Nat.le_of_ble_eq_true rfl), (Nat.le_of_ble_eq_true rfl)⟩ (by decide) ?_
        refine sp_Grid_set (r := 14) (c := 15) rfl rfl rfl (by decide) (by decide) (sc_14_0 (SC_U (by decide) (SC_U (by decide) sc))) (sc_14_1 (SC_U (by decide) (SC_U (by decide) sc))) rfl (by omega) (by omega) ?_
        refine ⟨_, rfl, ?_⟩
        refine ex_iload dX1_addEquation_105 rfl ?_
        refine ex_iret dX1_addEquation_107 rfl (by decide) ?_
        exact hQ
      · have hpy := hy1 (by omega)
        refine ex_aload_n (i := 0) dX1_addEquation_0 rfl rfl ?_
        refine ex_iload_n (i := 1) dX1_addEquation_1 rfl rfl ?_
        refine ex_iload_n (i := 2) dX1_addEquation_2 rfl rfl ?_
        refine ex_cV (ν := m_Grammar_placeOf) (a := 1) (ci := 1) (as := [.int (nI (r)), .int (c)]) dX1_addEquation_3 ln_Grammar_94 mf_Grammar_placeOf rfl (Nat.le_of_ble_eq_true rfl) rfl rfl np_Grammar_placeOf rfl rfl ⟨(Nat.le_of_ble_eq_true rfl), (Nat.le_of_ble_eq_true rfl), (Nat.le_of_ble_eq_true rfl), (Nat.le_of_ble_eq_true rfl)⟩ (by decide) ?_
        refine sp_Grammar_placeOf_I sc gs (by omega) ?_
        refine ⟨_, rfl, ?_⟩
        refine ex_asN (a := p) (by rw [hp]; rfl) ?_
        refine ex_istore (L' := [some (.ref (1)), some (.int (nI (r))), some (.int (c)), some (.int (nI (o))), some (.int (x)), some (.int (y)), some (.int (nI (p))), none]) dX1_addEquation_6 (by decide) rfl ?_
        refine ex_aload_n (i := 0) dX1_addEquation_8 rfl rfl ?_
        refine ex_iload_n (i := 1) dX1_addEquation_9 rfl rfl ?_
        refine ex_iload dX1_addEquation_10 rfl ?_
        refine ex_cV (ν := m_Grammar_operationAt) (a := 1) (ci := 1) (as := [.int (nI (r)), .int (nI (p))]) dX1_addEquation_12 ln_Grammar_97 mf_Grammar_operationAt rfl (Nat.le_of_ble_eq_true rfl) rfl rfl np_Grammar_operationAt rfl rfl ⟨(Nat.le_of_ble_eq_true rfl), (Nat.le_of_ble_eq_true rfl), (Nat.le_of_ble_eq_true rfl), (Nat.le_of_ble_eq_true rfl)⟩ (by decide) ?_
        refine sp_Grammar_operationAt sc (by omega) hp15 ?_
        refine ⟨_, rfl, ?_⟩
        refine ex_asN (a := op (r * 15 + p) - 1) hov2 ?_
        refine ex_if_geN (tgt := 22) dX1_addEquation_15 (by decide) (by omega) ?_
        refine ex_iconst (v := nI 0) dX1_addEquation_22 (by decide) ?_
        refine ex_istore (L' := [some (.ref (1)), some (.int (nI (r))), some (.int (c)), some (.int (nI (o))), some (.int (x)), some (.int (y)), some (.int (nI (p))), some (.int (nI (0)))]) dX1_addEquation_23 (by decide) rfl ?_
        refine ex_iload dX1_addEquation_25 rfl ?_
        refine ex_if_eqN (tgt := 40) dX1_addEquation_27 (by decide) (by omega) (fun hx27 => ?_) (fun hx27 => by exact absurd hx27 (by decide))
        refine ex_aload_n (i := 0) dX1_addEquation_40 rfl rfl ?_
        refine ex_getR (v := .ref (10)) dX1_addEquation_41 fl_Grammar_35 rfl rfl (by decide) rfl ?_
        refine ex_iload_n (i := 1) dX1_addEquation_44 rfl rfl ?_
        refine ex_iload dX1_addEquation_45 rfl ?_
        refine ex_iload_n (i := 3) dX1_addEquation_47 rfl rfl ?_
        refine ex_iconst (v := nI 1) dX1_addEquation_48 (by decide) ?_
        refine ex_iaddN dX1_addEquation_49 ?_
        refine ex_cV (ν := m_Grid_set) (a := 10) (ci := 2) (as := [.int (nI (r)), .int (nI (p)), .int (nI (o + 1))]) dX1_addEquation_50 ln_Grammar_55 mf_Grid_set rfl (Nat.le_of_ble_eq_true rfl) rfl rfl np_Grid_set rfl rfl ⟨(Nat.le_of_ble_eq_true rfl), (Nat.le_of_ble_eq_true rfl), (Nat.le_of_ble_eq_true rfl), (Nat.le_of_ble_eq_true rfl)⟩ (by decide) ?_
        refine sp_Grid_set (r := 10) (c := 11) rfl rfl rfl (by decide) (by decide) (sc_10_0 sc) (sc_10_1 sc) rfl (by omega) (by omega) ?_
        refine ⟨_, rfl, ?_⟩
        refine ex_aload_n (i := 0) dX1_addEquation_53 rfl rfl ?_
        refine ex_getR (v := .ref (12)) dX1_addEquation_54 fl_Grammar_38 rfl rfl (by decide) rfl ?_
        refine ex_iload_n (i := 1) dX1_addEquation_57 rfl rfl ?_
        refine ex_iload dX1_addEquation_58 rfl ?_
        refine ex_iload_n (i := 3) dX1_addEquation_60 rfl rfl ?_
        refine ex_if_neN (tgt := 69) dX1_addEquation_61 (by decide) (by omega) (fun hx61 => ?_) (fun hx61 => by omega)
        refine ex_aload_n (i := 0) dX1_addEquation_69 rfl rfl ?_
        refine ex_iload_n (i := 1) dX1_addEquation_70 rfl rfl ?_
        refine ex_iload dX1_addEquation_71 rfl ?_
        refine ex_cV (ν := m_Grammar_placeOf) (a := 1) (ci := 1) (as := [.int (nI (r)), .int (x)]) dX1_addEquation_73 ln_Grammar_94 mf_Grammar_placeOf rfl (Nat.le_of_ble_eq_true rfl) rfl rfl np_Grammar_placeOf rfl rfl ⟨(Nat.le_of_ble_eq_true rfl), (Nat.le_of_ble_eq_true rfl), (Nat.le_of_ble_eq_true rfl), (Nat.le_of_ble_eq_true rfl)⟩ (by decide) ?_
        refine sp_Grammar_placeOf_I (n := n) (sy := sy) (SC_U (by decide) sc) (gs.fr (l := [11]) (Fr.rf.U (by decide)) (by decide) (by decide)) (by omega) ?_
        refine ⟨_, rfl, ?_⟩
        refine ex_asN (a := X) (by rw [hpx]; rfl) ?_
        refine ex_cV (ν := m_Grid_set) (a := 12) (ci := 2) (as := [.int (nI (r)), .int (nI (p)), .int (nI (X))]) dX1_addEquation_76 ln_Grammar_55 mf_Grid_set rfl (Nat.le_of_ble_eq_true rfl) rfl rfl np_Grid_set rfl rfl ⟨(Nat.le_of_ble_eq_true rfl), (Nat.le_of_ble_eq_true rfl), (Nat.le_of_ble_eq_true rfl), (Nat.le_of_ble_eq_true rfl)⟩ (by decide) ?_
        refine sp_Grid_set (r := 12) (c := 13) rfl rfl rfl (by decide) (by decide) (sc_12_0 (SC_U (by decide) sc)) (sc_12_1 (SC_U (by decide) sc)) rfl (by omega) (by omega) ?_
        refine ⟨_, rfl, ?_⟩
        refine ex_aload_n (i := 0) dX1_addEquation_79 rfl rfl ?_
        refine ex_getR (v := .ref (14)) dX1_addEquation_80 fl_Grammar_41 rfl rfl (by decide) rfl ?_
        refine ex_iload_n (i := 1) dX1_addEquation_83 rfl rfl ?_
        refine ex_iload dX1_addEquation_84 rfl ?_
        refine ex_iload_n (i := 3) dX1_addEquation_86 rfl rfl ?_
        refine ex_iconst (v := nI 2) dX1_addEquation_87 (by decide) ?_
        refine ex_icmp_geN (tgt := 95) dX1_addEquation_88 (by decide) (by omega) (by omega) (fun hx88 => ?_) (fun hx88 => by omega)
        refine ex_aload_n (i := 0) dX1_addEquation_95 rfl rfl ?_
        refine ex_iload_n (i := 1) dX1_addEquation_96 rfl rfl ?_
        refine ex_iload dX1_addEquation_97 rfl ?_
        refine ex_cV (ν := m_Grammar_placeOf) (a := 1) (ci := 1) (as := [.int (nI (r)), .int (y)]) dX1_addEquation_99 ln_Grammar_94 mf_Grammar_placeOf rfl (Nat.le_of_ble_eq_true rfl) rfl rfl np_Grammar_placeOf rfl rfl ⟨(Nat.le_of_ble_eq_true rfl), (Nat.le_of_ble_eq_true rfl), (Nat.le_of_ble_eq_true rfl), (Nat.le_of_ble_eq_true rfl)⟩ (by decide) ?_
        refine sp_Grammar_placeOf_I (n := n) (sy := sy) (SC_U (by decide) (SC_U (by decide) sc)) (gs.fr (l := [11, 13]) ((Fr.rf.U (by decide)).U (by decide)) (by decide) (by decide)) (by omega) ?_
        refine ⟨_, rfl, ?_⟩
        refine ex_asN (a := Y) (by rw [hpy]; rfl) ?_
        refine ex_cV (ν := m_Grid_set) (a := 14) (ci := 2) (as := [.int (nI (r)), .int (nI (p)), .int (nI (Y))]) dX1_addEquation_102 ln_Grammar_55 mf_Grid_set rfl (Nat.le_of_ble_eq_true rfl) rfl rfl np_Grid_set rfl rfl ⟨(Nat.le_of_ble_eq_true rfl), (Nat.le_of_ble_eq_true rfl), (Nat.le_of_ble_eq_true rfl), (Nat.le_of_ble_eq_true rfl)⟩ (by decide) ?_
        refine sp_Grid_set (r := 14) (c := 15) rfl rfl rfl (by decide) (by decide) (sc_14_0 (SC_U (by decide) (SC_U (by decide) sc))) (sc_14_1 (SC_U (by decide) (SC_U (by decide) sc))) rfl (by omega) (by omega) ?_
        refine ⟨_, rfl, ?_⟩
        refine ex_iload dX1_addEquation_105 rfl ?_
        refine ex_iret dX1_addEquation_107 rfl (by decide) ?_
        exact hQ
end S44
