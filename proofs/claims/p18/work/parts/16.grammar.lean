/-! ===== Grammar: lengths, FIRST of what is behind a dot, places ===== -/
def lnS (f : Nat → Nat) : Nat := if f 1 = 0 then 0 else if f 2 = 0 then 1 else if f 3 = 0 then 2 else if f 4 = 0 then 3 else 4
theorem lnS_le (f : Nat → Nat) : lnS f ≤ 4 := by by_cases h1 : f 1 = 0 <;> by_cases h2 : f 2 = 0 <;> by_cases h3 : f 3 = 0 <;> by_cases h4 : f 4 = 0 <;> simp [lnS, h1, h2, h3, h4]
theorem tmB_le (s : Nat) : tmB s ≤ 1 := by unfold tmB; split <;> omega
theorem tmB_b (s : Nat) : tmB s < 2 ^ 31 := Nat.lt_of_le_of_lt (tmB_le s) (by decide)
theorem ntB_le (s : Nat) : ntB s ≤ 1 := by unfold ntB; split <;> omega
theorem ntB_b (s : Nat) : ntB s < 2 ^ 31 := Nat.lt_of_le_of_lt (ntB_le s) (by decide)
def fsT (f : Nat → Nat) (s : Nat) : Nat := if 1 ≤ s ∧ s ≤ 6 then 2 ^ s else f s
def ffN (f s : Nat → Nat) : Nat → Nat → Nat → Nat
  | _, 0, sum => sum
  | k, m + 1, sum => if sum % 2 = 0 then sum else ffN f s (k + 1) m (if s k = 0 then sum else sum / 2 * 2 ||| fsT f (s k))
/-- the place of a code in a rule whose symbols are f, or none -/
def plS (f : Nat → Nat) (c : Nat) : Option Nat := if lnS f < c / 10 ∨ 3 ≤ c % 10 ∨ (0 < c / 10 ∧ c % 10 = 2 ∧ tmB (f (c / 10)) = 1) then none else some (c / 10 * 3 + c % 10)
theorem nI_m2 {a : Nat} (h : a < 128) : nI a &&& (-2) = nI (a / 2 * 2) := by
  have h2 : ∀ a : Fin 128, nI a.val &&& (-2) = nI (a.val / 2 * 2) := by decide +kernel
  exact h2 ⟨a, h⟩
theorem fsT_lt {f : Nat → Nat} {s : Nat} (hf : ∀ s, f s < 128) : fsT f s < 128 := by
  unfold fsT
  split
  · rename_i h
    have : s = 1 ∨ s = 2 ∨ s = 3 ∨ s = 4 ∨ s = 5 ∨ s = 6 := by omega
    rcases this with rfl | rfl | rfl | rfl | rfl | rfl <;> decide
  · exact hf s
theorem or_lt {a b : Nat} (ha : a < 128) (hb : b < 128) : a ||| b < 128 := Nat.or_lt_two_pow (n := 7) ha hb
section S16
variable {ζ g : Nat} {i : Nat → Nat → Int32} {q : Nat → Nat → Int64} {t : Bool} {Q : xRes → xMem → Prop}
theorem sp_Grammar_lengthOf {a : Nat} {f : Nat → Nat} (sc : SC i) (ha : a < 15) (hf : ∀ k, k < 5 → i 3 (a * 5 + k) = nI (f k)) (hb : ∀ k, k < 5 → f k < 4096) (hQ : Q (.ok (some (.int (nI (lnS f))))) (56 + ζ, g, i, q, RT t)) : Wx m_Grammar_lengthOf 0 [some (.ref 1), some (.int (nI a)), none] [] (56 + ζ, g, i, q, RT t) (0, 0) Q := by
  have b1 := hb 1 (by decide)
  have b2 := hb 2 (by decide)
  have b3 := hb 3 (by decide)
  have b4 := hb 4 (by decide)
  refine ex_iconst (v := nI 0) dX1_lengthOf_0 (by decide) ?_
  refine ex_istore_n (L' := [some (.ref (1)), some (.int (nI (a))), some (.int (nI (0)))]) dX1_lengthOf_1 (i := 2) rfl (by decide) rfl ?_
  refine ex_iload_n (i := 2) dX1_lengthOf_2 rfl rfl ?_
  refine ex_iconst (v := nI 4) dX1_lengthOf_3 (by decide) ?_
  refine ex_icmp_geN (tgt := 27) dX1_lengthOf_4 (by decide) (by decide) (by decide) (fun hx4 => by exact absurd hx4 (by decide)) (fun hx4 => ?_)
  refine ex_aload_n (i := 0) dX1_lengthOf_7 rfl rfl ?_
  refine ex_getR (v := .ref (2)) dX1_lengthOf_8 fl_Grammar_14 rfl rfl (l56 (by decide)) rfl ?_
  refine ex_iload_n (i := 1) dX1_lengthOf_11 rfl rfl ?_
  refine ex_iload_n (i := 2) dX1_lengthOf_12 rfl rfl ?_
  refine ex_iconst (v := nI 1) dX1_lengthOf_13 (by decide) ?_
  refine ex_iaddN dX1_lengthOf_14 ?_
  refine ex_cV (ν := m_Grid_get) (a := 2) (ci := 2) (as := [.int (nI (a)), .int (nI (1))]) dX1_lengthOf_15 ln_Grammar_62 mf_Grid_get rfl (l56 (by decide)) rfl rfl np_Grid_get rfl rfl ⟨(Nat.le_of_ble_eq_true rfl), (Nat.le_of_ble_eq_true rfl), (Nat.le_of_ble_eq_true rfl), (Nat.le_of_ble_eq_true rfl)⟩ (by decide) ?_
  refine sp_Grid_get (r := 2) (c := 3) rfl rfl rfl (l56 (by decide)) (l56 (by decide)) (sc_2_0 sc) (sc_2_1 sc) rfl (by omega) (by decide) ?_
  refine ⟨_, rfl, ?_⟩
  refine ex_asN (a := f 1) (hf 1 (by decide)) ?_
  refine ex_if_eqN (tgt := 27) dX1_lengthOf_18 (by decide) (by omega) (fun hx18 => ?_) (fun hx18 => ?_)
  · refine ex_iload_n (i := 2) dX1_lengthOf_27 rfl rfl ?_
    refine ex_iret dX1_lengthOf_28 rfl rfl ?_
    unfold lnS at hQ; simp only [*, if_true, if_false, ne_eq, not_false_eq_true] at hQ; exact hQ
  · refine ex_iincN (L' := [some (.ref (1)), some (.int (nI (a))), some (.int (nI (1)))]) dX1_lengthOf_21 rfl rfl (by decide) rfl ?_
    refine ex_goto (tgt := 2) dX1_lengthOf_24 (by decide) ?_
    refine ex_iload_n (i := 2) dX1_lengthOf_2 rfl rfl ?_
    refine ex_iconst (v := nI 4) dX1_lengthOf_3 (by decide) ?_
    refine ex_icmp_geN (tgt := 27) dX1_lengthOf_4 (by decide) (by decide) (by decide) (fun hx4 => by exact absurd hx4 (by decide)) (fun hx4 => ?_)
    refine ex_aload_n (i := 0) dX1_lengthOf_7 rfl rfl ?_
    refine ex_getR (v := .ref (2)) dX1_lengthOf_8 fl_Grammar_14 rfl rfl (l56 (by decide)) rfl ?_
    refine ex_iload_n (i := 1) dX1_lengthOf_11 rfl rfl ?_
    refine ex_iload_n (i := 2) dX1_lengthOf_12 rfl rfl ?_
    refine ex_iconst (v := nI 1) dX1_lengthOf_13 (by decide) ?_
    refine ex_iaddN dX1_lengthOf_14 ?_
    refine ex_cV (ν := m_Grid_get) (a := 2) (ci := 2) (as := [.int (nI (a)), .int (nI (2))]) dX1_lengthOf_15 ln_Grammar_62 mf_Grid_get rfl (l56 (by decide)) rfl rfl np_Grid_get rfl rfl ⟨(Nat.le_of_ble_eq_true rfl), (Nat.le_of_ble_eq_true rfl), (Nat.le_of_ble_eq_true rfl), (Nat.le_of_ble_eq_true rfl)⟩ (by decide) ?_
    refine sp_Grid_get (r := 2) (c := 3) rfl rfl rfl (l56 (by decide)) (l56 (by decide)) (sc_2_0 sc) (sc_2_1 sc) rfl (by omega) (by decide) ?_
    refine ⟨_, rfl, ?_⟩
    refine ex_asN (a := f 2) (hf 2 (by decide)) ?_
    refine ex_if_eqN (tgt := 27) dX1_lengthOf_18 (by decide) (by omega) (fun hx18 => ?_) (fun hx18 => ?_)
    · refine ex_iload_n (i := 2) dX1_lengthOf_27 rfl rfl ?_
      refine ex_iret dX1_lengthOf_28 rfl rfl ?_
      unfold lnS at hQ; simp only [*, if_true, if_false, ne_eq, not_false_eq_true] at hQ; exact hQ
    · refine ex_iincN (L' := [some (.ref (1)), some (.int (nI (a))), some (.int (nI (2)))]) dX1_lengthOf_21 rfl rfl (by decide) rfl ?_
      refine ex_goto (tgt := 2) dX1_lengthOf_24 (by decide) ?_
      refine ex_iload_n (i := 2) dX1_lengthOf_2 rfl rfl ?_
      refine ex_iconst (v := nI 4) dX1_lengthOf_3 (by decide) ?_
      refine ex_icmp_geN (tgt := 27) dX1_lengthOf_4 (by decide) (by decide) (by decide) (fun hx4 => by exact absurd hx4 (by decide)) (fun hx4 => ?_)
      refine ex_aload_n (i := 0) dX1_lengthOf_7 rfl rfl ?_
      refine ex_getR (v := .ref (2)) dX1_lengthOf_8 fl_Grammar_14 rfl rfl (l56 (by decide)) rfl ?_
      refine ex_iload_n (i := 1) dX1_lengthOf_11 rfl rfl ?_
      refine ex_iload_n (i := 2) dX1_lengthOf_12 rfl rfl ?_
      refine ex_iconst (v := nI 1) dX1_lengthOf_13 (by decide) ?_
      refine ex_iaddN dX1_lengthOf_14 ?_
      refine ex_cV (ν := m_Grid_get) (a := 2) (ci := 2) (as := [.int (nI (a)), .int (nI (3))]) dX1_lengthOf_15 ln_Grammar_62 mf_Grid_get rfl (l56 (by decide)) rfl rfl np_Grid_get rfl rfl ⟨(Nat.le_of_ble_eq_true rfl), (Nat.le_of_ble_eq_true rfl), (Nat.le_of_ble_eq_true rfl), (Nat.le_of_ble_eq_true rfl)⟩ (by decide) ?_
      refine sp_Grid_get (r := 2) (c := 3) rfl rfl rfl (l56 (by decide)) (l56 (by decide)) (sc_2_0 sc) (sc_2_1 sc) rfl (by omega) (by decide) ?_
      refine ⟨_, rfl, ?_⟩
      refine ex_asN (a := f 3) (hf 3 (by decide)) ?_
      refine ex_if_eqN (tgt := 27) dX1_lengthOf_18 (by decide) (by omega) (fun hx18 => ?_) (fun hx18 => ?_)
      · refine ex_iload_n (i := 2) dX1_lengthOf_27 rfl rfl ?_
        refine ex_iret dX1_lengthOf_28 rfl rfl ?_
        unfold lnS at hQ; simp only [*, if_true, if_false, ne_eq, not_false_eq_true] at hQ; exact hQ
      · refine ex_iincN (L' := [some (.ref (1)), some (.int (nI (a))), some (.int (nI (3)))]) dX1_lengthOf_21 rfl rfl (by decide) rfl ?_
        refine ex_goto (tgt := 2) dX1_lengthOf_24 (by decide) ?_
        refine ex_iload_n (i := 2) dX1_lengthOf_2 rfl rfl ?_
        refine ex_iconst (v := nI 4) dX1_lengthOf_3 (by decide) ?_
        refine ex_icmp_geN (tgt := 27) dX1_lengthOf_4 (by decide) (by decide) (by decide) (fun hx4 => by exact absurd hx4 (by decide)) (fun hx4 => ?_)
        refine ex_aload_n (i := 0) dX1_lengthOf_7 rfl rfl ?_
        refine ex_getR (v := .ref (2)) dX1_lengthOf_8 fl_Grammar_14 rfl rfl (l56 (by decide)) rfl ?_
        refine ex_iload_n (i := 1) dX1_lengthOf_11 rfl rfl ?_
        refine ex_iload_n (i := 2) dX1_lengthOf_12 rfl rfl ?_
        refine ex_iconst (v := nI 1) dX1_lengthOf_13 (by decide) ?_
        refine ex_iaddN dX1_lengthOf_14 ?_
        refine ex_cV (ν := m_Grid_get) (a := 2) (ci := 2) (as := [.int (nI (a)), .int (nI (4))]) dX1_lengthOf_15 ln_Grammar_62 mf_Grid_get rfl (l56 (by decide)) rfl rfl np_Grid_get rfl rfl ⟨(Nat.le_of_ble_eq_true rfl), (Nat.le_of_ble_eq_true rfl), (Nat.le_of_ble_eq_true rfl), (Nat.le_of_ble_eq_true rfl)⟩ (by decide) ?_
        refine sp_Grid_get (r := 2) (c := 3) rfl rfl rfl (l56 (by decide)) (l56 (by decide)) (sc_2_0 sc) (sc_2_1 sc) rfl (by omega) (by decide) ?_
        refine ⟨_, rfl, ?_⟩
        refine ex_asN (a := f 4) (hf 4 (by decide)) ?_
        refine ex_if_eqN (tgt := 27) dX1_lengthOf_18 (by decide) (by omega) (fun hx18 => ?_) (fun hx18 => ?_)
        · refine ex_iload_n (i := 2) dX1_lengthOf_27 rfl rfl ?_
          refine ex_iret dX1_lengthOf_28 rfl rfl ?_
          unfold lnS at hQ; simp only [*, if_true, if_false, ne_eq, not_false_eq_true] at hQ; exact hQ
        · refine ex_iincN (L' := [some (.ref (1)), some (.int (nI (a))), some (.int (nI (4)))]) dX1_lengthOf_21 rfl rfl (by decide) rfl ?_
          refine ex_goto (tgt := 2) dX1_lengthOf_24 (by decide) ?_
          refine ex_iload_n (i := 2) dX1_lengthOf_2 rfl rfl ?_
          refine ex_iconst (v := nI 4) dX1_lengthOf_3 (by decide) ?_
          refine ex_icmp_geN (tgt := 27) dX1_lengthOf_4 (by decide) (by decide) (by decide) (fun hx4 => ?_) (fun hx4 => by exact absurd hx4 (by decide))
          refine ex_iload_n (i := 2) dX1_lengthOf_27 rfl rfl ?_
          refine ex_iret dX1_lengthOf_28 rfl rfl ?_
          unfold lnS at hQ; simp only [*, if_true, if_false, ne_eq, not_false_eq_true] at hQ; exact hQ
theorem sp_Grammar_firstOf {s : Nat} {f : Nat → Nat} (hs : 1 ≤ s ∧ s ≤ 6 ∨ 8 ≤ s ∧ s ≤ 13) (hf : ∀ s, 8 ≤ s → s ≤ 13 → i 9 s = nI (f s)) (hQ : Q (.ok (some (.int (nI (fsT f s))))) (56 + ζ, g, i, q, RT t)) : Wx m_Grammar_firstOf 0 [some (.ref 1), some (.int (nI s))] [] (56 + ζ, g, i, q, RT t) (0, 0) Q := by
  rcases hs with h | h
  · have e : fsT f s = 2 ^ s := by unfold fsT; rw [if_pos h]
    rw [e] at hQ
    have e2 : tmB s = 1 := tm1 h.1 h.2
    have h2 : 2 ^ s ≤ 2 ^ 6 := Nat.pow_le_pow_right (by decide) h.2
    have e3 : 1 * 2 ^ s < 2 ^ 32 := by omega
    refine ex_iload_n (i := 1) dX1_firstOf_0 rfl rfl ?_
    refine ex_cN (ν := m_Works_isTerminal) (as := [.int (nI (s))]) dX1_firstOf_1 ln_Grammar_74 mf_Works_isTerminal np_Works_isTerminal rfl rfl ⟨(Nat.le_of_ble_eq_true rfl), (Nat.le_of_ble_eq_true rfl), (Nat.le_of_ble_eq_true rfl), (Nat.le_of_ble_eq_true rfl)⟩ (by decide) ?_
    refine sp_Works_isTerminal (by omega) ?_
    refine ⟨_, rfl, ?_⟩
    refine ex_asN (a := 1) (by rw [e2]) ?_
    refine ex_if_eqN (tgt := 13) dX1_firstOf_4 (by decide) (by omega) (fun h4 => by exact absurd h4 (by decide)) (fun h4 => ?_)
    refine ex_iconst (v := nI 1) dX1_firstOf_7 (by decide) ?_
    refine ex_iload_n (i := 1) dX1_firstOf_8 rfl rfl ?_
    refine ex_ishlN dX1_firstOf_9 (by first | omega | exact e3) (by first | omega | exact e3) ?_
    refine ex_goto (tgt := 21) dX1_firstOf_10 (by decide) ?_
    refine ex_iret dX1_firstOf_21 rfl rfl ?_
    rw [Nat.one_mul]; exact hQ
  · have e : fsT f s = f s := by unfold fsT; rw [if_neg (by omega)]
    rw [e] at hQ
    have e2 : tmB s = 0 := tm0 (by omega)
    refine ex_iload_n (i := 1) dX1_firstOf_0 rfl rfl ?_
    refine ex_cN (ν := m_Works_isTerminal) (as := [.int (nI (s))]) dX1_firstOf_1 ln_Grammar_74 mf_Works_isTerminal np_Works_isTerminal rfl rfl ⟨(Nat.le_of_ble_eq_true rfl), (Nat.le_of_ble_eq_true rfl), (Nat.le_of_ble_eq_true rfl), (Nat.le_of_ble_eq_true rfl)⟩ (by decide) ?_
    refine sp_Works_isTerminal (by omega) ?_
    refine ⟨_, rfl, ?_⟩
    refine ex_asN (a := 0) (by rw [e2]) ?_
    refine ex_if_eqN (tgt := 13) dX1_firstOf_4 (by decide) (by omega) (fun h4 => ?_) (fun h4 => by exact absurd h4 (by decide))
    refine ex_aload_n (i := 0) dX1_firstOf_13 rfl rfl ?_
    refine ex_getR (v := .ref (8)) dX1_firstOf_14 fl_Grammar_32 rfl rfl (l56 (by decide)) rfl ?_
    refine ex_iload_n (i := 1) dX1_firstOf_17 rfl rfl ?_
    refine ex_cV (ν := m_Row_get) (a := 8) (ci := 6) (as := [.int (nI (s))]) dX1_firstOf_18 ln_Grammar_66 mf_Row_get rfl (l56 (by decide)) rfl rfl np_Row_get rfl rfl ⟨(Nat.le_of_ble_eq_true rfl), (Nat.le_of_ble_eq_true rfl), (Nat.le_of_ble_eq_true rfl), (Nat.le_of_ble_eq_true rfl)⟩ (by decide) ?_
    refine sp_Row_get (r := 8) (c := 9) rfl rfl rfl (l56 (by decide)) (l56 (by decide)) (by omega) ?_
    refine ⟨_, rfl, ?_⟩
    refine ex_asN (a := f s) (hf s h.1 h.2) ?_
    refine ex_iret dX1_firstOf_21 rfl rfl ?_
    exact hQ
theorem lp_Grammar_firstFrom {a : Nat} {f sy : Nat → Nat} (sc : SC i) (ha : a < 15) (hf : ∀ s, 8 ≤ s → s ≤ 13 → i 9 s = nI (f s)) (hf2 : ∀ s, f s < 128) (hy : ∀ k, k < 5 → i 3 (a * 5 + k) = nI (sy k)) (hy2 : ∀ k, 1 ≤ k → k < 5 → sy k = 0 ∨ 1 ≤ sy k ∧ sy k ≤ 6 ∨ 8 ≤ sy k ∧ sy k ≤ 13) : ∀ m k k0 sum, k + m = 5 ∨ (m = 0 ∧ 5 ≤ k ∧ k < 10) → 1 ≤ k → sum < 128 → Q (.ok (some (.int (nI (ffN f sy k m sum))))) (56 + ζ, g, i, q, RT t) → Wx m_Grammar_firstFrom 5 [some (.ref 1), some (.int (nI a)), some (.int (nI k0)), some (.int (nI sum)), some (.int (nI k)), none] [] (56 + ζ, g, i, q, RT t) (0, 0) Q := by
  intro m
  induction m with
  | zero =>
    intro k k0 sum hk h1 hs hQ
    refine ex_iload dX1_firstFrom_5 rfl ?_
    refine ex_iconst (v := nI 4) dX1_firstFrom_7 (by decide) ?_
    refine ex_icmp_gtN (tgt := 49) dX1_firstFrom_8 (by decide) (by omega) (by omega) (fun h8 => ?_) (fun h8 => by omega)
    refine ex_iload_n (i := 3) dX1_firstFrom_49 rfl rfl ?_
    refine ex_iret dX1_firstFrom_50 rfl rfl ?_
    exact hQ
  | succ m ih =>
    intro k k0 sum hk h1 hs hQ
    have hk4 : k < 5 := by omega
    have b := hy2 k h1 hk4
    by_cases hodd : sum % 2 = 0
    · have e : ffN f sy k (m + 1) sum = sum := by show (if sum % 2 = 0 then _ else _) = _; rw [if_pos hodd]
      rw [e] at hQ
      refine ex_iload dX1_firstFrom_5 rfl ?_
      refine ex_iconst (v := nI 4) dX1_firstFrom_7 (by decide) ?_
      refine ex_icmp_gtN (tgt := 49) dX1_firstFrom_8 (by decide) (by omega) (by omega) (fun h8 => by omega) (fun h8 => ?_)
      refine ex_iload_n (i := 3) dX1_firstFrom_11 rfl rfl ?_
      refine ex_iconst (v := nI 1) dX1_firstFrom_12 (by decide) ?_
      refine ex_iandN dX1_firstFrom_13 ?_
      refine ex_if_eqN (tgt := 49) dX1_firstFrom_14 (by decide) (by rw [Nat.and_one_is_mod]; omega) (fun h14 => ?_) (fun h14 => by exact absurd (by rw [Nat.and_one_is_mod]; exact hodd) h14)
      refine ex_iload_n (i := 3) dX1_firstFrom_49 rfl rfl ?_
      refine ex_iret dX1_firstFrom_50 rfl rfl ?_
      exact hQ
    · have e : ffN f sy k (m + 1) sum = ffN f sy (k + 1) m (if sy k = 0 then sum else sum / 2 * 2 ||| fsT f (sy k)) := by show (if sum % 2 = 0 then _ else _) = _; rw [if_neg hodd]
      rw [e] at hQ
      by_cases hz : sy k = 0
      · rw [if_pos hz] at hQ
        refine ex_iload dX1_firstFrom_5 rfl ?_
        refine ex_iconst (v := nI 4) dX1_firstFrom_7 (by decide) ?_
        refine ex_icmp_gtN (tgt := 49) dX1_firstFrom_8 (by decide) (by omega) (by omega) (fun h8 => by omega) (fun h8 => ?_)
        refine ex_iload_n (i := 3) dX1_firstFrom_11 rfl rfl ?_
        refine ex_iconst (v := nI 1) dX1_firstFrom_12 (by decide) ?_
        refine ex_iandN dX1_firstFrom_13 ?_
        refine ex_if_eqN (tgt := 49) dX1_firstFrom_14 (by decide) (by rw [Nat.and_one_is_mod]; omega) (fun h14 => by exact absurd (by rw [Nat.and_one_is_mod] at h14; exact h14) hodd) (fun h14 => ?_)
        refine ex_aload_n (i := 0) dX1_firstFrom_17 rfl rfl ?_
        refine ex_iload_n (i := 1) dX1_firstFrom_18 rfl rfl ?_
        refine ex_iload dX1_firstFrom_19 rfl ?_
        refine ex_cV (ν := m_Grammar_symbolAt) (a := 1) (ci := 1) (as := [.int (nI (a)), .int (nI (k))]) dX1_firstFrom_21 ln_Grammar_71 mf_Grammar_symbolAt rfl (l56 (by decide)) rfl rfl np_Grammar_symbolAt rfl rfl ⟨(Nat.le_of_ble_eq_true rfl), (Nat.le_of_ble_eq_true rfl), (Nat.le_of_ble_eq_true rfl), (Nat.le_of_ble_eq_true rfl)⟩ (by decide) ?_
        refine sp_Grammar_symbolAt sc (by omega) (by omega) ?_
        refine ⟨_, rfl, ?_⟩
        refine ex_asN (a := sy k) (hy k hk4) ?_
        refine ex_istore (L' := [some (.ref (1)), some (.int (nI (a))), some (.int (nI (k0))), some (.int (nI (sum))), some (.int (nI (k))), some (.int (nI (sy k)))]) dX1_firstFrom_24 (by decide) rfl ?_
        refine ex_iload dX1_firstFrom_26 rfl ?_
        refine ex_if_eqN (tgt := 43) dX1_firstFrom_28 (by decide) (by omega) (fun h28 => ?_) (fun h28 => by exact absurd hz h28)
        refine ex_iincN (L' := [some (.ref (1)), some (.int (nI (a))), some (.int (nI (k0))), some (.int (nI (sum))), some (.int (nI (k + 1))), some (.int (nI (sy k)))]) dX1_firstFrom_43 rfl rfl (by decide) rfl ?_
        refine ex_goto (tgt := 5) dX1_firstFrom_46 (by decide) ?_
        refine ex_less (L' := [some (.ref 1), some (.int (nI a)), some (.int (nI k0)), some (.int (nI sum)), some (.int (nI (k + 1))), none]) (by simp [xSub]) (ih (k + 1) k0 sum (by omega) (by omega) hs hQ)
      · rw [if_neg hz] at hQ
        have hl : sum / 2 * 2 ||| fsT f (sy k) < 128 := or_lt (by omega) (fsT_lt hf2)
        refine ex_iload dX1_firstFrom_5 rfl ?_
        refine ex_iconst (v := nI 4) dX1_firstFrom_7 (by decide) ?_
        refine ex_icmp_gtN (tgt := 49) dX1_firstFrom_8 (by decide) (by omega) (by omega) (fun h8 => by omega) (fun h8 => ?_)
        refine ex_iload_n (i := 3) dX1_firstFrom_11 rfl rfl ?_
        refine ex_iconst (v := nI 1) dX1_firstFrom_12 (by decide) ?_
        refine ex_iandN dX1_firstFrom_13 ?_
        refine ex_if_eqN (tgt := 49) dX1_firstFrom_14 (by decide) (by rw [Nat.and_one_is_mod]; omega) (fun h14 => by exact absurd (by rw [Nat.and_one_is_mod] at h14; exact h14) hodd) (fun h14 => ?_)
        refine ex_aload_n (i := 0) dX1_firstFrom_17 rfl rfl ?_
        refine ex_iload_n (i := 1) dX1_firstFrom_18 rfl rfl ?_
        refine ex_iload dX1_firstFrom_19 rfl ?_
        refine ex_cV (ν := m_Grammar_symbolAt) (a := 1) (ci := 1) (as := [.int (nI (a)), .int (nI (k))]) dX1_firstFrom_21 ln_Grammar_71 mf_Grammar_symbolAt rfl (l56 (by decide)) rfl rfl np_Grammar_symbolAt rfl rfl ⟨(Nat.le_of_ble_eq_true rfl), (Nat.le_of_ble_eq_true rfl), (Nat.le_of_ble_eq_true rfl), (Nat.le_of_ble_eq_true rfl)⟩ (by decide) ?_
        refine sp_Grammar_symbolAt sc (by omega) (by omega) ?_
        refine ⟨_, rfl, ?_⟩
        refine ex_asN (a := sy k) (hy k hk4) ?_
        refine ex_istore (L' := [some (.ref (1)), some (.int (nI (a))), some (.int (nI (k0))), some (.int (nI (sum))), some (.int (nI (k))), some (.int (nI (sy k)))]) dX1_firstFrom_24 (by decide) rfl ?_
        refine ex_iload dX1_firstFrom_26 rfl ?_
        refine ex_if_eqN (tgt := 43) dX1_firstFrom_28 (by decide) (by omega) (fun h28 => by exact absurd h28 hz) (fun h28 => ?_)
        refine ex_iload_n (i := 3) dX1_firstFrom_31 rfl rfl ?_
        refine ex_bipush (v := -2) dX1_firstFrom_32 (by decide) ?_
        refine ex_iand dX1_firstFrom_34 ?_
        refine ex_asN (a := sum / 2 * 2) (nI_m2 (by omega)) ?_
        refine ex_aload_n (i := 0) dX1_firstFrom_35 rfl rfl ?_
        refine ex_iload dX1_firstFrom_36 rfl ?_
        refine ex_cV (ν := m_Grammar_firstOf) (a := 1) (ci := 1) (as := [.int (nI (sy k))]) dX1_firstFrom_38 ln_Grammar_81 mf_Grammar_firstOf rfl (l56 (by decide)) rfl rfl np_Grammar_firstOf rfl rfl ⟨(Nat.le_of_ble_eq_true rfl), (Nat.le_of_ble_eq_true rfl), (Nat.le_of_ble_eq_true rfl), (Nat.le_of_ble_eq_true rfl)⟩ (by decide) ?_
        refine sp_Grammar_firstOf (b.resolve_left hz) hf ?_
        refine ⟨_, rfl, ?_⟩
        refine ex_iorN dX1_firstFrom_41 ?_
        refine ex_istore_n (L' := [some (.ref (1)), some (.int (nI (a))), some (.int (nI (k0))), some (.int (nI ((sum / 2 * 2) ||| (fsT f (sy k))))), some (.int (nI (k))), some (.int (nI (sy k)))]) dX1_firstFrom_42 (i := 3) rfl (by decide) rfl ?_
        refine ex_iincN (L' := [some (.ref (1)), some (.int (nI (a))), some (.int (nI (k0))), some (.int (nI ((sum / 2 * 2) ||| (fsT f (sy k))))), some (.int (nI (k + 1))), some (.int (nI (sy k)))]) dX1_firstFrom_43 rfl rfl (by decide) rfl ?_
        refine ex_goto (tgt := 5) dX1_firstFrom_46 (by decide) ?_
        refine ex_less (L' := [some (.ref 1), some (.int (nI a)), some (.int (nI k0)), some (.int (nI (sum / 2 * 2 ||| fsT f (sy k)))), some (.int (nI (k + 1))), none]) (by simp [xSub]) (ih (k + 1) k0 _ (by omega) (by omega) hl hQ)
theorem sp_Grammar_firstFrom {a k : Nat} {f sy : Nat → Nat} (sc : SC i) (ha : a < 15) (hk : 1 ≤ k ∧ k < 10) (hf : ∀ s, 8 ≤ s → s ≤ 13 → i 9 s = nI (f s)) (hf2 : ∀ s, f s < 128) (hy : ∀ k, k < 5 → i 3 (a * 5 + k) = nI (sy k)) (hy2 : ∀ k, 1 ≤ k → k < 5 → sy k = 0 ∨ 1 ≤ sy k ∧ sy k ≤ 6 ∨ 8 ≤ sy k ∧ sy k ≤ 13) (hQ : Q (.ok (some (.int (nI (ffN f sy k (5 - k) 1))))) (56 + ζ, g, i, q, RT t)) : Wx m_Grammar_firstFrom 0 [some (.ref 1), some (.int (nI a)), some (.int (nI k)), none, none, none] [] (56 + ζ, g, i, q, RT t) (0, 0) Q := by
  refine ex_iconst (v := nI 1) dX1_firstFrom_0 (by decide) ?_
  refine ex_istore_n (L' := [some (.ref (1)), some (.int (nI (a))), some (.int (nI (k))), some (.int (nI (1))), none, none]) dX1_firstFrom_1 (i := 3) rfl (by decide) rfl ?_
  refine ex_iload_n (i := 2) dX1_firstFrom_2 rfl rfl ?_
  refine ex_istore (L' := [some (.ref (1)), some (.int (nI (a))), some (.int (nI (k))), some (.int (nI (1))), some (.int (nI (k))), none]) dX1_firstFrom_3 (by decide) rfl ?_
  exact lp_Grammar_firstFrom sc ha hf hf2 hy hy2 (5 - k) k k 1 (by omega) hk.1 (by decide) hQ
end S16
