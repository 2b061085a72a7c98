/-! ===== the law's small methods: cell, symbol, part, choose; its calls of rule ===== -/
/-- the script's cell, 0 behind its end -/
def clX (xs : Nat → Int32) (L j : Nat) : Int32 := if j < L then xs j else 0
theorem and_m (x : Int32) (m : Nat) : ∃ v, v ≤ m ∧ x &&& nI m = nI v := by
  obtain ⟨a, rfl⟩ := nI_any x
  exact ⟨a &&& m, Nat.and_le_right, nI_and⟩
def smK (k : Nat) : Nat := if k < 4 then k else if k = 4 then 8 else if k = 5 then 9 else if k = 6 then 4 else 0
/-- the symbol of a cell -/
def syL (v : Int32) : Nat := smK (v &&& nI 7).toNatClampNeg
theorem smK_ok {k : Nat} : smK k = 0 ∨ 1 ≤ smK k ∧ smK k ≤ 6 ∨ 8 ≤ smK k ∧ smK k ≤ 13 := by
  unfold smK
  split
  · omega
  · split
    · omega
    · split
      · omega
      · split <;> omega
section S90
variable {n g : Nat} {i : Nat → Nat → Int32} {q : Nat → Nat → Int64} {r : Nat → Nat → Value} {Q : xRes → xMem → Prop} {xs : Nat → Int32} {L : Nat}
theorem sp_Law_cell {j : Nat} (hj : j < 4096) (h97 : i 4097 0 = nI L) (hL3 : L ≤ 260) (h96 : i 4096 = xs) (hQ : Q (.ok (some (.int (clX xs L j)))) (n, g, i, q, r)) : Wx m_Law_cell 0 [some (.ref 4096), some (.int (nI j))] [] (n, g, i, q, r) (0, 0) Q := by
  refine ex_iload_n (i := 1) dL_cell_0 rfl rfl ?_
  refine ex_aload_n (i := 0) dL_cell_1 rfl rfl ?_
  refine ex_slenN (by decide) dL_cell_2 h97 hL3 ?_
  refine ex_icmp_geN (tgt := 12) dL_cell_3 (by decide) (by omega) (by omega) (fun h3 => ?_) (fun h3 => ?_)
  · refine ex_iconst (v := nI 0) dL_cell_12 (by decide) ?_
    refine ex_iret dL_cell_13 rfl rfl ?_
    unfold clX at hQ
    first | (rw [if_pos (by omega)] at hQ; exact hQ) | (rw [if_neg (by omega)] at hQ; exact hQ)
  · refine ex_aload_n (i := 0) dL_cell_6 rfl rfl ?_
    refine ex_iload_n (i := 1) dL_cell_7 rfl rfl ?_
    refine ex_sldN (by decide) dL_cell_8 h97 hL3 (by omega) (congrFun h96 _) ?_
    refine ex_goto (tgt := 13) dL_cell_9 (by decide) ?_
    refine ex_iret dL_cell_13 rfl rfl ?_
    unfold clX at hQ
    first | (rw [if_pos (by omega)] at hQ; exact hQ) | (rw [if_neg (by omega)] at hQ; exact hQ)
theorem sp_Law_symbol {v : Int32} {M : xMem} (hQ : Q (.ok (some (.int (nI (syL v))))) M) : Wx m_Law_symbol 0 [some (.int v)] [] M (0, 0) Q := by
  obtain ⟨k, hk, e⟩ := and_m v 7
  have eS : syL v = smK k := by unfold syL; rw [e, nI_clamp (by omega)]
  refine ex_iload_n (i := 0) dL_symbol_0 rfl rfl ?_
  refine ex_bipush (v := nI 7) dL_symbol_1 (by decide) ?_
  refine ex_iand dL_symbol_3 ?_
  refine ex_asN (a := k) e ?_
  refine ex_iconst (v := nI 4) dL_symbol_4 (by decide) ?_
  refine ex_icmp_geN (tgt := 15) dL_symbol_5 (by decide) (by omega) (by omega) (fun h5 => ?_) (fun h5 => ?_)
  · refine ex_iload_n (i := 0) dL_symbol_15 rfl rfl ?_
    refine ex_bipush (v := nI 7) dL_symbol_16 (by decide) ?_
    refine ex_iand dL_symbol_18 ?_
    refine ex_asN (a := k) e ?_
    refine ex_iconst (v := nI 4) dL_symbol_19 (by decide) ?_
    refine ex_icmp_neN (tgt := 28) dL_symbol_20 (by decide) (by omega) (by omega) (fun h20 => ?_) (fun h20 => ?_)
    · refine ex_iload_n (i := 0) dL_symbol_28 rfl rfl ?_
      refine ex_bipush (v := nI 7) dL_symbol_29 (by decide) ?_
      refine ex_iand dL_symbol_31 ?_
      refine ex_asN (a := k) e ?_
      refine ex_iconst (v := nI 5) dL_symbol_32 (by decide) ?_
      refine ex_icmp_neN (tgt := 41) dL_symbol_33 (by decide) (by omega) (by omega) (fun h33 => ?_) (fun h33 => ?_)
      · refine ex_iload_n (i := 0) dL_symbol_41 rfl rfl ?_
        refine ex_bipush (v := nI 7) dL_symbol_42 (by decide) ?_
        refine ex_iand dL_symbol_44 ?_
        refine ex_asN (a := k) e ?_
        refine ex_bipush (v := nI 6) dL_symbol_45 (by decide) ?_
        refine ex_icmp_neN (tgt := 54) dL_symbol_47 (by decide) (by omega) (by omega) (fun h47 => ?_) (fun h47 => ?_)
        · refine ex_iconst (v := nI 0) dL_symbol_54 (by decide) ?_
          refine ex_iret dL_symbol_55 rfl rfl ?_
          have z : syL v = (0 : Nat) := by rw [eS]; unfold smK; (repeat' split) <;> omega
          rw [z] at hQ
          exact hQ
        · refine ex_iconst (v := nI 4) dL_symbol_50 (by decide) ?_
          refine ex_goto (tgt := 55) dL_symbol_51 (by decide) ?_
          refine ex_iret dL_symbol_55 rfl rfl ?_
          have z : syL v = (4 : Nat) := by rw [eS]; unfold smK; (repeat' split) <;> omega
          rw [z] at hQ
          exact hQ
      · refine ex_bipush (v := nI 9) dL_symbol_36 (by decide) ?_
        refine ex_goto (tgt := 55) dL_symbol_38 (by decide) ?_
        refine ex_iret dL_symbol_55 rfl rfl ?_
        have z : syL v = (9 : Nat) := by rw [eS]; unfold smK; (repeat' split) <;> omega
        rw [z] at hQ
        exact hQ
    · refine ex_bipush (v := nI 8) dL_symbol_23 (by decide) ?_
      refine ex_goto (tgt := 55) dL_symbol_25 (by decide) ?_
      refine ex_iret dL_symbol_55 rfl rfl ?_
      have z : syL v = (8 : Nat) := by rw [eS]; unfold smK; (repeat' split) <;> omega
      rw [z] at hQ
      exact hQ
  · refine ex_iload_n (i := 0) dL_symbol_8 rfl rfl ?_
    refine ex_bipush (v := nI 7) dL_symbol_9 (by decide) ?_
    refine ex_iand dL_symbol_11 ?_
    refine ex_asN (a := k) e ?_
    refine ex_goto (tgt := 55) dL_symbol_12 (by decide) ?_
    refine ex_iret dL_symbol_55 rfl rfl ?_
    have z : syL v = (k : Nat) := by rw [eS]; unfold smK; (repeat' split) <;> omega
    rw [z] at hQ
    exact hQ
/-- .. that of a place of a rule, 0 behind a 0 -/
def ptZ (f : Nat → Nat) : Nat → Nat → Nat
  | 0, s => s
  | j + 1, s => if f (j + 1) = 0 then 0 else ptZ f j s
theorem ptZ_or {f : Nat → Nat} {s : Nat} : ∀ {m : Nat}, ptZ f m s = 0 ∨ ptZ f m s = s
  | 0 => Or.inr rfl
  | m + 1 => by
    show (if f (m + 1) = 0 then 0 else ptZ f m s) = 0 ∨ (if f (m + 1) = 0 then 0 else ptZ f m s) = s
    by_cases c : f (m + 1) = 0
    · rw [if_pos c]; exact Or.inl rfl
    · rw [if_neg c]; exact ptZ_or
theorem ptZ_0 {f : Nat → Nat} {s : Nat} : ∀ {m : Nat}, ptZ f m s = 0 ↔ s = 0 ∨ ∃ j, 1 ≤ j ∧ j ≤ m ∧ f j = 0
  | 0 => ⟨fun h => Or.inl h, fun h => h.elim id (fun ⟨j, a, b, _⟩ => by omega)⟩
  | m + 1 => by
    show (if f (m + 1) = 0 then 0 else ptZ f m s) = 0 ↔ _
    by_cases c : f (m + 1) = 0
    · rw [if_pos c]; exact ⟨fun _ => Or.inr ⟨m + 1, by omega, Nat.le_refl _, c⟩, fun _ => rfl⟩
    · rw [if_neg c, ptZ_0]
      refine ⟨fun h => h.imp id (fun ⟨j, a, b, d⟩ => ⟨j, a, by omega, d⟩), fun h => h.imp id (fun ⟨j, a, b, d⟩ => ⟨j, a, ?_, d⟩)⟩
      by_cases e : j = m + 1
      · rw [e] at d; exact absurd d c
      · omega
abbrev ptF (xs : Nat → Int32) (L r : Nat) : Nat → Nat := fun j => syL (clX xs L (1 + 5 * r + j))
def ptL (xs : Nat → Int32) (L r k : Nat) : Nat := if k = 0 then (if r = 0 then 8 else 8 + (clX xs L (1 + 5 * r) &&& nI 1).toNatClampNeg) else ptZ (ptF xs L r) (k - 1) (ptF xs L r k)
theorem ptL_ok {r : Nat} : okZ (ptL xs L r) := by
  refine ⟨?_, fun k h1 h2 => ?_, fun k h1 h2 h => ?_⟩
  · unfold ptL
    rw [if_pos rfl]
    split
    · omega
    · obtain ⟨v, hv, e⟩ := and_m (clX xs L (1 + 5 * r)) 1
      rw [e, nI_clamp (by omega)]; omega
  · unfold ptL
    rw [if_neg (by omega)]
    rcases ptZ_or (f := ptF xs L r) (s := ptF xs L r k) (m := k - 1) with z | z
    · exact Or.inl z
    · rw [z]; exact smK_ok
  · unfold ptL at h ⊢
    rw [if_neg (by omega)] at h ⊢
    have h := ptZ_0.mp h
    refine ptZ_0.mpr (Or.inr ?_)
    rcases h with h | ⟨j, a, b, c⟩
    · exact ⟨k, h1, by omega, h⟩
    · exact ⟨j, a, by omega, c⟩
theorem ptL_0 {r : Nat} : ptL xs L 0 0 = 8 := rfl
theorem syL_lt {v : Int32} : syL v < 2 ^ 31 := by
  have := smK_ok (k := (v &&& nI 7).toNatClampNeg)
  have e : syL v = smK (v &&& nI 7).toNatClampNeg := rfl
  omega
theorem sp_Law_part {a k : Nat} (ha : a < 8) (hk : k < 8) (h97 : i 4097 0 = nI L) (hL3 : L ≤ 260) (h96 : i 4096 = xs) (hQ : Q (.ok (some (.int (nI (ptL xs L a k))))) (n, g, i, q, r)) : Wx m_Law_part 0 [some (.ref 4096), some (.int (nI a)), some (.int (nI k)), none, none] [] (n, g, i, q, r) (0, 0) Q := by
  by_cases k0 : k = 0
  · subst k0
    obtain ⟨v, hv, e⟩ := and_m (clX xs L (1 + 5 * a)) 1
    by_cases a0 : a = 0
    · subst a0
      refine ex_iload_n (i := 2) dL_part_0 rfl rfl ?_
      refine ex_if_neN (tgt := 28) dL_part_1 (by decide) (by omega) (fun h1 => by exact absurd h1 (by decide)) (fun h1 => ?_)
      refine ex_iload_n (i := 1) dL_part_4 rfl rfl ?_
      refine ex_if_neN (tgt := 13) dL_part_5 (by decide) (by omega) (fun h5 => by exact absurd h5 (by decide)) (fun h5 => ?_)
      refine ex_bipush (v := nI 8) dL_part_8 (by decide) ?_
      refine ex_goto (tgt := 27) dL_part_10 (by decide) ?_
      refine ex_iret dL_part_27 rfl rfl ?_
      exact hQ
    ·
      refine ex_iload_n (i := 2) dL_part_0 rfl rfl ?_
      refine ex_if_neN (tgt := 28) dL_part_1 (by decide) (by omega) (fun h1 => by exact absurd h1 (by decide)) (fun h1 => ?_)
      refine ex_iload_n (i := 1) dL_part_4 rfl rfl ?_
      refine ex_if_neN (tgt := 13) dL_part_5 (by decide) (by omega) (fun h5 => ?_) (fun h5 => by exact absurd h5 a0)
      refine ex_bipush (v := nI 8) dL_part_13 (by decide) ?_
      refine ex_aload_n (i := 0) dL_part_15 rfl rfl ?_
      refine ex_iconst (v := nI 1) dL_part_16 (by decide) ?_
      refine ex_iconst (v := nI 5) dL_part_17 (by decide) ?_
      refine ex_iload_n (i := 1) dL_part_18 rfl rfl ?_
      refine ex_imulN dL_part_19 ?_
      refine ex_iaddN dL_part_20 ?_
      refine ex_cZL (ν := m_Law_cell) (as := [.ref (4096), .int (nI (1 + (5 * a)))]) (by decide) dL_part_21 ln_Law_39 mfZ_Law_cell np_Law_cell rfl rfl ⟨(Nat.le_of_ble_eq_true rfl), (Nat.le_of_ble_eq_true rfl), (Nat.le_of_ble_eq_true rfl), (Nat.le_of_ble_eq_true rfl)⟩ ?_
      refine sp_Law_cell (by omega) h97 hL3 h96 ?_
      refine ⟨_, rfl, ⟨rfl, rfl⟩, ?_⟩
      refine ex_iconst (v := nI 1) dL_part_24 (by decide) ?_
      refine ex_iand dL_part_25 ?_
      refine ex_asN (a := v) e ?_
      refine ex_iaddN dL_part_26 ?_
      refine ex_iret dL_part_27 rfl rfl ?_
      have z : ptL xs L a 0 = 8 + v := by unfold ptL; rw [if_pos rfl, if_neg a0, e, nI_clamp (by omega)]
      rw [z] at hQ
      exact hQ
  · have loop : ∀ d j, j + 1 + d = k → Wx m_Law_part 46 [some (.ref 4096), some (.int (nI a)), some (.int (nI k)), some (.int (nI (ptZ (ptF xs L a) j (ptF xs L a k)))), some (.int (nI (j + 1)))] [] (n, g, i, q, r) (0, 0) Q := by
      intro d
      induction d with
      | zero =>
        intro j hj
        refine ex_iload dL_part_46 rfl ?_
        refine ex_iload_n (i := 2) dL_part_48 rfl rfl ?_
        refine ex_icmp_geN (tgt := 78) dL_part_49 (by decide) (by omega) (by omega) (fun h49 => ?_) (fun h49 => by omega)
        refine ex_iload_n (i := 3) dL_part_78 rfl rfl ?_
        refine ex_iret dL_part_79 rfl rfl ?_
        have z : ptL xs L a k = ptZ (ptF xs L a) j (ptF xs L a k) := by unfold ptL; rw [if_neg k0, show k - 1 = j by omega]
        rw [z] at hQ
        exact hQ
      | succ d ih =>
        intro j hj
        have X := ih (j + 1) (by omega)
        have eF : syL (clX xs L (1 + 5 * a + (j + 1))) = ptF xs L a (j + 1) := rfl
        by_cases c : ptF xs L a (j + 1) = 0
        · have eZ : ptZ (ptF xs L a) (j + 1) (ptF xs L a k) = 0 := if_pos c
          rw [eZ] at X
          refine ex_iload dL_part_46 rfl ?_
          refine ex_iload_n (i := 2) dL_part_48 rfl rfl ?_
          refine ex_icmp_geN (tgt := 78) dL_part_49 (by decide) (by omega) (by omega) (fun h49 => by omega) (fun h49 => ?_)
          refine ex_aload_n (i := 0) dL_part_52 rfl rfl ?_
          refine ex_iconst (v := nI 1) dL_part_53 (by decide) ?_
          refine ex_iconst (v := nI 5) dL_part_54 (by decide) ?_
          refine ex_iload_n (i := 1) dL_part_55 rfl rfl ?_
          refine ex_imulN dL_part_56 ?_
          refine ex_iaddN dL_part_57 ?_
          refine ex_iload dL_part_58 rfl ?_
          refine ex_iaddN dL_part_60 ?_
          refine ex_cZL (ν := m_Law_cell) (as := [.ref (4096), .int (nI ((1 + (5 * a)) + (j + 1)))]) (by decide) dL_part_61 ln_Law_39 mfZ_Law_cell np_Law_cell rfl rfl ⟨(Nat.le_of_ble_eq_true rfl), (Nat.le_of_ble_eq_true rfl), (Nat.le_of_ble_eq_true rfl), (Nat.le_of_ble_eq_true rfl)⟩ ?_
          refine sp_Law_cell (by omega) h97 hL3 h96 ?_
          refine ⟨_, rfl, ⟨rfl, rfl⟩, ?_⟩
          refine ex_cSL (ν := m_Law_symbol) (as := [.int (clX xs L ((1 + (5 * a)) + (j + 1)))]) dL_part_64 ln_Law_45 mf_Law_symbol np_Law_symbol rfl rfl ⟨(Nat.le_of_ble_eq_true rfl), (Nat.le_of_ble_eq_true rfl), (Nat.le_of_ble_eq_true rfl), (Nat.le_of_ble_eq_true rfl)⟩ ?_
          refine sp_Law_symbol ?_
          refine ⟨_, rfl, ⟨rfl, rfl⟩, ?_⟩
          refine ex_if_neN (tgt := 72) dL_part_67 (by decide) syL_lt (fun h67 => by exact absurd c h67) (fun h67 => ?_)
          refine ex_iconst (v := nI 0) dL_part_70 (by decide) ?_
          refine ex_istore_n (L' := [some (.ref (4096)), some (.int (nI (a))), some (.int (nI (k))), some (.int (nI (0))), some (.int (nI (j + 1)))]) dL_part_71 (i := 3) rfl (by decide) rfl ?_
          refine ex_iincN (L' := [some (.ref (4096)), some (.int (nI (a))), some (.int (nI (k))), some (.int (nI (0))), some (.int (nI (j + 1 + 1)))]) dL_part_72 rfl rfl (by decide) rfl ?_
          refine ex_goto (tgt := 46) dL_part_75 (by decide) ?_
          exact X
        · have eZ : ptZ (ptF xs L a) (j + 1) (ptF xs L a k) = ptZ (ptF xs L a) j (ptF xs L a k) := if_neg c
          rw [eZ] at X
          refine ex_iload dL_part_46 rfl ?_
          refine ex_iload_n (i := 2) dL_part_48 rfl rfl ?_
          refine ex_icmp_geN (tgt := 78) dL_part_49 (by decide) (by omega) (by omega) (fun h49 => by omega) (fun h49 => ?_)
          refine ex_aload_n (i := 0) dL_part_52 rfl rfl ?_
          refine ex_iconst (v := nI 1) dL_part_53 (by decide) ?_
          refine ex_iconst (v := nI 5) dL_part_54 (by decide) ?_
          refine ex_iload_n (i := 1) dL_part_55 rfl rfl ?_
          refine ex_imulN dL_part_56 ?_
          refine ex_iaddN dL_part_57 ?_
          refine ex_iload dL_part_58 rfl ?_
          refine ex_iaddN dL_part_60 ?_
          refine ex_cZL (ν := m_Law_cell) (as := [.ref (4096), .int (nI ((1 + (5 * a)) + (j + 1)))]) (by decide) dL_part_61 ln_Law_39 mfZ_Law_cell np_Law_cell rfl rfl ⟨(Nat.le_of_ble_eq_true rfl), (Nat.le_of_ble_eq_true rfl), (Nat.le_of_ble_eq_true rfl), (Nat.le_of_ble_eq_true rfl)⟩ ?_
          refine sp_Law_cell (by omega) h97 hL3 h96 ?_
          refine ⟨_, rfl, ⟨rfl, rfl⟩, ?_⟩
          refine ex_cSL (ν := m_Law_symbol) (as := [.int (clX xs L ((1 + (5 * a)) + (j + 1)))]) dL_part_64 ln_Law_45 mf_Law_symbol np_Law_symbol rfl rfl ⟨(Nat.le_of_ble_eq_true rfl), (Nat.le_of_ble_eq_true rfl), (Nat.le_of_ble_eq_true rfl), (Nat.le_of_ble_eq_true rfl)⟩ ?_
          refine sp_Law_symbol ?_
          refine ⟨_, rfl, ⟨rfl, rfl⟩, ?_⟩
          refine ex_if_neN (tgt := 72) dL_part_67 (by decide) syL_lt (fun h67 => ?_) (fun h67 => by exact absurd h67 c)
          refine ex_iincN (L' := [some (.ref (4096)), some (.int (nI (a))), some (.int (nI (k))), some (.int (nI (ptZ (ptF xs L a) j (ptF xs L a k)))), some (.int (nI (j + 1 + 1)))]) dL_part_72 rfl rfl (by decide) rfl ?_
          refine ex_goto (tgt := 46) dL_part_75 (by decide) ?_
          exact X
    refine ex_iload_n (i := 2) dL_part_0 rfl rfl ?_
    refine ex_if_neN (tgt := 28) dL_part_1 (by decide) (by omega) (fun h1 => ?_) (fun h1 => by exact absurd h1 k0)
    refine ex_aload_n (i := 0) dL_part_28 rfl rfl ?_
    refine ex_iconst (v := nI 1) dL_part_29 (by decide) ?_
    refine ex_iconst (v := nI 5) dL_part_30 (by decide) ?_
    refine ex_iload_n (i := 1) dL_part_31 rfl rfl ?_
    refine ex_imulN dL_part_32 ?_
    refine ex_iaddN dL_part_33 ?_
    refine ex_iload_n (i := 2) dL_part_34 rfl rfl ?_
    refine ex_iaddN dL_part_35 ?_
    refine ex_cZL (ν := m_Law_cell) (as := [.ref (4096), .int (nI ((1 + (5 * a)) + k))]) (by decide) dL_part_36 ln_Law_39 mfZ_Law_cell np_Law_cell rfl rfl ⟨(Nat.le_of_ble_eq_true rfl), (Nat.le_of_ble_eq_true rfl), (Nat.le_of_ble_eq_true rfl), (Nat.le_of_ble_eq_true rfl)⟩ ?_
    refine sp_Law_cell (by omega) h97 hL3 h96 ?_
    refine ⟨_, rfl, ⟨rfl, rfl⟩, ?_⟩
    refine ex_cSL (ν := m_Law_symbol) (as := [.int (clX xs L ((1 + (5 * a)) + k))]) dL_part_39 ln_Law_45 mf_Law_symbol np_Law_symbol rfl rfl ⟨(Nat.le_of_ble_eq_true rfl), (Nat.le_of_ble_eq_true rfl), (Nat.le_of_ble_eq_true rfl), (Nat.le_of_ble_eq_true rfl)⟩ ?_
    refine sp_Law_symbol ?_
    refine ⟨_, rfl, ⟨rfl, rfl⟩, ?_⟩
    refine ex_istore_n (L' := [some (.ref (4096)), some (.int (nI (a))), some (.int (nI (k))), some (.int (nI (syL (clX xs L ((1 + (5 * a)) + k))))), none]) dL_part_42 (i := 3) rfl (by decide) rfl ?_
    refine ex_iconst (v := nI 1) dL_part_43 (by decide) ?_
    refine ex_istore (L' := [some (.ref (4096)), some (.int (nI (a))), some (.int (nI (k))), some (.int (nI (syL (clX xs L ((1 + (5 * a)) + k))))), some (.int (nI (1)))]) dL_part_44 (by decide) rfl ?_
    exact loop (k - 1) 0 (by omega)
/-- a rule of a symbol, or -1 -/
theorem sp_Law_choose {m s b : Nat} {v : Int32} {lf : Nat → Nat} (hm : m ≤ 6) (hb : b < 2) (hs : s < 4096) (hn : 56 < n) (hl : ∀ j, j < m → i 56 j = nI (lf j) ∧ lf j < 4096) (h0 : Q (.ok (some (.int (-1)))) (n, g, i, q, r)) (h1 : ∀ j, j < m → lf j = s → Q (.ok (some (.int (nI j)))) (n, g, i, q, r)) :
    Wx m_Law_choose 0 [some (.ref 56), some (.int (nI m)), some (.int (nI s)), some (.int v), some (.int (nI b)), none, none, none, none] [] (n, g, i, q, r) (0, 0) Q := by
  have loop2 : ∀ d j kk f x6, j + d = m → (f = -1 ∨ ∃ j', j' < m ∧ f = nI j' ∧ lf j' = s) → Wx m_Law_choose 64 [some (.ref 56), some (.int (nI m)), some (.int (nI s)), some (.int v), some (.int (nI b)), x6, some (.int kk), some (.int f), some (.int (nI j))] [] (n, g, i, q, r) (0, 0) Q := by
    have OUT : ∀ f x6 x7 x8, (f = -1 ∨ ∃ j', j' < m ∧ f = nI j' ∧ lf j' = s) → Wx m_Law_choose 96 [some (.ref 56), some (.int (nI m)), some (.int (nI s)), some (.int v), some (.int (nI b)), x6, x7, some (.int f), x8] [] (n, g, i, q, r) (0, 0) Q := by
      intro f x6 x7 x8 hf
      refine ex_less (L' := [none, none, none, none, none, none, none, some (.int f), none]) ⟨rfl, trivial⟩ ?_
      refine ex_iload dL_choose_96 rfl ?_
      refine ex_iret dL_choose_98 rfl rfl ?_
      rcases hf with rfl | ⟨j, h2, rfl, h3⟩
      · exact h0
      · exact h1 j h2 h3
    intro d
    induction d with
    | zero =>
      intro j kk f x6 hj hf
      refine ex_less (L' := [some (.ref 56), some (.int (nI m)), some (.int (nI s)), some (.int v), some (.int (nI b)), none, some (.int kk), some (.int f), some (.int (nI j))]) ⟨rfl, rfl, rfl, rfl, rfl, rfl, rfl, rfl, trivial⟩ ?_
      refine ex_iload dL_choose_64 rfl ?_
      refine ex_iload_n (i := 1) dL_choose_66 rfl rfl ?_
      refine ex_icmp_geN (tgt := 96) dL_choose_67 (by decide) (by omega) (by omega) (fun h67 => ?_) (fun h67 => by omega)
      exact OUT _ _ _ _ hf
    | succ d ih =>
      intro j kk f x6 hj hf
      have hl1 := hl j (by omega)
      refine ex_less (L' := [some (.ref 56), some (.int (nI m)), some (.int (nI s)), some (.int v), some (.int (nI b)), none, some (.int kk), some (.int f), some (.int (nI j))]) ⟨rfl, rfl, rfl, rfl, rfl, rfl, rfl, rfl, trivial⟩ ?_
      refine ex_iload dL_choose_64 rfl ?_
      refine ex_iload_n (i := 1) dL_choose_66 rfl rfl ?_
      refine ex_icmp_geN (tgt := 96) dL_choose_67 (by decide) (by omega) (by omega) (fun h67 => by omega) (fun h67 => ?_)
      refine ex_iload dL_choose_70 rfl ?_
      refine ex_if_lt (tgt := 96) dL_choose_72 (by decide) (fun h72 => ?_) (fun h72 => ?_)
      · exact OUT _ _ _ _ hf
      · refine ex_aload_n (i := 0) dL_choose_75 rfl rfl ?_
        refine ex_iload dL_choose_76 rfl ?_
        refine ex_ialdN dL_choose_78 rfl hn (by omega) rfl ?_
        refine ex_asN (a := lf j) hl1.1 ?_
        refine ex_iload_n (i := 2) dL_choose_79 rfl rfl ?_
        refine ex_icmp_neN (tgt := 90) dL_choose_80 (by decide) (by omega) (by omega) (fun h80 => ?_) (fun h80 => ?_)
        · refine ex_iincN (L' := [some (.ref (56)), some (.int (nI (m))), some (.int (nI (s))), some (.int (v)), some (.int (nI (b))), none, some (.int (kk)), some (.int (f)), some (.int (nI (j + 1)))]) dL_choose_90 rfl rfl (by decide) rfl ?_
          refine ex_goto (tgt := 64) dL_choose_93 (by decide) ?_
          exact ih (j + 1) _ _ none (by omega) (by first | exact hf | exact Or.inr ⟨j, by omega, rfl, h80⟩)
        · refine ex_iload dL_choose_83 rfl ?_
          refine ex_istore (L' := [some (.ref (56)), some (.int (nI (m))), some (.int (nI (s))), some (.int (v)), some (.int (nI (b))), none, some (.int (kk)), some (.int (nI (j))), some (.int (nI (j)))]) dL_choose_85 (by decide) rfl ?_
          obtain ⟨v1, hv1⟩ : ∃ y : Int32, y = kk + Int32.ofInt (-1) := ⟨_, rfl⟩
          refine ex_iinc (v := v1) (L' := [some (.ref (56)), some (.int (nI (m))), some (.int (nI (s))), some (.int (v)), some (.int (nI (b))), none, some (.int (v1)), some (.int (nI (j))), some (.int (nI (j)))]) dL_choose_87 rfl hv1.symm (by decide) rfl ?_
          refine ex_iincN (L' := [some (.ref (56)), some (.int (nI (m))), some (.int (nI (s))), some (.int (v)), some (.int (nI (b))), none, some (.int (v1)), some (.int (nI (j))), some (.int (nI (j + 1)))]) dL_choose_90 rfl rfl (by decide) rfl ?_
          refine ex_goto (tgt := 64) dL_choose_93 (by decide) ?_
          exact ih (j + 1) _ _ none (by omega) (by first | exact hf | exact Or.inr ⟨j, by omega, rfl, h80⟩)
  have loop1 : ∀ d j c, j + d = m → c ≤ j → Wx m_Law_choose 6 [some (.ref 56), some (.int (nI m)), some (.int (nI s)), some (.int v), some (.int (nI b)), some (.int (nI c)), some (.int (nI j)), none, none] [] (n, g, i, q, r) (0, 0) Q := by
    intro d
    induction d with
    | zero =>
      intro j c hj hc
      by_cases c0 : c = 0
      · subst c0
        refine ex_iload dL_choose_6 rfl ?_
        refine ex_iload_n (i := 1) dL_choose_8 rfl rfl ?_
        refine ex_icmp_geN (tgt := 29) dL_choose_9 (by decide) (by omega) (by omega) (fun h9 => ?_) (fun h9 => by omega)
        refine ex_iload dL_choose_29 rfl ?_
        refine ex_if_neN (tgt := 36) dL_choose_31 (by decide) (by omega) (fun h31 => by exact absurd h31 (by decide)) (fun h31 => ?_)
        refine ex_iconst (v := -1) dL_choose_34 (by decide) ?_
        refine ex_iret dL_choose_35 rfl rfl ?_
        exact h0
      · obtain ⟨k, hk, e⟩ := and_m v 1023
        refine ex_iload dL_choose_6 rfl ?_
        refine ex_iload_n (i := 1) dL_choose_8 rfl rfl ?_
        refine ex_icmp_geN (tgt := 29) dL_choose_9 (by decide) (by omega) (by omega) (fun h9 => ?_) (fun h9 => by omega)
        refine ex_iload dL_choose_29 rfl ?_
        refine ex_if_neN (tgt := 36) dL_choose_31 (by decide) (by omega) (fun h31 => ?_) (fun h31 => by exact absurd h31 c0)
        refine ex_iload dL_choose_36 rfl ?_
        refine ex_if_eqN (tgt := 48) dL_choose_38 (by decide) (by omega) (fun h38 => ?_) (fun h38 => ?_)
        · refine ex_iload_n (i := 3) dL_choose_48 rfl rfl ?_
          refine ex_sipush (v := nI 1023) dL_choose_49 (by decide) ?_
          refine ex_iand dL_choose_52 ?_
          refine ex_asN (a := k) e ?_
          refine ex_iload dL_choose_53 rfl ?_
          refine ex_iremN dL_choose_55 (by omega) (by omega) (by omega) ?_
          refine ex_istore (L' := [some (.ref (56)), some (.int (nI (m))), some (.int (nI (s))), some (.int (v)), some (.int (nI (b))), some (.int (nI (c))), some (.int (nI (k % c))), none, none]) dL_choose_56 (by decide) rfl ?_
          refine ex_iconst (v := -1) dL_choose_58 (by decide) ?_
          refine ex_istore (L' := [some (.ref (56)), some (.int (nI (m))), some (.int (nI (s))), some (.int (v)), some (.int (nI (b))), some (.int (nI (c))), some (.int (nI (k % c))), some (.int ((-1))), none]) dL_choose_59 (by decide) rfl ?_
          refine ex_iconst (v := nI 0) dL_choose_61 (by decide) ?_
          refine ex_istore (L' := [some (.ref (56)), some (.int (nI (m))), some (.int (nI (s))), some (.int (v)), some (.int (nI (b))), some (.int (nI (c))), some (.int (nI (k % c))), some (.int ((-1))), some (.int (nI (0)))]) dL_choose_62 (by decide) rfl ?_
          exact loop2 m 0 _ _ _ (by omega) (Or.inl rfl)
        · refine ex_iload dL_choose_41 rfl ?_
          refine ex_iconst (v := nI 1) dL_choose_43 (by decide) ?_
          refine ex_isubN dL_choose_44 (by omega) ?_
          refine ex_goto (tgt := 56) dL_choose_45 (by decide) ?_
          refine ex_istore (L' := [some (.ref (56)), some (.int (nI (m))), some (.int (nI (s))), some (.int (v)), some (.int (nI (b))), some (.int (nI (c))), some (.int (nI (c - 1))), none, none]) dL_choose_56 (by decide) rfl ?_
          refine ex_iconst (v := -1) dL_choose_58 (by decide) ?_
          refine ex_istore (L' := [some (.ref (56)), some (.int (nI (m))), some (.int (nI (s))), some (.int (v)), some (.int (nI (b))), some (.int (nI (c))), some (.int (nI (c - 1))), some (.int ((-1))), none]) dL_choose_59 (by decide) rfl ?_
          refine ex_iconst (v := nI 0) dL_choose_61 (by decide) ?_
          refine ex_istore (L' := [some (.ref (56)), some (.int (nI (m))), some (.int (nI (s))), some (.int (v)), some (.int (nI (b))), some (.int (nI (c))), some (.int (nI (c - 1))), some (.int ((-1))), some (.int (nI (0)))]) dL_choose_62 (by decide) rfl ?_
          exact loop2 m 0 _ _ _ (by omega) (Or.inl rfl)
    | succ d ih =>
      intro j c hj hc
      have hl1 := hl j (by omega)
      refine ex_iload dL_choose_6 rfl ?_
      refine ex_iload_n (i := 1) dL_choose_8 rfl rfl ?_
      refine ex_icmp_geN (tgt := 29) dL_choose_9 (by decide) (by omega) (by omega) (fun h9 => by omega) (fun h9 => ?_)
      refine ex_aload_n (i := 0) dL_choose_12 rfl rfl ?_
      refine ex_iload dL_choose_13 rfl ?_
      refine ex_ialdN dL_choose_15 rfl hn (by omega) rfl ?_
      refine ex_asN (a := lf j) hl1.1 ?_
      refine ex_iload_n (i := 2) dL_choose_16 rfl rfl ?_
      refine ex_icmp_neN (tgt := 23) dL_choose_17 (by decide) (by omega) (by omega) (fun h17 => ?_) (fun h17 => ?_)
      · refine ex_iincN (L' := [some (.ref (56)), some (.int (nI (m))), some (.int (nI (s))), some (.int (v)), some (.int (nI (b))), some (.int (nI (c))), some (.int (nI (j + 1))), none, none]) dL_choose_23 rfl rfl (by decide) rfl ?_
        refine ex_goto (tgt := 6) dL_choose_26 (by decide) ?_
        exact ih (j + 1) _ (by omega) (by omega)
      · refine ex_iincN (L' := [some (.ref (56)), some (.int (nI (m))), some (.int (nI (s))), some (.int (v)), some (.int (nI (b))), some (.int (nI (c + 1))), some (.int (nI (j))), none, none]) dL_choose_20 rfl rfl (by decide) rfl ?_
        refine ex_iincN (L' := [some (.ref (56)), some (.int (nI (m))), some (.int (nI (s))), some (.int (v)), some (.int (nI (b))), some (.int (nI (c + 1))), some (.int (nI (j + 1))), none, none]) dL_choose_23 rfl rfl (by decide) rfl ?_
        refine ex_goto (tgt := 6) dL_choose_26 (by decide) ?_
        exact ih (j + 1) _ (by omega) (by omega)
  refine ex_iconst (v := nI 0) dL_choose_0 (by decide) ?_
  refine ex_istore (L' := [some (.ref (56)), some (.int (nI (m))), some (.int (nI (s))), some (.int (v)), some (.int (nI (b))), some (.int (nI (0))), none, none, none]) dL_choose_1 (by decide) rfl ?_
  refine ex_iconst (v := nI 0) dL_choose_3 (by decide) ?_
  refine ex_istore (L' := [some (.ref (56)), some (.int (nI (m))), some (.int (nI (s))), some (.int (v)), some (.int (nI (b))), some (.int (nI (0))), some (.int (nI (0))), none, none]) dL_choose_4 (by decide) rfl ?_
  exact loop1 m 0 0 (by omega) (Nat.le_refl _)
end S90
