/-! ===== Rings: children, growing, search ===== -/
/-- there is a tree with rule r at its root, as far as is known -/
def mkT (sy : Nat → Nat → Nat) (tr : Nat → Nat) (r : Nat) : Prop := ∀ k, 1 ≤ k → k ≤ lnR sy r → tr (sy r k) ≠ 0
/-- what a rule tells of the trees of its left side -/
def nwT (W : Nat → Nat) : Nat := 4 ||| (if (W 0).testBit 2 = true then 1 else 0) ||| (if (W 1).testBit 2 = true then 2 else 0)
def slf (W : Nat → Nat) : Prop := ∃ p, p < 15 ∧ (W p).testBit p = true
theorem b12 {a : Nat} (h : a < 8) : (a &&& 1 = 0 ↔ ¬ a.testBit 0 = true) ∧ (a &&& 2 = 0 ↔ ¬ a.testBit 1 = true) := by
  have h2 : ∀ a : Fin 8, (a.val &&& 1 = 0 ↔ ¬ a.val.testBit 0 = true) ∧ (a.val &&& 2 = 0 ↔ ¬ a.val.testBit 1 = true) := by decide
  exact h2 ⟨a, h⟩
theorem lnS_pos {f : Nat → Nat} {k : Nat} (h1 : 1 ≤ k) (hk : k ≤ lnS f) : f k ≠ 0 := by
  unfold lnS at hk
  rcases (show k = 1 ∨ k = 2 ∨ k = 3 ∨ k = 4 ∨ 4 < k by omega) with rfl | rfl | rfl | rfl | h
  all_goals (repeat' split at hk) <;> first | omega | assumption
theorem hgB_s {sy : Nat → Nat → Nat} {op xp yp tr : Nat → Nat} {r k p : Nat} : hgB sy op xp yp tr r (k + 1) p = if p = k * 3 ∧ 1 ≤ k then (if (tr (sy r k)).testBit 0 = true then 2 ^ (k * 3 + 2) else 0) else if p = k * 3 + 1 ∧ 1 ≤ k then (if (tr (sy r k)).testBit 1 = true then 2 ^ (k * 3 + 2) else 0) else hgB sy op xp yp tr r k p := by
  by_cases h1 : p = k * 3 ∧ 1 ≤ k
  · obtain ⟨rfl, hk⟩ := h1
    rw [if_pos ⟨rfl, hk⟩]
    unfold hgB
    have e1 : k * 3 / 3 = k := by omega
    have e2 : k * 3 % 3 = 0 := by omega
    have c : 3 ≤ k * 3 ∧ k * 3 / 3 < k + 1 ∧ k * 3 % 3 < 2 := by omega
    rw [if_pos c, e1, e2]
  · rw [if_neg h1]
    by_cases h2 : p = k * 3 + 1 ∧ 1 ≤ k
    · obtain ⟨rfl, hk⟩ := h2
      rw [if_pos ⟨rfl, hk⟩]
      unfold hgB
      have e1 : (k * 3 + 1) / 3 = k := by omega
      have e2 : (k * 3 + 1) % 3 = 1 := by omega
      have c : 3 ≤ k * 3 + 1 ∧ (k * 3 + 1) / 3 < k + 1 ∧ (k * 3 + 1) % 3 < 2 := by omega
      rw [if_pos c, e1, e2]
    · rw [if_neg h2]
      unfold hgB
      have : (3 ≤ p ∧ p / 3 < k + 1 ∧ p % 3 < 2) ↔ (3 ≤ p ∧ p / 3 < k ∧ p % 3 < 2) := by omega
      by_cases c : 3 ≤ p ∧ p / 3 < k ∧ p % 3 < 2
      · rw [if_pos c, if_pos (this.mpr c)]
      · rw [if_neg c, if_neg (fun h => c (this.mp h))]
section S33
variable {ζ g : Nat} {i : Nat → Nat → Int32} {q : Nat → Nat → Int64} {t : Bool} {Q : xRes → xMem → Prop} {n : Nat} {sy : Nat → Nat → Nat} {op xp yp tr : Nat → Nat}
theorem lp_Rings_readChildren {r : Nat} (sc : SC i) (gs : GS i n sy) (hr : r < 14) (htr : Vw i 29 14 tr) (htb : ∀ s, tr s < 8) (hQ : ∀ i1, Fr [31] i i1 → Vw i1 31 15 (hgB sy op xp yp tr r (lnR sy r + 1)) → Q (.ok none) (56 + ζ, g, i1, q, RT t)) :
    ∀ d k i1, k + d = lnR sy r + 1 → Fr [31] i i1 → 1 ≤ k → Vw i1 31 15 (hgB sy op xp yp tr r k) → Wx m_Rings_readChildren 2 [some (.ref 27), some (.int (nI r)), some (.int (nI k)), none, none, none] [] (56 + ζ, g, i1, q, RT t) (0, 0) Q := by
  have hl4 : lnR sy r ≤ 4 := lnS_le _
  have hlS : lnS (sy r) = lnR sy r := rfl
  intro d
  induction d with
  | zero =>
    intro k i1 hk hf h1 hH
    have sc1 := SC_Fr (by decide) hf sc
    have gs1 := gs.fr hf (by decide) (by decide)
    have htr1 := htr.fr hf (by decide)
    have e : k = lnR sy r + 1 := by omega
    have hq := hQ i1 hf (by rw [← e]; exact hH)
    refine ex_iload_n (i := 2) dX5_readChildren_2 rfl rfl ?_
    refine ex_aload_n (i := 0) dX5_readChildren_3 rfl rfl ?_
    refine ex_getR (v := .ref (1)) dX5_readChildren_4 fl_Rings_9 rfl rfl (l56 (by decide)) rfl ?_
    refine ex_iload_n (i := 1) dX5_readChildren_7 rfl rfl ?_
    refine ex_cV (ν := m_Grammar_lengthOf) (a := 1) (ci := 1) (as := [.int (nI (r))]) dX5_readChildren_8 ln_Rings_52 mf_Grammar_lengthOf rfl (l56 (by decide)) rfl rfl np_Grammar_lengthOf rfl rfl ⟨(Nat.le_of_ble_eq_true rfl), (Nat.le_of_ble_eq_true rfl), (Nat.le_of_ble_eq_true rfl), (Nat.le_of_ble_eq_true rfl)⟩ (by decide) ?_
    refine sp_Grammar_lengthOf (f := sy r) sc1 (by omega) (fun k hk => gs1.2.1 r k (by omega) hk) (fun k hk => Nat.lt_of_le_of_lt (gs1.2.2.le (by omega) hk) (by decide)) ?_
    refine ⟨_, rfl, ?_⟩
    refine ex_icmp_gtN (tgt := 94) dX5_readChildren_11 (by decide) (by omega) (by omega) (fun h11 => ?_) (fun h11 => by omega)
    refine ex_ret dX5_readChildren_94 rfl ?_
    exact hq
  | succ d ih =>
    intro k i1 hk hf h1 hH
    have sc1 := SC_Fr (by decide) hf sc
    have gs1 := gs.fr hf (by decide) (by decide)
    have htr1 := htr.fr hf (by decide)
    have hsl := gs.2.2.le (r := r) (k := k) (by omega) (by omega)
    have ht8 := htb (sy r k)
    obtain ⟨hb0, hb1⟩ := b12 ht8
    have ha1 : tr (sy r k) &&& 1 ≤ 1 := Nat.and_le_right
    have ha2 : tr (sy r k) &&& 2 ≤ 2 := Nat.and_le_right
    have hpw0 : 2 ^ (k * 3 + 2) < 2 ^ 15 := p15 (by omega)
    have hpw : 1 * 2 ^ (k * 3 + 2) < 2 ^ 32 := by omega
    have hH2 : ∀ v w : Nat, v = (if (tr (sy r k)).testBit 0 = true then 1 * 2 ^ (k * 3 + 2) else 0) → w = (if (tr (sy r k)).testBit 1 = true then 1 * 2 ^ (k * 3 + 2) else 0) → Vw (xU (xU i1 31 (k * 3) (nI v)) 31 (k * 3 + 1) (nI w)) 31 15 (hgB sy op xp yp tr r (k + 1)) := by
      intro v w hv hw p hp
      rw [hgB_s, xU_at]; unfold upd
      by_cases e1 : p = k * 3 + 1
      · have c1 : ¬ (p = k * 3 ∧ 1 ≤ k) := by omega
        rw [if_pos e1, if_neg c1, if_pos ⟨e1, h1⟩, hw, Nat.one_mul]
      · have c2 : ¬ (p = k * 3 + 1 ∧ 1 ≤ k) := fun h => e1 h.1
        rw [if_neg e1, xU_at]; unfold upd
        by_cases e0 : p = k * 3
        · rw [if_pos e0, if_pos ⟨e0, h1⟩, hv, Nat.one_mul]
        · have c1 : ¬ (p = k * 3 ∧ 1 ≤ k) := fun h => e0 h.1
          rw [if_neg e0, if_neg c1, if_neg c2]
          exact hH p hp
    by_cases q0 : (tr (sy r k)).testBit 0 = true <;> by_cases q1 : (tr (sy r k)).testBit 1 = true
    ·
      refine ex_iload_n (i := 2) dX5_readChildren_2 rfl rfl ?_
      refine ex_aload_n (i := 0) dX5_readChildren_3 rfl rfl ?_
      refine ex_getR (v := .ref (1)) dX5_readChildren_4 fl_Rings_9 rfl rfl (l56 (by decide)) rfl ?_
      refine ex_iload_n (i := 1) dX5_readChildren_7 rfl rfl ?_
      refine ex_cV (ν := m_Grammar_lengthOf) (a := 1) (ci := 1) (as := [.int (nI (r))]) dX5_readChildren_8 ln_Rings_52 mf_Grammar_lengthOf rfl (l56 (by decide)) rfl rfl np_Grammar_lengthOf rfl rfl ⟨(Nat.le_of_ble_eq_true rfl), (Nat.le_of_ble_eq_true rfl), (Nat.le_of_ble_eq_true rfl), (Nat.le_of_ble_eq_true rfl)⟩ (by decide) ?_
      refine sp_Grammar_lengthOf (f := sy r) sc1 (by omega) (fun k hk => gs1.2.1 r k (by omega) hk) (fun k hk => Nat.lt_of_le_of_lt (gs1.2.2.le (by omega) hk) (by decide)) ?_
      refine ⟨_, rfl, ?_⟩
      refine ex_icmp_gtN (tgt := 94) dX5_readChildren_11 (by decide) (by omega) (by omega) (fun h11 => by omega) (fun h11 => ?_)
      refine ex_aload_n (i := 0) dX5_readChildren_14 rfl rfl ?_
      refine ex_getR (v := .ref (28)) dX5_readChildren_15 fl_Rings_20 rfl rfl (l56 (by decide)) rfl ?_
      refine ex_aload_n (i := 0) dX5_readChildren_18 rfl rfl ?_
      refine ex_getR (v := .ref (1)) dX5_readChildren_19 fl_Rings_9 rfl rfl (l56 (by decide)) rfl ?_
      refine ex_iload_n (i := 1) dX5_readChildren_22 rfl rfl ?_
      refine ex_iload_n (i := 2) dX5_readChildren_23 rfl rfl ?_
      refine ex_cV (ν := m_Grammar_symbolAt) (a := 1) (ci := 1) (as := [.int (nI (r)), .int (nI (k))]) dX5_readChildren_24 ln_Rings_56 mf_Grammar_symbolAt rfl (l56 (by decide)) rfl rfl np_Grammar_symbolAt rfl rfl ⟨(Nat.le_of_ble_eq_true rfl), (Nat.le_of_ble_eq_true rfl), (Nat.le_of_ble_eq_true rfl), (Nat.le_of_ble_eq_true rfl)⟩ (by decide) ?_
      refine sp_Grammar_symbolAt sc1 (by omega) (by omega) ?_
      refine ⟨_, rfl, ?_⟩
      refine ex_asN (a := sy r k) (gs1.2.1 r k (by omega) (by omega)) ?_
      refine ex_cV (ν := m_Row_get) (a := 28) (ci := 6) (as := [.int (nI (sy r k))]) dX5_readChildren_27 ln_Rings_60 mf_Row_get rfl (l56 (by decide)) rfl rfl np_Row_get rfl rfl ⟨(Nat.le_of_ble_eq_true rfl), (Nat.le_of_ble_eq_true rfl), (Nat.le_of_ble_eq_true rfl), (Nat.le_of_ble_eq_true rfl)⟩ (by decide) ?_
      refine sp_Row_get (r := 28) (c := 29) rfl rfl rfl (l56 (by decide)) (l56 (by decide)) (by omega) ?_
      refine ⟨_, rfl, ?_⟩
      refine ex_asN (a := tr (sy r k)) (htr1 _ (by omega)) ?_
      refine ex_istore_n (L' := [some (.ref (27)), some (.int (nI (r))), some (.int (nI (k))), some (.int (nI (tr (sy r k)))), none, none]) dX5_readChildren_30 (i := 3) rfl (by decide) rfl ?_
      refine ex_iload_n (i := 2) dX5_readChildren_31 rfl rfl ?_
      refine ex_iconst (v := nI 3) dX5_readChildren_32 (by decide) ?_
      refine ex_imulN dX5_readChildren_33 ?_
      refine ex_istore (L' := [some (.ref (27)), some (.int (nI (r))), some (.int (nI (k))), some (.int (nI (tr (sy r k)))), some (.int (nI (k * 3))), none]) dX5_readChildren_34 (by decide) rfl ?_
      refine ex_iconst (v := nI 1) dX5_readChildren_36 (by decide) ?_
      refine ex_iload dX5_readChildren_37 rfl ?_
      refine ex_iconst (v := nI 2) dX5_readChildren_39 (by decide) ?_
      refine ex_iaddN dX5_readChildren_40 ?_
      refine ex_ishlN dX5_readChildren_41 (by first | omega | exact hpw) (by first | omega | exact hpw) ?_
      refine ex_istore (L' := [some (.ref (27)), some (.int (nI (r))), some (.int (nI (k))), some (.int (nI (tr (sy r k)))), some (.int (nI (k * 3))), some (.int (nI (1 * 2 ^ ((k * 3) + 2))))]) dX5_readChildren_42 (by decide) rfl ?_
      refine ex_aload_n (i := 0) dX5_readChildren_44 rfl rfl ?_
      refine ex_getR (v := .ref (30)) dX5_readChildren_45 fl_Rings_24 rfl rfl (l56 (by decide)) rfl ?_
      refine ex_iload dX5_readChildren_48 rfl ?_
      refine ex_iload_n (i := 3) dX5_readChildren_50 rfl rfl ?_
      refine ex_iconst (v := nI 1) dX5_readChildren_51 (by decide) ?_
      refine ex_iandN dX5_readChildren_52 ?_
      refine ex_if_eqN (tgt := 61) dX5_readChildren_53 (by decide) (by omega) (fun h53 => by exact absurd q0 (hb0.mp h53)) (fun h53 => ?_)
      refine ex_iload dX5_readChildren_56 rfl ?_
      refine ex_goto (tgt := 62) dX5_readChildren_58 (by decide) ?_
      refine ex_cV (ν := m_Row_set) (a := 30) (ci := 6) (as := [.int (nI (k * 3)), .int (nI (1 * 2 ^ ((k * 3) + 2)))]) dX5_readChildren_62 ln_Rings_34 mf_Row_set rfl (l56 (by decide)) rfl rfl np_Row_set rfl rfl ⟨(Nat.le_of_ble_eq_true rfl), (Nat.le_of_ble_eq_true rfl), (Nat.le_of_ble_eq_true rfl), (Nat.le_of_ble_eq_true rfl)⟩ (by decide) ?_
      refine sp_Row_set (r := 30) (c := 31) rfl rfl rfl (l56 (by decide)) (l56 (by decide)) (by omega) ?_
      refine ⟨_, rfl, ?_⟩
      refine ex_aload_n (i := 0) dX5_readChildren_65 rfl rfl ?_
      refine ex_getR (v := .ref (30)) dX5_readChildren_66 fl_Rings_24 rfl rfl (l56 (by decide)) rfl ?_
      refine ex_iload dX5_readChildren_69 rfl ?_
      refine ex_iconst (v := nI 1) dX5_readChildren_71 (by decide) ?_
      refine ex_iaddN dX5_readChildren_72 ?_
      refine ex_iload_n (i := 3) dX5_readChildren_73 rfl rfl ?_
      refine ex_iconst (v := nI 2) dX5_readChildren_74 (by decide) ?_
      refine ex_iandN dX5_readChildren_75 ?_
      refine ex_if_eqN (tgt := 84) dX5_readChildren_76 (by decide) (by omega) (fun h76 => by exact absurd q1 (hb1.mp h76)) (fun h76 => ?_)
      refine ex_iload dX5_readChildren_79 rfl ?_
      refine ex_goto (tgt := 85) dX5_readChildren_81 (by decide) ?_
      refine ex_cV (ν := m_Row_set) (a := 30) (ci := 6) (as := [.int (nI ((k * 3) + 1)), .int (nI (1 * 2 ^ ((k * 3) + 2)))]) dX5_readChildren_85 ln_Rings_34 mf_Row_set rfl (l56 (by decide)) rfl rfl np_Row_set rfl rfl ⟨(Nat.le_of_ble_eq_true rfl), (Nat.le_of_ble_eq_true rfl), (Nat.le_of_ble_eq_true rfl), (Nat.le_of_ble_eq_true rfl)⟩ (by decide) ?_
      refine sp_Row_set (r := 30) (c := 31) rfl rfl rfl (l56 (by decide)) (l56 (by decide)) (by omega) ?_
      refine ⟨_, rfl, ?_⟩
      refine ex_iincN (L' := [some (.ref (27)), some (.int (nI (r))), some (.int (nI (k + 1))), some (.int (nI (tr (sy r k)))), some (.int (nI (k * 3))), some (.int (nI (1 * 2 ^ ((k * 3) + 2))))]) dX5_readChildren_88 rfl rfl (by decide) rfl ?_
      refine ex_goto (tgt := 2) dX5_readChildren_91 (by decide) ?_
      exact ex_less (L' := [some (.ref 27), some (.int (nI r)), some (.int (nI (k + 1))), none, none, none]) (by simp [xSub]) (ih (k + 1) _ (by omega) ((hf.U (by decide)).U (by decide)) (by omega) (hH2 _ _ (by simp [*]) (by simp [*])))
    ·
      refine ex_iload_n (i := 2) dX5_readChildren_2 rfl rfl ?_
      refine ex_aload_n (i := 0) dX5_readChildren_3 rfl rfl ?_
      refine ex_getR (v := .ref (1)) dX5_readChildren_4 fl_Rings_9 rfl rfl (l56 (by decide)) rfl ?_
      refine ex_iload_n (i := 1) dX5_readChildren_7 rfl rfl ?_
      refine ex_cV (ν := m_Grammar_lengthOf) (a := 1) (ci := 1) (as := [.int (nI (r))]) dX5_readChildren_8 ln_Rings_52 mf_Grammar_lengthOf rfl (l56 (by decide)) rfl rfl np_Grammar_lengthOf rfl rfl ⟨(Nat.le_of_ble_eq_true rfl), (Nat.le_of_ble_eq_true rfl), (Nat.le_of_ble_eq_true rfl), (Nat.le_of_ble_eq_true rfl)⟩ (by decide) ?_
      refine sp_Grammar_lengthOf (f := sy r) sc1 (by omega) (fun k hk => gs1.2.1 r k (by omega) hk) (fun k hk => Nat.lt_of_le_of_lt (gs1.2.2.le (by omega) hk) (by decide)) ?_
      refine ⟨_, rfl, ?_⟩
      refine ex_icmp_gtN (tgt := 94) dX5_readChildren_11 (by decide) (by omega) (by omega) (fun h11 => by omega) (fun h11 => ?_)
      refine ex_aload_n (i := 0) dX5_readChildren_14 rfl rfl ?_
      refine ex_getR (v := .ref (28)) dX5_readChildren_15 fl_Rings_20 rfl rfl (l56 (by decide)) rfl ?_
      refine ex_aload_n (i := 0) dX5_readChildren_18 rfl rfl ?_
      refine ex_getR (v := .ref (1)) dX5_readChildren_19 fl_Rings_9 rfl rfl (l56 (by decide)) rfl ?_
      refine ex_iload_n (i := 1) dX5_readChildren_22 rfl rfl ?_
      refine ex_iload_n (i := 2) dX5_readChildren_23 rfl rfl ?_
      refine ex_cV (ν := m_Grammar_symbolAt) (a := 1) (ci := 1) (as := [.int (nI (r)), .int (nI (k))]) dX5_readChildren_24 ln_Rings_56 mf_Grammar_symbolAt rfl (l56 (by decide)) rfl rfl np_Grammar_symbolAt rfl rfl ⟨(Nat.le_of_ble_eq_true rfl), (Nat.le_of_ble_eq_true rfl), (Nat.le_of_ble_eq_true rfl), (Nat.le_of_ble_eq_true rfl)⟩ (by decide) ?_
      refine sp_Grammar_symbolAt sc1 (by omega) (by omega) ?_
      refine ⟨_, rfl, ?_⟩
      refine ex_asN (a := sy r k) (gs1.2.1 r k (by omega) (by omega)) ?_
      refine ex_cV (ν := m_Row_get) (a := 28) (ci := 6) (as := [.int (nI (sy r k))]) dX5_readChildren_27 ln_Rings_60 mf_Row_get rfl (l56 (by decide)) rfl rfl np_Row_get rfl rfl ⟨(Nat.le_of_ble_eq_true rfl), (Nat.le_of_ble_eq_true rfl), (Nat.le_of_ble_eq_true rfl), (Nat.le_of_ble_eq_true rfl)⟩ (by decide) ?_
      refine sp_Row_get (r := 28) (c := 29) rfl rfl rfl (l56 (by decide)) (l56 (by decide)) (by omega) ?_
      refine ⟨_, rfl, ?_⟩
      refine ex_asN (a := tr (sy r k)) (htr1 _ (by omega)) ?_
      refine ex_istore_n (L' := [some (.ref (27)), some (.int (nI (r))), some (.int (nI (k))), some (.int (nI (tr (sy r k)))), none, none]) dX5_readChildren_30 (i := 3) rfl (by decide) rfl ?_
      refine ex_iload_n (i := 2) dX5_readChildren_31 rfl rfl ?_
      refine ex_iconst (v := nI 3) dX5_readChildren_32 (by decide) ?_
      refine ex_imulN dX5_readChildren_33 ?_
      refine ex_istore (L' := [some (.ref (27)), some (.int (nI (r))), some (.int (nI (k))), some (.int (nI (tr (sy r k)))), some (.int (nI (k * 3))), none]) dX5_readChildren_34 (by decide) rfl ?_
      refine ex_iconst (v := nI 1) dX5_readChildren_36 (by decide) ?_
      refine ex_iload dX5_readChildren_37 rfl ?_
      refine ex_iconst (v := nI 2) dX5_readChildren_39 (by decide) ?_
      refine ex_iaddN dX5_readChildren_40 ?_
      refine ex_ishlN dX5_readChildren_41 (by first | omega | exact hpw) (by first | omega | exact hpw) ?_
      refine ex_istore (L' := [some (.ref (27)), some (.int (nI (r))), some (.int (nI (k))), some (.int (nI (tr (sy r k)))), some (.int (nI (k * 3))), some (.int (nI (1 * 2 ^ ((k * 3) + 2))))]) dX5_readChildren_42 (by decide) rfl ?_
      refine ex_aload_n (i := 0) dX5_readChildren_44 rfl rfl ?_
      refine ex_getR (v := .ref (30)) dX5_readChildren_45 fl_Rings_24 rfl rfl (l56 (by decide)) rfl ?_
      refine ex_iload dX5_readChildren_48 rfl ?_
      refine ex_iload_n (i := 3) dX5_readChildren_50 rfl rfl ?_
      refine ex_iconst (v := nI 1) dX5_readChildren_51 (by decide) ?_
      refine ex_iandN dX5_readChildren_52 ?_
      refine ex_if_eqN (tgt := 61) dX5_readChildren_53 (by decide) (by omega) (fun h53 => by exact absurd q0 (hb0.mp h53)) (fun h53 => ?_)
      refine ex_iload dX5_readChildren_56 rfl ?_
      refine ex_goto (tgt := 62) dX5_readChildren_58 (by decide) ?_
      refine ex_cV (ν := m_Row_set) (a := 30) (ci := 6) (as := [.int (nI (k * 3)), .int (nI (1 * 2 ^ ((k * 3) + 2)))]) dX5_readChildren_62 ln_Rings_34 mf_Row_set rfl (l56 (by decide)) rfl rfl np_Row_set rfl rfl ⟨(Nat.le_of_ble_eq_true rfl), (Nat.le_of_ble_eq_true rfl), (Nat.le_of_ble_eq_true rfl), (Nat.le_of_ble_eq_true rfl)⟩ (by decide) ?_
      refine sp_Row_set (r := 30) (c := 31) rfl rfl rfl (l56 (by decide)) (l56 (by decide)) (by omega) ?_
      refine ⟨_, rfl, ?_⟩
      refine ex_aload_n (i := 0) dX5_readChildren_65 rfl rfl ?_
      refine ex_getR (v := .ref (30)) dX5_readChildren_66 fl_Rings_24 rfl rfl (l56 (by decide)) rfl ?_
      refine ex_iload dX5_readChildren_69 rfl ?_
      refine ex_iconst (v := nI 1) dX5_readChildren_71 (by decide) ?_
      refine ex_iaddN dX5_readChildren_72 ?_
      refine ex_iload_n (i := 3) dX5_readChildren_73 rfl rfl ?_
      refine ex_iconst (v := nI 2) dX5_readChildren_74 (by decide) ?_
      refine ex_iandN dX5_readChildren_75 ?_
      refine ex_if_eqN (tgt := 84) dX5_readChildren_76 (by decide) (by omega) (fun h76 => ?_) (fun h76 => by exact absurd (hb1.mpr q1) h76)
      refine ex_iconst (v := nI 0) dX5_readChildren_84 (by decide) ?_
      refine ex_cV (ν := m_Row_set) (a := 30) (ci := 6) (as := [.int (nI ((k * 3) + 1)), .int (nI (0))]) dX5_readChildren_85 ln_Rings_34 mf_Row_set rfl (l56 (by decide)) rfl rfl np_Row_set rfl rfl ⟨(Nat.le_of_ble_eq_true rfl), (Nat.le_of_ble_eq_true rfl), (Nat.le_of_ble_eq_true rfl), (Nat.le_of_ble_eq_true rfl)⟩ (by decide) ?_
      refine sp_Row_set (r := 30) (c := 31) rfl rfl rfl (l56 (by decide)) (l56 (by decide)) (by omega) ?_
      refine ⟨_, rfl, ?_⟩
      refine ex_iincN (L' := [some (.ref (27)), some (.int (nI (r))), some (.int (nI (k + 1))), some (.int (nI (tr (sy r k)))), some (.int (nI (k * 3))), some (.int (nI (1 * 2 ^ ((k * 3) + 2))))]) dX5_readChildren_88 rfl rfl (by decide) rfl ?_
      refine ex_goto (tgt := 2) dX5_readChildren_91 (by decide) ?_
      exact ex_less (L' := [some (.ref 27), some (.int (nI r)), some (.int (nI (k + 1))), none, none, none]) (by simp [xSub]) (ih (k + 1) _ (by omega) ((hf.U (by decide)).U (by decide)) (by omega) (hH2 _ _ (by simp [*]) (by simp [*])))
    ·
      refine ex_iload_n (i := 2) dX5_readChildren_2 rfl rfl ?_
      refine ex_aload_n (i := 0) dX5_readChildren_3 rfl rfl ?_
      refine ex_getR (v := .ref (1)) dX5_readChildren_4 fl_Rings_9 rfl rfl (l56 (by decide)) rfl ?_
      refine ex_iload_n (i := 1) dX5_readChildren_7 rfl rfl ?_
      refine ex_cV (ν := m_Grammar_lengthOf) (a := 1) (ci := 1) (as := [.int (nI (r))]) dX5_readChildren_8 ln_Rings_52 mf_Grammar_lengthOf rfl (l56 (by decide)) rfl rfl np_Grammar_lengthOf rfl rfl ⟨(Nat.le_of_ble_eq_true rfl), (Nat.le_of_ble_eq_true rfl), (Nat.le_of_ble_eq_true rfl), (Nat.le_of_ble_eq_true rfl)⟩ (by decide) ?_
      refine sp_Grammar_lengthOf (f := sy r) sc1 (by omega) (fun k hk => gs1.2.1 r k (by omega) hk) (fun k hk => Nat.lt_of_le_of_lt (gs1.2.2.le (by omega) hk) (by decide)) ?_
      refine ⟨_, rfl, ?_⟩
      refine ex_icmp_gtN (tgt := 94) dX5_readChildren_11 (by decide) (by omega) (by omega) (fun h11 => by omega) (fun h11 => ?_)
      refine ex_aload_n (i := 0) dX5_readChildren_14 rfl rfl ?_
      refine ex_getR (v := .ref (28)) dX5_readChildren_15 fl_Rings_20 rfl rfl (l56 (by decide)) rfl ?_
      refine ex_aload_n (i := 0) dX5_readChildren_18 rfl rfl ?_
      refine ex_getR (v := .ref (1)) dX5_readChildren_19 fl_Rings_9 rfl rfl (l56 (by decide)) rfl ?_
      refine ex_iload_n (i := 1) dX5_readChildren_22 rfl rfl ?_
      refine ex_iload_n (i := 2) dX5_readChildren_23 rfl rfl ?_
      refine ex_cV (ν := m_Grammar_symbolAt) (a := 1) (ci := 1) (as := [.int (nI (r)), .int (nI (k))]) dX5_readChildren_24 ln_Rings_56 mf_Grammar_symbolAt rfl (l56 (by decide)) rfl rfl np_Grammar_symbolAt rfl rfl ⟨(Nat.le_of_ble_eq_true rfl), (Nat.le_of_ble_eq_true rfl), (Nat.le_of_ble_eq_true rfl), (Nat.le_of_ble_eq_true rfl)⟩ (by decide) ?_
      refine sp_Grammar_symbolAt sc1 (by omega) (by omega) ?_
      refine ⟨_, rfl, ?_⟩
      refine ex_asN (a := sy r k) (gs1.2.1 r k (by omega) (by omega)) ?_
      refine ex_cV (ν := m_Row_get) (a := 28) (ci := 6) (as := [.int (nI (sy r k))]) dX5_readChildren_27 ln_Rings_60 mf_Row_get rfl (l56 (by decide)) rfl rfl np_Row_get rfl rfl ⟨(Nat.le_of_ble_eq_true rfl), (Nat.le_of_ble_eq_true rfl), (Nat.le_of_ble_eq_true rfl), (Nat.le_of_ble_eq_true rfl)⟩ (by decide) ?_
      refine sp_Row_get (r := 28) (c := 29) rfl rfl rfl (l56 (by decide)) (l56 (by decide)) (by omega) ?_
      refine ⟨_, rfl, ?_⟩
      refine ex_asN (a := tr (sy r k)) (htr1 _ (by omega)) ?_
      refine ex_istore_n (L' := [some (.ref (27)), some (.int (nI (r))), some (.int (nI (k))), some (.int (nI (tr (sy r k)))), none, none]) dX5_readChildren_30 (i := 3) rfl (by decide) rfl ?_
      refine ex_iload_n (i := 2) dX5_readChildren_31 rfl rfl ?_
      refine ex_iconst (v := nI 3) dX5_readChildren_32 (by decide) ?_
      refine ex_imulN dX5_readChildren_33 ?_
      refine ex_istore (L' := [some (.ref (27)), some (.int (nI (r))), some (.int (nI (k))), some (.int (nI (tr (sy r k)))), some (.int (nI (k * 3))), none]) dX5_readChildren_34 (by decide) rfl ?_
      refine ex_iconst (v := nI 1) dX5_readChildren_36 (by decide) ?_
      refine ex_iload dX5_readChildren_37 rfl ?_
      refine ex_iconst (v := nI 2) dX5_readChildren_39 (by decide) ?_
      refine ex_iaddN dX5_readChildren_40 ?_
      refine ex_ishlN dX5_readChildren_41 (by first | omega | exact hpw) (by first | omega | exact hpw) ?_
      refine ex_istore (L' := [some (.ref (27)), some (.int (nI (r))), some (.int (nI (k))), some (.int (nI (tr (sy r k)))), some (.int (nI (k * 3))), some (.int (nI (1 * 2 ^ ((k * 3) + 2))))]) dX5_readChildren_42 (by decide) rfl ?_
      refine ex_aload_n (i := 0) dX5_readChildren_44 rfl rfl ?_
      refine ex_getR (v := .ref (30)) dX5_readChildren_45 fl_Rings_24 rfl rfl (l56 (by decide)) rfl ?_
      refine ex_iload dX5_readChildren_48 rfl ?_
      refine ex_iload_n (i := 3) dX5_readChildren_50 rfl rfl ?_
      refine ex_iconst (v := nI 1) dX5_readChildren_51 (by decide) ?_
      refine ex_iandN dX5_readChildren_52 ?_
      refine ex_if_eqN (tgt := 61) dX5_readChildren_53 (by decide) (by omega) (fun h53 => ?_) (fun h53 => by exact absurd (hb0.mpr q0) h53)
      refine ex_iconst (v := nI 0) dX5_readChildren_61 (by decide) ?_
      refine ex_cV (ν := m_Row_set) (a := 30) (ci := 6) (as := [.int (nI (k * 3)), .int (nI (0))]) dX5_readChildren_62 ln_Rings_34 mf_Row_set rfl (l56 (by decide)) rfl rfl np_Row_set rfl rfl ⟨(Nat.le_of_ble_eq_true rfl), (Nat.le_of_ble_eq_true rfl), (Nat.le_of_ble_eq_true rfl), (Nat.le_of_ble_eq_true rfl)⟩ (by decide) ?_
      refine sp_Row_set (r := 30) (c := 31) rfl rfl rfl (l56 (by decide)) (l56 (by decide)) (by omega) ?_
      refine ⟨_, rfl, ?_⟩
      refine ex_aload_n (i := 0) dX5_readChildren_65 rfl rfl ?_
      refine ex_getR (v := .ref (30)) dX5_readChildren_66 fl_Rings_24 rfl rfl (l56 (by decide)) rfl ?_
      refine ex_iload dX5_readChildren_69 rfl ?_
      refine ex_iconst (v := nI 1) dX5_readChildren_71 (by decide) ?_
      refine ex_iaddN dX5_readChildren_72 ?_
      refine ex_iload_n (i := 3) dX5_readChildren_73 rfl rfl ?_
      refine ex_iconst (v := nI 2) dX5_readChildren_74 (by decide) ?_
      refine ex_iandN dX5_readChildren_75 ?_
      refine ex_if_eqN (tgt := 84) dX5_readChildren_76 (by decide) (by omega) (fun h76 => by exact absurd q1 (hb1.mp h76)) (fun h76 => ?_)
      refine ex_iload dX5_readChildren_79 rfl ?_
      refine ex_goto (tgt := 85) dX5_readChildren_81 (by decide) ?_
      refine ex_cV (ν := m_Row_set) (a := 30) (ci := 6) (as := [.int (nI ((k * 3) + 1)), .int (nI (1 * 2 ^ ((k * 3) + 2)))]) dX5_readChildren_85 ln_Rings_34 mf_Row_set rfl (l56 (by decide)) rfl rfl np_Row_set rfl rfl ⟨(Nat.le_of_ble_eq_true rfl), (Nat.le_of_ble_eq_true rfl), (Nat.le_of_ble_eq_true rfl), (Nat.le_of_ble_eq_true rfl)⟩ (by decide) ?_
      refine sp_Row_set (r := 30) (c := 31) rfl rfl rfl (l56 (by decide)) (l56 (by decide)) (by omega) ?_
      refine ⟨_, rfl, ?_⟩
      refine ex_iincN (L' := [some (.ref (27)), some (.int (nI (r))), some (.int (nI (k + 1))), some (.int (nI (tr (sy r k)))), some (.int (nI (k * 3))), some (.int (nI (1 * 2 ^ ((k * 3) + 2))))]) dX5_readChildren_88 rfl rfl (by decide) rfl ?_
      refine ex_goto (tgt := 2) dX5_readChildren_91 (by decide) ?_
      exact ex_less (L' := [some (.ref 27), some (.int (nI r)), some (.int (nI (k + 1))), none, none, none]) (by simp [xSub]) (ih (k + 1) _ (by omega) ((hf.U (by decide)).U (by decide)) (by omega) (hH2 _ _ (by simp [*]) (by simp [*])))
    ·
      refine ex_iload_n (i := 2) dX5_readChildren_2 rfl rfl ?_
      refine ex_aload_n (i := 0) dX5_readChildren_3 rfl rfl ?_
      refine ex_getR (v := .ref (1)) dX5_readChildren_4 fl_Rings_9 rfl rfl (l56 (by decide)) rfl ?_
      refine ex_iload_n (i := 1) dX5_readChildren_7 rfl rfl ?_
      refine ex_cV (ν := m_Grammar_lengthOf) (a := 1) (ci := 1) (as := [.int (nI (r))]) dX5_readChildren_8 ln_Rings_52 mf_Grammar_lengthOf rfl (l56 (by decide)) rfl rfl np_Grammar_lengthOf rfl rfl ⟨(Nat.le_of_ble_eq_true rfl), (Nat.le_of_ble_eq_true rfl), (Nat.le_of_ble_eq_true rfl), (Nat.le_of_ble_eq_true rfl)⟩ (by decide) ?_
      refine sp_Grammar_lengthOf (f := sy r) sc1 (by omega) (fun k hk => gs1.2.1 r k (by omega) hk) (fun k hk => Nat.lt_of_le_of_lt (gs1.2.2.le (by omega) hk) (by decide)) ?_
      refine ⟨_, rfl, ?_⟩
      refine ex_icmp_gtN (tgt := 94) dX5_readChildren_11 (by decide) (by omega) (by omega) (fun h11 => by omega) (fun h11 => ?_)
      refine ex_aload_n (i := 0) dX5_readChildren_14 rfl rfl ?_
      refine ex_getR (v := .ref (28)) dX5_readChildren_15 fl_Rings_20 rfl rfl (l56 (by decide)) rfl ?_
      refine ex_aload_n (i := 0) dX5_readChildren_18 rfl rfl ?_
      refine ex_getR (v := .ref (1)) dX5_readChildren_19 fl_Rings_9 rfl rfl (l56 (by decide)) rfl ?_
      refine ex_iload_n (i := 1) dX5_readChildren_22 rfl rfl ?_
      refine ex_iload_n (i := 2) dX5_readChildren_23 rfl rfl ?_
      refine ex_cV (ν := m_Grammar_symbolAt) (a := 1) (ci := 1) (as := [.int (nI (r)), .int (nI (k))]) dX5_readChildren_24 ln_Rings_56 mf_Grammar_symbolAt rfl (l56 (by decide)) rfl rfl np_Grammar_symbolAt rfl rfl ⟨(Nat.le_of_ble_eq_true rfl), (Nat.le_of_ble_eq_true rfl), (Nat.le_of_ble_eq_true rfl), (Nat.le_of_ble_eq_true rfl)⟩ (by decide) ?_
      refine sp_Grammar_symbolAt sc1 (by omega) (by omega) ?_
      refine ⟨_, rfl, ?_⟩
      refine ex_asN (a := sy r k) (gs1.2.1 r k (by omega) (by omega)) ?_
      refine ex_cV (ν := m_Row_get) (a := 28) (ci := 6) (as := [.int (nI (sy r k))]) dX5_readChildren_27 ln_Rings_60 mf_Row_get rfl (l56 (by decide)) rfl rfl np_Row_get rfl rfl ⟨(Nat.le_of_ble_eq_true rfl), (Nat.le_of_ble_eq_true rfl), (Nat.le_of_ble_eq_true rfl), (Nat.le_of_ble_eq_true rfl)⟩ (by decide) ?_
      refine sp_Row_get (r := 28) (c := 29) rfl rfl rfl (l56 (by decide)) (l56 (by decide)) (by omega) ?_
      refine ⟨_, rfl, ?_⟩
      refine ex_asN (a := tr (sy r k)) (htr1 _ (by omega)) ?_
      refine ex_istore_n (L' := [some (.ref (27)), some (.int (nI (r))), some (.int (nI (k))), some (.int (nI (tr (sy r k)))), none, none]) dX5_readChildren_30 (i := 3) rfl (by decide) rfl ?_
      refine ex_iload_n (i := 2) dX5_readChildren_31 rfl rfl ?_
      refine ex_iconst (v := nI 3) dX5_readChildren_32 (by decide) ?_
      refine ex_imulN dX5_readChildren_33 ?_
      refine ex_istore (L' := [some (.ref (27)), some (.int (nI (r))), some (.int (nI (k))), some (.int (nI (tr (sy r k)))), some (.int (nI (k * 3))), none]) dX5_readChildren_34 (by decide) rfl ?_
      refine ex_iconst (v := nI 1) dX5_readChildren_36 (by decide) ?_
      refine ex_iload dX5_readChildren_37 rfl ?_
      refine ex_iconst (v := nI 2) dX5_readChildren_39 (by decide) ?_
      refine ex_iaddN dX5_readChildren_40 ?_
      refine ex_ishlN dX5_readChildren_41 (by first | omega | exact hpw) (by first | omega | exact hpw) ?_
      refine ex_istore (L' := [some (.ref (27)), some (.int (nI (r))), some (.int (nI (k))), some (.int (nI (tr (sy r k)))), some (.int (nI (k * 3))), some (.int (nI (1 * 2 ^ ((k * 3) + 2))))]) dX5_readChildren_42 (by decide) rfl ?_
      refine ex_aload_n (i := 0) dX5_readChildren_44 rfl rfl ?_
      refine ex_getR (v := .ref (30)) dX5_readChildren_45 fl_Rings_24 rfl rfl (l56 (by decide)) rfl ?_
      refine ex_iload dX5_readChildren_48 rfl ?_
      refine ex_iload_n (i := 3) dX5_readChildren_50 rfl rfl ?_
      refine ex_iconst (v := nI 1) dX5_readChildren_51 (by decide) ?_
      refine ex_iandN dX5_readChildren_52 ?_
      refine ex_if_eqN (tgt := 61) dX5_readChildren_53 (by decide) (by omega) (fun h53 => ?_) (fun h53 => by exact absurd (hb0.mpr q0) h53)
      refine ex_iconst (v := nI 0) dX5_readChildren_61 (by decide) ?_
      refine ex_cV (ν := m_Row_set) (a := 30) (ci := 6) (as := [.int (nI (k * 3)), .int (nI (0))]) dX5_readChildren_62 ln_Rings_34 mf_Row_set rfl (l56 (by decide)) rfl rfl np_Row_set rfl rfl ⟨(Nat.le_of_ble_eq_true rfl), (Nat.le_of_ble_eq_true rfl), (Nat.le_of_ble_eq_true rfl), (Nat.le_of_ble_eq_true rfl)⟩ (by decide) ?_
      refine sp_Row_set (r := 30) (c := 31) rfl rfl rfl (l56 (by decide)) (l56 (by decide)) (by omega) ?_
      refine ⟨_, rfl, ?_⟩
      refine ex_aload_n (i := 0) dX5_readChildren_65 rfl rfl ?_
      refine ex_getR (v := .ref (30)) dX5_readChildren_66 fl_Rings_24 rfl rfl (l56 (by decide)) rfl ?_
      refine ex_iload dX5_readChildren_69 rfl ?_
      refine ex_iconst (v := nI 1) dX5_readChildren_71 (by decide) ?_
      refine ex_iaddN dX5_readChildren_72 ?_
      refine ex_iload_n (i := 3) dX5_readChildren_73 rfl rfl ?_
      refine ex_iconst (v := nI 2) dX5_readChildren_74 (by decide) ?_
      refine ex_iandN dX5_readChildren_75 ?_
      refine ex_if_eqN (tgt := 84) dX5_readChildren_76 (by decide) (by omega) (fun h76 => ?_) (fun h76 => by exact absurd (hb1.mpr q1) h76)
      refine ex_iconst (v := nI 0) dX5_readChildren_84 (by decide) ?_
      refine ex_cV (ν := m_Row_set) (a := 30) (ci := 6) (as := [.int (nI ((k * 3) + 1)), .int (nI (0))]) dX5_readChildren_85 ln_Rings_34 mf_Row_set rfl (l56 (by decide)) rfl rfl np_Row_set rfl rfl ⟨(Nat.le_of_ble_eq_true rfl), (Nat.le_of_ble_eq_true rfl), (Nat.le_of_ble_eq_true rfl), (Nat.le_of_ble_eq_true rfl)⟩ (by decide) ?_
      refine sp_Row_set (r := 30) (c := 31) rfl rfl rfl (l56 (by decide)) (l56 (by decide)) (by omega) ?_
      refine ⟨_, rfl, ?_⟩
      refine ex_iincN (L' := [some (.ref (27)), some (.int (nI (r))), some (.int (nI (k + 1))), some (.int (nI (tr (sy r k)))), some (.int (nI (k * 3))), some (.int (nI (1 * 2 ^ ((k * 3) + 2))))]) dX5_readChildren_88 rfl rfl (by decide) rfl ?_
      refine ex_goto (tgt := 2) dX5_readChildren_91 (by decide) ?_
      exact ex_less (L' := [some (.ref 27), some (.int (nI r)), some (.int (nI (k + 1))), none, none, none]) (by simp [xSub]) (ih (k + 1) _ (by omega) ((hf.U (by decide)).U (by decide)) (by omega) (hH2 _ _ (by simp [*]) (by simp [*])))
theorem sp_Rings_readChildren {r : Nat} (sc : SC i) (gs : GS i n sy) (hr : r < 14) (htr : Vw i 29 14 tr) (htb : ∀ s, tr s < 8) (hH : Vw i 31 15 (fun p => eqm op xp yp (r * 15 + p))) (hQ : ∀ i1, Fr [31] i i1 → Vw i1 31 15 (hgB sy op xp yp tr r (lnR sy r + 1)) → Q (.ok none) (56 + ζ, g, i1, q, RT t)) : Wx m_Rings_readChildren 0 [some (.ref 27), some (.int (nI r)), none, none, none, none] [] (56 + ζ, g, i, q, RT t) (0, 0) Q := by
  refine ex_iconst (v := nI 1) dX5_readChildren_0 (by decide) ?_
  refine ex_istore_n (L' := [some (.ref (27)), some (.int (nI (r))), some (.int (nI (1))), none, none, none]) dX5_readChildren_1 (i := 2) rfl (by decide) rfl ?_
  exact lp_Rings_readChildren sc gs hr htr htb hQ (lnR sy r) 1 i (by omega) Fr.rf (by omega) (fun p hp => by rw [hH p hp]; unfold hgB; rw [if_neg (by omega)])
theorem sp_Rings_makesTrees {r : Nat} (sc : SC i) (gs : GS i n sy) (hr : r < 14) (htr : Vw i 29 14 tr) (htb : ∀ s, tr s < 8) (hY : mkT sy tr r → Q (.ok (some (.int (nI 1)))) (56 + ζ, g, i, q, RT t)) (hN : ¬ mkT sy tr r → Q (.ok (some (.int (nI 0)))) (56 + ζ, g, i, q, RT t)) : Wx m_Rings_makesTrees 0 [some (.ref 27), some (.int (nI r)), none] [] (56 + ζ, g, i, q, RT t) (0, 0) Q := by
  have hl4 : lnR sy r ≤ 4 := lnS_le _
  have hlS : lnS (sy r) = lnR sy r := rfl
  have loop : ∀ d k, k + d = lnR sy r + 1 → 1 ≤ k → (∀ j, 1 ≤ j → j < k → tr (sy r j) ≠ 0) → Wx m_Rings_makesTrees 2 [some (.ref 27), some (.int (nI r)), some (.int (nI k))] [] (56 + ζ, g, i, q, RT t) (0, 0) Q := by
    intro d
    induction d with
    | zero =>
      intro k hk h1 hj
      have hq := hY (fun j a b => hj j a (by omega))
      refine ex_iload_n (i := 2) dX5_makesTrees_2 rfl rfl ?_
      refine ex_aload_n (i := 0) dX5_makesTrees_3 rfl rfl ?_
      refine ex_getR (v := .ref (1)) dX5_makesTrees_4 fl_Rings_9 rfl rfl (l56 (by decide)) rfl ?_
      refine ex_iload_n (i := 1) dX5_makesTrees_7 rfl rfl ?_
      refine ex_cV (ν := m_Grammar_lengthOf) (a := 1) (ci := 1) (as := [.int (nI (r))]) dX5_makesTrees_8 ln_Rings_52 mf_Grammar_lengthOf rfl (l56 (by decide)) rfl rfl np_Grammar_lengthOf rfl rfl ⟨(Nat.le_of_ble_eq_true rfl), (Nat.le_of_ble_eq_true rfl), (Nat.le_of_ble_eq_true rfl), (Nat.le_of_ble_eq_true rfl)⟩ (by decide) ?_
      refine sp_Grammar_lengthOf (f := sy r) sc (by omega) (fun k hk => gs.2.1 r k (by omega) hk) (fun k hk => Nat.lt_of_le_of_lt (gs.2.2.le (by omega) hk) (by decide)) ?_
      refine ⟨_, rfl, ?_⟩
      refine ex_icmp_gtN (tgt := 41) dX5_makesTrees_11 (by decide) (by omega) (by omega) (fun h11 => ?_) (fun h11 => by omega)
      refine ex_iconst (v := nI 1) dX5_makesTrees_41 (by decide) ?_
      refine ex_iret dX5_makesTrees_42 rfl (by decide) ?_
      exact hq
    | succ d ih =>
      intro k hk h1 hj
      have hsl := gs.2.2.le (r := r) (k := k) (by omega) (by omega)
      have ht8 := htb (sy r k)
      by_cases hz : tr (sy r k) = 0
      · have hq := hN (fun h => h k h1 (by omega) hz)
        refine ex_iload_n (i := 2) dX5_makesTrees_2 rfl rfl ?_
        refine ex_aload_n (i := 0) dX5_makesTrees_3 rfl rfl ?_
        refine ex_getR (v := .ref (1)) dX5_makesTrees_4 fl_Rings_9 rfl rfl (l56 (by decide)) rfl ?_
        refine ex_iload_n (i := 1) dX5_makesTrees_7 rfl rfl ?_
        refine ex_cV (ν := m_Grammar_lengthOf) (a := 1) (ci := 1) (as := [.int (nI (r))]) dX5_makesTrees_8 ln_Rings_52 mf_Grammar_lengthOf rfl (l56 (by decide)) rfl rfl np_Grammar_lengthOf rfl rfl ⟨(Nat.le_of_ble_eq_true rfl), (Nat.le_of_ble_eq_true rfl), (Nat.le_of_ble_eq_true rfl), (Nat.le_of_ble_eq_true rfl)⟩ (by decide) ?_
        refine sp_Grammar_lengthOf (f := sy r) sc (by omega) (fun k hk => gs.2.1 r k (by omega) hk) (fun k hk => Nat.lt_of_le_of_lt (gs.2.2.le (by omega) hk) (by decide)) ?_
        refine ⟨_, rfl, ?_⟩
        refine ex_icmp_gtN (tgt := 41) dX5_makesTrees_11 (by decide) (by omega) (by omega) (fun h11 => by omega) (fun h11 => ?_)
        refine ex_aload_n (i := 0) dX5_makesTrees_14 rfl rfl ?_
        refine ex_getR (v := .ref (28)) dX5_makesTrees_15 fl_Rings_20 rfl rfl (l56 (by decide)) rfl ?_
        refine ex_aload_n (i := 0) dX5_makesTrees_18 rfl rfl ?_
        refine ex_getR (v := .ref (1)) dX5_makesTrees_19 fl_Rings_9 rfl rfl (l56 (by decide)) rfl ?_
        refine ex_iload_n (i := 1) dX5_makesTrees_22 rfl rfl ?_
        refine ex_iload_n (i := 2) dX5_makesTrees_23 rfl rfl ?_
        refine ex_cV (ν := m_Grammar_symbolAt) (a := 1) (ci := 1) (as := [.int (nI (r)), .int (nI (k))]) dX5_makesTrees_24 ln_Rings_56 mf_Grammar_symbolAt rfl (l56 (by decide)) rfl rfl np_Grammar_symbolAt rfl rfl ⟨(Nat.le_of_ble_eq_true rfl), (Nat.le_of_ble_eq_true rfl), (Nat.le_of_ble_eq_true rfl), (Nat.le_of_ble_eq_true rfl)⟩ (by decide) ?_
        refine sp_Grammar_symbolAt sc (by omega) (by omega) ?_
        refine ⟨_, rfl, ?_⟩
        refine ex_asN (a := sy r k) (gs.2.1 r k (by omega) (by omega)) ?_
        refine ex_cV (ν := m_Row_get) (a := 28) (ci := 6) (as := [.int (nI (sy r k))]) dX5_makesTrees_27 ln_Rings_60 mf_Row_get rfl (l56 (by decide)) rfl rfl np_Row_get rfl rfl ⟨(Nat.le_of_ble_eq_true rfl), (Nat.le_of_ble_eq_true rfl), (Nat.le_of_ble_eq_true rfl), (Nat.le_of_ble_eq_true rfl)⟩ (by decide) ?_
        refine sp_Row_get (r := 28) (c := 29) rfl rfl rfl (l56 (by decide)) (l56 (by decide)) (by omega) ?_
        refine ⟨_, rfl, ?_⟩
        refine ex_asN (a := tr (sy r k)) (htr _ (by omega)) ?_
        refine ex_if_neN (tgt := 35) dX5_makesTrees_30 (by decide) (by omega) (fun h30 => by exact absurd hz h30) (fun h30 => ?_)
        refine ex_iconst (v := nI 0) dX5_makesTrees_33 (by decide) ?_
        refine ex_iret dX5_makesTrees_34 rfl (by decide) ?_
        exact hq
      · have hj2 : ∀ j, 1 ≤ j → j < k + 1 → tr (sy r j) ≠ 0 := fun j a b => by
          by_cases e : j = k
          · subst e; exact hz
          · exact hj j a (by omega)
        refine ex_iload_n (i := 2) dX5_makesTrees_2 rfl rfl ?_
        refine ex_aload_n (i := 0) dX5_makesTrees_3 rfl rfl ?_
        refine ex_getR (v := .ref (1)) dX5_makesTrees_4 fl_Rings_9 rfl rfl (l56 (by decide)) rfl ?_
        refine ex_iload_n (i := 1) dX5_makesTrees_7 rfl rfl ?_
        refine ex_cV (ν := m_Grammar_lengthOf) (a := 1) (ci := 1) (as := [.int (nI (r))]) dX5_makesTrees_8 ln_Rings_52 mf_Grammar_lengthOf rfl (l56 (by decide)) rfl rfl np_Grammar_lengthOf rfl rfl ⟨(Nat.le_of_ble_eq_true rfl), (Nat.le_of_ble_eq_true rfl), (Nat.le_of_ble_eq_true rfl), (Nat.le_of_ble_eq_true rfl)⟩ (by decide) ?_
        refine sp_Grammar_lengthOf (f := sy r) sc (by omega) (fun k hk => gs.2.1 r k (by omega) hk) (fun k hk => Nat.lt_of_le_of_lt (gs.2.2.le (by omega) hk) (by decide)) ?_
        refine ⟨_, rfl, ?_⟩
        refine ex_icmp_gtN (tgt := 41) dX5_makesTrees_11 (by decide) (by omega) (by omega) (fun h11 => by omega) (fun h11 => ?_)
        refine ex_aload_n (i := 0) dX5_makesTrees_14 rfl rfl ?_
        refine ex_getR (v := .ref (28)) dX5_makesTrees_15 fl_Rings_20 rfl rfl (l56 (by decide)) rfl ?_
        refine ex_aload_n (i := 0) dX5_makesTrees_18 rfl rfl ?_
        refine ex_getR (v := .ref (1)) dX5_makesTrees_19 fl_Rings_9 rfl rfl (l56 (by decide)) rfl ?_
        refine ex_iload_n (i := 1) dX5_makesTrees_22 rfl rfl ?_
        refine ex_iload_n (i := 2) dX5_makesTrees_23 rfl rfl ?_
        refine ex_cV (ν := m_Grammar_symbolAt) (a := 1) (ci := 1) (as := [.int (nI (r)), .int (nI (k))]) dX5_makesTrees_24 ln_Rings_56 mf_Grammar_symbolAt rfl (l56 (by decide)) rfl rfl np_Grammar_symbolAt rfl rfl ⟨(Nat.le_of_ble_eq_true rfl), (Nat.le_of_ble_eq_true rfl), (Nat.le_of_ble_eq_true rfl), (Nat.le_of_ble_eq_true rfl)⟩ (by decide) ?_
        refine sp_Grammar_symbolAt sc (by omega) (by omega) ?_
        refine ⟨_, rfl, ?_⟩
        refine ex_asN (a := sy r k) (gs.2.1 r k (by omega) (by omega)) ?_
        refine ex_cV (ν := m_Row_get) (a := 28) (ci := 6) (as := [.int (nI (sy r k))]) dX5_makesTrees_27 ln_Rings_60 mf_Row_get rfl (l56 (by decide)) rfl rfl np_Row_get rfl rfl ⟨(Nat.le_of_ble_eq_true rfl), (Nat.le_of_ble_eq_true rfl), (Nat.le_of_ble_eq_true rfl), (Nat.le_of_ble_eq_true rfl)⟩ (by decide) ?_
        refine sp_Row_get (r := 28) (c := 29) rfl rfl rfl (l56 (by decide)) (l56 (by decide)) (by omega) ?_
        refine ⟨_, rfl, ?_⟩
        refine ex_asN (a := tr (sy r k)) (htr _ (by omega)) ?_
        refine ex_if_neN (tgt := 35) dX5_makesTrees_30 (by decide) (by omega) (fun h30 => ?_) (fun h30 => by exact absurd h30 hz)
        refine ex_iincN (L' := [some (.ref (27)), some (.int (nI (r))), some (.int (nI (k + 1)))]) dX5_makesTrees_35 rfl rfl (by decide) rfl ?_
        refine ex_goto (tgt := 2) dX5_makesTrees_38 (by decide) ?_
        exact ih (k + 1) (by omega) (by omega) hj2
  refine ex_iconst (v := nI 1) dX5_makesTrees_0 (by decide) ?_
  refine ex_istore_n (L' := [some (.ref (27)), some (.int (nI (r))), some (.int (nI (1)))]) dX5_makesTrees_1 (i := 2) rfl (by decide) rfl ?_
  exact loop (lnR sy r) 1 (by omega) (by omega) (fun j a b => by omega)
end S33
