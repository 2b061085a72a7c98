/-! ===== Rings: what hangs on what in a rule ===== -/
/-- equations: op 0 none, else operation + 1; xp, yp places -/
def ESw (op xp yp : Nat → Nat) : Prop := (∀ j, op j ≤ 8) ∧ (∀ j, 2 ≤ op j → xp j < 15) ∧ ∀ j, 3 ≤ op j → yp j < 15
def ES (i : Nat → Nat → Int32) (op xp yp : Nat → Nat) : Prop := Vw i 11 210 op ∧ Vw i 13 210 xp ∧ Vw i 15 210 yp ∧ ESw op xp yp
theorem ES.fr {i i' : Nat → Nat → Int32} {op xp yp : Nat → Nat} {l : List Nat} (h : ES i op xp yp) (hf : Fr l i i') (h1 : 11 ∉ l) (h2 : 13 ∉ l) (h3 : 15 ∉ l) : ES i' op xp yp := ⟨h.1.fr hf h1, h.2.1.fr hf h2, h.2.2.1.fr hf h3, h.2.2.2⟩
def eqm (op xp yp : Nat → Nat) (j : Nat) : Nat := (if 2 ≤ op j then 2 ^ xp j else 0) ||| (if 3 ≤ op j then 2 ^ yp j else 0)
theorem p15 {x : Nat} (h : x < 15) : 2 ^ x < 2 ^ 15 := Nat.pow_lt_pow_right (by decide) h
theorem eqm_lt {op xp yp : Nat → Nat} (h : ESw op xp yp) (j : Nat) : eqm op xp yp j < 2 ^ 15 := by
  unfold eqm
  apply Nat.or_lt_two_pow
  · split
    · rename_i h2; exact p15 (h.2.1 j h2)
    · decide
  · split
    · rename_i h3; exact p15 (h.2.2 j h3)
    · decide
/-- what hangs on what in rule r, the children's attributes by tr -/
def hgB (sy : Nat → Nat → Nat) (op xp yp tr : Nat → Nat) (r k0 : Nat) (p : Nat) : Nat := if 3 ≤ p ∧ p / 3 < k0 ∧ p % 3 < 2 then (if (tr (sy r (p / 3))).testBit (p % 3) = true then 2 ^ (p / 3 * 3 + 2) else 0) else eqm op xp yp (r * 15 + p)
theorem hgB_lt {sy : Nat → Nat → Nat} {op xp yp tr : Nat → Nat} (h : ESw op xp yp) {r k0 p : Nat} (hp : p < 15) : hgB sy op xp yp tr r k0 p < 2 ^ 15 := by
  unfold hgB
  split
  · split
    · exact p15 (by omega)
    · decide
  · exact eqm_lt h _
def psN (t : Nat) (H : Nat → Nat) (p : Nat) : Nat := if (H p).testBit t = true then H p ||| H t else H p
def wsN (H : Nat → Nat) : Nat → Nat → Nat
  | 0 => H
  | k + 1 => psN k (wsN H k)
theorem psN_lt {t : Nat} {H : Nat → Nat} (ht : t < 15) (h : ∀ p, p < 15 → H p < 2 ^ 15) : ∀ p, p < 15 → psN t H p < 2 ^ 15 := fun p hp => by
  unfold psN; split
  · exact Nat.or_lt_two_pow (h p hp) (h t ht)
  · exact h p hp
theorem wsN_lt {H : Nat → Nat} (h : ∀ p, p < 15 → H p < 2 ^ 15) : ∀ {k : Nat}, k ≤ 15 → ∀ p, p < 15 → wsN H k p < 2 ^ 15
  | 0, _ => h
  | k + 1, hk => psN_lt (by omega) (wsN_lt h (by omega))
/-- all of rule r -/
abbrev hgR (sy : Nat → Nat → Nat) (op xp yp tr : Nat → Nat) (r : Nat) : Nat → Nat := wsN (hgB sy op xp yp tr r (lnR sy r + 1)) 15
theorem tb_shift1 {a t : Nat} (h : a / 2 ^ t &&& 1 ≠ 0) : a.testBit t = true := by
  cases hb : a.testBit t
  · exact absurd (tb_shift.mpr (by rw [hb]; decide)) h
  · rfl
section S32
variable {ζ g : Nat} {i : Nat → Nat → Int32} {q : Nat → Nat → Int64} {t : Bool} {Q : xRes → xMem → Prop} {n : Nat} {sy : Nat → Nat → Nat} {op xp yp : Nat → Nat}
theorem sp_Rings_hangsOn {p o : Nat} {H : Nat → Nat} (hp : p < 15) (ho : o < 15) (hH : Vw i 31 15 H) (hb : ∀ p, p < 15 → H p < 2 ^ 15) (hQ : Q (.ok (some (.int (nI (if (H p).testBit o = true then 1 else 0))))) (56 + ζ, g, i, q, RT t)) : Wx m_Rings_hangsOn 0 [some (.ref 27), some (.int (nI p)), some (.int (nI o))] [] (56 + ζ, g, i, q, RT t) (0, 0) Q := by
  have hl := hb p hp
  have hal : H p / 2 ^ o &&& 1 ≤ 1 := Nat.and_le_right
  refine ex_aload_n (i := 0) dX5_hangsOn_0 rfl rfl ?_
  refine ex_getR (v := .ref (30)) dX5_hangsOn_1 fl_Rings_24 rfl rfl (l56 (by decide)) rfl ?_
  refine ex_iload_n (i := 1) dX5_hangsOn_4 rfl rfl ?_
  refine ex_cV (ν := m_Row_get) (a := 30) (ci := 6) (as := [.int (nI (p))]) dX5_hangsOn_5 ln_Rings_60 mf_Row_get rfl (l56 (by decide)) rfl rfl np_Row_get rfl rfl ⟨(Nat.le_of_ble_eq_true rfl), (Nat.le_of_ble_eq_true rfl), (Nat.le_of_ble_eq_true rfl), (Nat.le_of_ble_eq_true rfl)⟩ (by decide) ?_
  refine sp_Row_get (r := 30) (c := 31) rfl rfl rfl (l56 (by decide)) (l56 (by decide)) (by omega) ?_
  refine ⟨_, rfl, ?_⟩
  refine ex_asN (a := H p) (hH p hp) ?_
  refine ex_iload_n (i := 2) dX5_hangsOn_8 rfl rfl ?_
  refine ex_ishrN dX5_hangsOn_9 (by omega) (by omega) ?_
  refine ex_iconst (v := nI 1) dX5_hangsOn_10 (by decide) ?_
  refine ex_iandN dX5_hangsOn_11 ?_
  refine ex_if_eqN (tgt := 19) dX5_hangsOn_12 (by decide) (by omega) (fun hx12 => ?_) (fun hx12 => ?_)
  · refine ex_iconst (v := nI 0) dX5_hangsOn_19 (by decide) ?_
    refine ex_iret dX5_hangsOn_20 rfl (by decide) ?_
    first | (rw [if_pos (tb_shift1 (by assumption))] at hQ; exact hQ) | (rw [if_neg (tb_shift.mp (by assumption))] at hQ; exact hQ)
  · refine ex_iconst (v := nI 1) dX5_hangsOn_15 (by decide) ?_
    refine ex_goto (tgt := 20) dX5_hangsOn_16 (by decide) ?_
    refine ex_iret dX5_hangsOn_20 rfl (by decide) ?_
    first | (rw [if_pos (tb_shift1 (by assumption))] at hQ; exact hQ) | (rw [if_neg (tb_shift.mp (by assumption))] at hQ; exact hQ)
theorem lp_Rings_readEquations {r : Nat} (sc : SC i) (es : ES i op xp yp) (hr : r < 14) (hQ : ∀ i1, Fr [31] i i1 → Vw i1 31 15 (fun p => eqm op xp yp (r * 15 + p)) → Q (.ok none) (56 + ζ, g, i1, q, RT t)) :
    ∀ d k i1, k + d = 15 → Fr [31] i i1 → (∀ p, p < k → i1 31 p = nI (eqm op xp yp (r * 15 + p))) → Wx m_Rings_readEquations 2 [some (.ref 27), some (.int (nI r)), some (.int (nI k)), none, none, none] [] (56 + ζ, g, i1, q, RT t) (0, 0) Q := by
  intro d
  induction d with
  | zero =>
    intro k i1 hk hf hH
    have e : k = 15 := by omega
    subst e
    refine ex_iload_n (i := 2) dX5_readEquations_2 rfl rfl ?_
    refine ex_bipush (v := nI 15) dX5_readEquations_3 (by decide) ?_
    refine ex_icmp_geN (tgt := 81) dX5_readEquations_5 (by decide) (by decide) (by decide) (fun h5 => ?_) (fun h5 => by exact absurd h5 (by decide))
    refine ex_ret dX5_readEquations_81 rfl ?_
    exact hQ i1 hf hH
  | succ d ih =>
    intro k i1 hk hf hH
    have hk15 : k < 15 := by omega
    have sc1 := SC_Fr (by decide) hf sc
    have es1 := es.fr hf (by decide) (by decide) (by decide)
    have ho := es1.1 (r * 15 + k) (by omega)
    have ho8 := es.2.2.2.1 (r * 15 + k)
    have hH2 : ∀ v, nI v = nI (eqm op xp yp (r * 15 + k)) → ∀ p, p < k + 1 → xU i1 31 k (nI v) 31 p = nI (eqm op xp yp (r * 15 + p)) := by
      intro v hv p hp
      rw [xU_at]; unfold upd
      by_cases e : p = k
      · rw [if_pos e, hv, e]
      · rw [if_neg e]; exact hH p (by omega)
    unfold eqm at hH2
    by_cases h2 : 2 ≤ op (r * 15 + k)
    · have hx := es.2.2.2.2.1 _ h2
      have hpx := p15 hx
      by_cases h3 : 3 ≤ op (r * 15 + k)
      · have hy := es.2.2.2.2.2 _ h3
        have hpy := p15 hy
        rw [if_pos h2, if_pos h3] at hH2
        refine ex_iload_n (i := 2) dX5_readEquations_2 rfl rfl ?_
        refine ex_bipush (v := nI 15) dX5_readEquations_3 (by decide) ?_
        refine ex_icmp_geN (tgt := 81) dX5_readEquations_5 (by decide) (by omega) (by omega) (fun h5 => by omega) (fun h5 => ?_)
        refine ex_aload_n (i := 0) dX5_readEquations_8 rfl rfl ?_
        refine ex_getR (v := .ref (1)) dX5_readEquations_9 fl_Rings_9 rfl rfl (l56 (by decide)) rfl ?_
        refine ex_iload_n (i := 1) dX5_readEquations_12 rfl rfl ?_
        refine ex_iload_n (i := 2) dX5_readEquations_13 rfl rfl ?_
        refine ex_cV (ν := m_Grammar_operationAt) (a := 1) (ci := 1) (as := [.int (nI (r)), .int (nI (k))]) dX5_readEquations_14 ln_Rings_79 mf_Grammar_operationAt rfl (l56 (by decide)) rfl rfl np_Grammar_operationAt rfl rfl ⟨(Nat.le_of_ble_eq_true rfl), (Nat.le_of_ble_eq_true rfl), (Nat.le_of_ble_eq_true rfl), (Nat.le_of_ble_eq_true rfl)⟩ (by decide) ?_
        refine sp_Grammar_operationAt sc1 hr hk15 ?_
        refine ⟨_, rfl, ?_⟩
        refine ex_asN (a := op (r * 15 + k) - 1) (by rw [ho]; exact pk_sub (by omega)) ?_
        refine ex_istore_n (L' := [some (.ref (27)), some (.int (nI (r))), some (.int (nI (k))), some (.int (nI (op (r * 15 + k) - 1))), none, none]) dX5_readEquations_17 (i := 3) rfl (by decide) rfl ?_
        refine ex_iload_n (i := 3) dX5_readEquations_18 rfl rfl ?_
        refine ex_iconst (v := nI 1) dX5_readEquations_19 (by decide) ?_
        refine ex_icmp_ltN (tgt := 37) dX5_readEquations_20 (by decide) (by omega) (by omega) (fun h20 => by omega) (fun h20 => ?_)
        refine ex_iconst (v := nI 1) dX5_readEquations_23 (by decide) ?_
        refine ex_aload_n (i := 0) dX5_readEquations_24 rfl rfl ?_
        refine ex_getR (v := .ref (1)) dX5_readEquations_25 fl_Rings_9 rfl rfl (l56 (by decide)) rfl ?_
        refine ex_iload_n (i := 1) dX5_readEquations_28 rfl rfl ?_
        refine ex_iload_n (i := 2) dX5_readEquations_29 rfl rfl ?_
        refine ex_cV (ν := m_Grammar_xAt) (a := 1) (ci := 1) (as := [.int (nI (r)), .int (nI (k))]) dX5_readEquations_30 ln_Rings_82 mf_Grammar_xAt rfl (l56 (by decide)) rfl rfl np_Grammar_xAt rfl rfl ⟨(Nat.le_of_ble_eq_true rfl), (Nat.le_of_ble_eq_true rfl), (Nat.le_of_ble_eq_true rfl), (Nat.le_of_ble_eq_true rfl)⟩ (by decide) ?_
        refine sp_Grammar_xAt sc1 (by omega) (by omega) ?_
        refine ⟨_, rfl, ?_⟩
        refine ex_asN (a := xp (r * 15 + k)) (es1.2.1 _ (by omega)) ?_
        refine ex_ishlN dX5_readEquations_33 (by omega) (by omega) ?_
        refine ex_goto (tgt := 38) dX5_readEquations_34 (by decide) ?_
        refine ex_istore (L' := [some (.ref (27)), some (.int (nI (r))), some (.int (nI (k))), some (.int (nI (op (r * 15 + k) - 1))), some (.int (nI (1 * 2 ^ (xp (r * 15 + k))))), none]) dX5_readEquations_38 (by decide) rfl ?_
        refine ex_iload_n (i := 3) dX5_readEquations_40 rfl rfl ?_
        refine ex_iconst (v := nI 2) dX5_readEquations_41 (by decide) ?_
        refine ex_icmp_ltN (tgt := 59) dX5_readEquations_42 (by decide) (by omega) (by omega) (fun h42 => by omega) (fun h42 => ?_)
        refine ex_iconst (v := nI 1) dX5_readEquations_45 (by decide) ?_
        refine ex_aload_n (i := 0) dX5_readEquations_46 rfl rfl ?_
        refine ex_getR (v := .ref (1)) dX5_readEquations_47 fl_Rings_9 rfl rfl (l56 (by decide)) rfl ?_
        refine ex_iload_n (i := 1) dX5_readEquations_50 rfl rfl ?_
        refine ex_iload_n (i := 2) dX5_readEquations_51 rfl rfl ?_
        refine ex_cV (ν := m_Grammar_yAt) (a := 1) (ci := 1) (as := [.int (nI (r)), .int (nI (k))]) dX5_readEquations_52 ln_Rings_85 mf_Grammar_yAt rfl (l56 (by decide)) rfl rfl np_Grammar_yAt rfl rfl ⟨(Nat.le_of_ble_eq_true rfl), (Nat.le_of_ble_eq_true rfl), (Nat.le_of_ble_eq_true rfl), (Nat.le_of_ble_eq_true rfl)⟩ (by decide) ?_
        refine sp_Grammar_yAt sc1 (by omega) (by omega) ?_
        refine ⟨_, rfl, ?_⟩
        refine ex_asN (a := yp (r * 15 + k)) (es1.2.2.1 _ (by omega)) ?_
        refine ex_ishlN dX5_readEquations_55 (by omega) (by omega) ?_
        refine ex_goto (tgt := 60) dX5_readEquations_56 (by decide) ?_
        refine ex_istore (L' := [some (.ref (27)), some (.int (nI (r))), some (.int (nI (k))), some (.int (nI (op (r * 15 + k) - 1))), some (.int (nI (1 * 2 ^ (xp (r * 15 + k))))), some (.int (nI (1 * 2 ^ (yp (r * 15 + k)))))]) dX5_readEquations_60 (by decide) rfl ?_
        refine ex_aload_n (i := 0) dX5_readEquations_62 rfl rfl ?_
        refine ex_getR (v := .ref (30)) dX5_readEquations_63 fl_Rings_24 rfl rfl (l56 (by decide)) rfl ?_
        refine ex_iload_n (i := 2) dX5_readEquations_66 rfl rfl ?_
        refine ex_iload dX5_readEquations_67 rfl ?_
        refine ex_iload dX5_readEquations_69 rfl ?_
        refine ex_iorN dX5_readEquations_71 ?_
        refine ex_cV (ν := m_Row_set) (a := 30) (ci := 6) (as := [.int (nI (k)), .int (nI ((1 * 2 ^ (xp (r * 15 + k))) ||| (1 * 2 ^ (yp (r * 15 + k)))))]) dX5_readEquations_72 ln_Rings_34 mf_Row_set rfl (l56 (by decide)) rfl rfl np_Row_set rfl rfl ⟨(Nat.le_of_ble_eq_true rfl), (Nat.le_of_ble_eq_true rfl), (Nat.le_of_ble_eq_true rfl), (Nat.le_of_ble_eq_true rfl)⟩ (by decide) ?_
        refine sp_Row_set (r := 30) (c := 31) rfl rfl rfl (l56 (by decide)) (l56 (by decide)) (by omega) ?_
        refine ⟨_, rfl, ?_⟩
        refine ex_iincN (L' := [some (.ref (27)), some (.int (nI (r))), some (.int (nI (k + 1))), some (.int (nI (op (r * 15 + k) - 1))), some (.int (nI (1 * 2 ^ (xp (r * 15 + k))))), some (.int (nI (1 * 2 ^ (yp (r * 15 + k)))))]) dX5_readEquations_75 rfl rfl (by decide) rfl ?_
        refine ex_goto (tgt := 2) dX5_readEquations_78 (by decide) ?_
        exact ex_less (L' := [some (.ref 27), some (.int (nI r)), some (.int (nI (k + 1))), none, none, none]) (by simp [xSub]) (ih (k + 1) _ (by omega) (hf.U (by decide)) (fun p hp => hH2 _ (by rw [Nat.one_mul, Nat.one_mul]) p hp))
      · rw [if_pos h2, if_neg h3] at hH2
        refine ex_iload_n (i := 2) dX5_readEquations_2 rfl rfl ?_
        refine ex_bipush (v := nI 15) dX5_readEquations_3 (by decide) ?_
        refine ex_icmp_geN (tgt := 81) dX5_readEquations_5 (by decide) (by omega) (by omega) (fun h5 => by omega) (fun h5 => ?_)
        refine ex_aload_n (i := 0) dX5_readEquations_8 rfl rfl ?_
        refine ex_getR (v := .ref (1)) dX5_readEquations_9 fl_Rings_9 rfl rfl (l56 (by decide)) rfl ?_
        refine ex_iload_n (i := 1) dX5_readEquations_12 rfl rfl ?_
        refine ex_iload_n (i := 2) dX5_readEquations_13 rfl rfl ?_
        refine ex_cV (ν := m_Grammar_operationAt) (a := 1) (ci := 1) (as := [.int (nI (r)), .int (nI (k))]) dX5_readEquations_14 ln_Rings_79 mf_Grammar_operationAt rfl (l56 (by decide)) rfl rfl np_Grammar_operationAt rfl rfl ⟨(Nat.le_of_ble_eq_true rfl), (Nat.le_of_ble_eq_true rfl), (Nat.le_of_ble_eq_true rfl), (Nat.le_of_ble_eq_true rfl)⟩ (by decide) ?_
        refine sp_Grammar_operationAt sc1 hr hk15 ?_
        refine ⟨_, rfl, ?_⟩
        refine ex_asN (a := op (r * 15 + k) - 1) (by rw [ho]; exact pk_sub (by omega)) ?_
        refine ex_istore_n (L' := [some (.ref (27)), some (.int (nI (r))), some (.int (nI (k))), some (.int (nI (op (r * 15 + k) - 1))), none, none]) dX5_readEquations_17 (i := 3) rfl (by decide) rfl ?_
        refine ex_iload_n (i := 3) dX5_readEquations_18 rfl rfl ?_
        refine ex_iconst (v := nI 1) dX5_readEquations_19 (by decide) ?_
        refine ex_icmp_ltN (tgt := 37) dX5_readEquations_20 (by decide) (by omega) (by omega) (fun h20 => by omega) (fun h20 => ?_)
        refine ex_iconst (v := nI 1) dX5_readEquations_23 (by decide) ?_
        refine ex_aload_n (i := 0) dX5_readEquations_24 rfl rfl ?_
        refine ex_getR (v := .ref (1)) dX5_readEquations_25 fl_Rings_9 rfl rfl (l56 (by decide)) rfl ?_
        refine ex_iload_n (i := 1) dX5_readEquations_28 rfl rfl ?_
        refine ex_iload_n (i := 2) dX5_readEquations_29 rfl rfl ?_
        refine ex_cV (ν := m_Grammar_xAt) (a := 1) (ci := 1) (as := [.int (nI (r)), .int (nI (k))]) dX5_readEquations_30 ln_Rings_82 mf_Grammar_xAt rfl (l56 (by decide)) rfl rfl np_Grammar_xAt rfl rfl ⟨(Nat.le_of_ble_eq_true rfl), (Nat.le_of_ble_eq_true rfl), (Nat.le_of_ble_eq_true rfl), (Nat.le_of_ble_eq_true rfl)⟩ (by decide) ?_
        refine sp_Grammar_xAt sc1 (by omega) (by omega) ?_
        refine ⟨_, rfl, ?_⟩
        refine ex_asN (a := xp (r * 15 + k)) (es1.2.1 _ (by omega)) ?_
        refine ex_ishlN dX5_readEquations_33 (by omega) (by omega) ?_
        refine ex_goto (tgt := 38) dX5_readEquations_34 (by decide) ?_
        refine ex_istore (L' := [some (.ref (27)), some (.int (nI (r))), some (.int (nI (k))), some (.int (nI (op (r * 15 + k) - 1))), some (.int (nI (1 * 2 ^ (xp (r * 15 + k))))), none]) dX5_readEquations_38 (by decide) rfl ?_
        refine ex_iload_n (i := 3) dX5_readEquations_40 rfl rfl ?_
        refine ex_iconst (v := nI 2) dX5_readEquations_41 (by decide) ?_
        refine ex_icmp_ltN (tgt := 59) dX5_readEquations_42 (by decide) (by omega) (by omega) (fun h42 => ?_) (fun h42 => by omega)
        refine ex_iconst (v := nI 0) dX5_readEquations_59 (by decide) ?_
        refine ex_istore (L' := [some (.ref (27)), some (.int (nI (r))), some (.int (nI (k))), some (.int (nI (op (r * 15 + k) - 1))), some (.int (nI (1 * 2 ^ (xp (r * 15 + k))))), some (.int (nI (0)))]) dX5_readEquations_60 (by decide) rfl ?_
        refine ex_aload_n (i := 0) dX5_readEquations_62 rfl rfl ?_
        refine ex_getR (v := .ref (30)) dX5_readEquations_63 fl_Rings_24 rfl rfl (l56 (by decide)) rfl ?_
        refine ex_iload_n (i := 2) dX5_readEquations_66 rfl rfl ?_
        refine ex_iload dX5_readEquations_67 rfl ?_
        refine ex_iload dX5_readEquations_69 rfl ?_
        refine ex_iorN dX5_readEquations_71 ?_
        refine ex_cV (ν := m_Row_set) (a := 30) (ci := 6) (as := [.int (nI (k)), .int (nI ((1 * 2 ^ (xp (r * 15 + k))) ||| 0))]) dX5_readEquations_72 ln_Rings_34 mf_Row_set rfl (l56 (by decide)) rfl rfl np_Row_set rfl rfl ⟨(Nat.le_of_ble_eq_true rfl), (Nat.le_of_ble_eq_true rfl), (Nat.le_of_ble_eq_true rfl), (Nat.le_of_ble_eq_true rfl)⟩ (by decide) ?_
        refine sp_Row_set (r := 30) (c := 31) rfl rfl rfl (l56 (by decide)) (l56 (by decide)) (by omega) ?_
        refine ⟨_, rfl, ?_⟩
        refine ex_iincN (L' := [some (.ref (27)), some (.int (nI (r))), some (.int (nI (k + 1))), some (.int (nI (op (r * 15 + k) - 1))), some (.int (nI (1 * 2 ^ (xp (r * 15 + k))))), some (.int (nI (0)))]) dX5_readEquations_75 rfl rfl (by decide) rfl ?_
        refine ex_goto (tgt := 2) dX5_readEquations_78 (by decide) ?_
        exact ex_less (L' := [some (.ref 27), some (.int (nI r)), some (.int (nI (k + 1))), none, none, none]) (by simp [xSub]) (ih (k + 1) _ (by omega) (hf.U (by decide)) (fun p hp => hH2 _ (by rw [Nat.one_mul]) p hp))
    · have h3 : ¬ 3 ≤ op (r * 15 + k) := by omega
      rw [if_neg h2, if_neg h3] at hH2
      have hlt1 : op (r * 15 + k) = 0 ∨ op (r * 15 + k) = 1 := by omega
      obtain ⟨w, hw⟩ : ∃ w : Int32, w = i1 11 (r * 15 + k) - nI 1 := ⟨_, rfl⟩
      have hwl : w < nI 1 ∧ w < nI 2 := by
        rw [hw, ho]
        rcases hlt1 with e | e <;> rw [e] <;> decide
      refine ex_iload_n (i := 2) dX5_readEquations_2 rfl rfl ?_
      refine ex_bipush (v := nI 15) dX5_readEquations_3 (by decide) ?_
      refine ex_icmp_geN (tgt := 81) dX5_readEquations_5 (by decide) (by omega) (by omega) (fun h5 => by omega) (fun h5 => ?_)
      refine ex_aload_n (i := 0) dX5_readEquations_8 rfl rfl ?_
      refine ex_getR (v := .ref (1)) dX5_readEquations_9 fl_Rings_9 rfl rfl (l56 (by decide)) rfl ?_
      refine ex_iload_n (i := 1) dX5_readEquations_12 rfl rfl ?_
      refine ex_iload_n (i := 2) dX5_readEquations_13 rfl rfl ?_
      refine ex_cV (ν := m_Grammar_operationAt) (a := 1) (ci := 1) (as := [.int (nI (r)), .int (nI (k))]) dX5_readEquations_14 ln_Rings_79 mf_Grammar_operationAt rfl (l56 (by decide)) rfl rfl np_Grammar_operationAt rfl rfl ⟨(Nat.le_of_ble_eq_true rfl), (Nat.le_of_ble_eq_true rfl), (Nat.le_of_ble_eq_true rfl), (Nat.le_of_ble_eq_true rfl)⟩ (by decide) ?_
      refine sp_Grammar_operationAt sc1 hr hk15 ?_
      refine ⟨_, rfl, ?_⟩
      refine ex_asI hw.symm ?_
      refine ex_istore_n (L' := [some (.ref (27)), some (.int (nI (r))), some (.int (nI (k))), some (.int (w)), none, none]) dX5_readEquations_17 (i := 3) rfl (by decide) rfl ?_
      refine ex_iload_n (i := 3) dX5_readEquations_18 rfl rfl ?_
      refine ex_iconst (v := nI 1) dX5_readEquations_19 (by decide) ?_
      refine ex_icmp_lt (tgt := 37) dX5_readEquations_20 (by decide) (fun h20 => ?_) (fun h20 => by exact absurd hwl.1 h20)
      refine ex_iconst (v := nI 0) dX5_readEquations_37 (by decide) ?_
      refine ex_istore (L' := [some (.ref (27)), some (.int (nI (r))), some (.int (nI (k))), some (.int (w)), some (.int (nI (0))), none]) dX5_readEquations_38 (by decide) rfl ?_
      refine ex_iload_n (i := 3) dX5_readEquations_40 rfl rfl ?_
      refine ex_iconst (v := nI 2) dX5_readEquations_41 (by decide) ?_
      refine ex_icmp_lt (tgt := 59) dX5_readEquations_42 (by decide) (fun h42 => ?_) (fun h42 => by exact absurd hwl.2 h42)
      refine ex_iconst (v := nI 0) dX5_readEquations_59 (by decide) ?_
      refine ex_istore (L' := [some (.ref (27)), some (.int (nI (r))), some (.int (nI (k))), some (.int (w)), some (.int (nI (0))), some (.int (nI (0)))]) dX5_readEquations_60 (by decide) rfl ?_
      refine ex_aload_n (i := 0) dX5_readEquations_62 rfl rfl ?_
      refine ex_getR (v := .ref (30)) dX5_readEquations_63 fl_Rings_24 rfl rfl (l56 (by decide)) rfl ?_
      refine ex_iload_n (i := 2) dX5_readEquations_66 rfl rfl ?_
      refine ex_iload dX5_readEquations_67 rfl ?_
      refine ex_iload dX5_readEquations_69 rfl ?_
      refine ex_iorN dX5_readEquations_71 ?_
      refine ex_cV (ν := m_Row_set) (a := 30) (ci := 6) (as := [.int (nI (k)), .int (nI (0 ||| 0))]) dX5_readEquations_72 ln_Rings_34 mf_Row_set rfl (l56 (by decide)) rfl rfl np_Row_set rfl rfl ⟨(Nat.le_of_ble_eq_true rfl), (Nat.le_of_ble_eq_true rfl), (Nat.le_of_ble_eq_true rfl), (Nat.le_of_ble_eq_true rfl)⟩ (by decide) ?_
      refine sp_Row_set (r := 30) (c := 31) rfl rfl rfl (l56 (by decide)) (l56 (by decide)) (by omega) ?_
      refine ⟨_, rfl, ?_⟩
      refine ex_iincN (L' := [some (.ref (27)), some (.int (nI (r))), some (.int (nI (k + 1))), some (.int (w)), some (.int (nI (0))), some (.int (nI (0)))]) dX5_readEquations_75 rfl rfl (by decide) rfl ?_
      refine ex_goto (tgt := 2) dX5_readEquations_78 (by decide) ?_
      exact ex_less (L' := [some (.ref 27), some (.int (nI r)), some (.int (nI (k + 1))), none, none, none]) (by simp [xSub]) (ih (k + 1) _ (by omega) (hf.U (by decide)) (fun p hp => hH2 _ rfl p hp))
theorem sp_Rings_readEquations {r : Nat} (sc : SC i) (es : ES i op xp yp) (hr : r < 14) (hQ : ∀ i1, Fr [31] i i1 → Vw i1 31 15 (fun p => eqm op xp yp (r * 15 + p)) → Q (.ok none) (56 + ζ, g, i1, q, RT t)) : Wx m_Rings_readEquations 0 [some (.ref 27), some (.int (nI r)), none, none, none, none] [] (56 + ζ, g, i, q, RT t) (0, 0) Q := by
  refine ex_iconst (v := nI 0) dX5_readEquations_0 (by decide) ?_
  refine ex_istore_n (L' := [some (.ref (27)), some (.int (nI (r))), some (.int (nI (0))), none, none, none]) dX5_readEquations_1 (i := 2) rfl (by decide) rfl ?_
  exact lp_Rings_readEquations sc es hr hQ 15 0 i (by omega) Fr.rf (fun p hp => by omega)
theorem lp_Rings_passOn {x : Nat} {H : Nat → Nat} (hx : x < 15) (hb : ∀ p, p < 15 → H p < 2 ^ 15) (hQ : ∀ i1, Fr [31] i i1 → Vw i1 31 15 (psN x H) → Q (.ok none) (56 + ζ, g, i1, q, RT t)) :
    ∀ d k i1, k + d = 15 → Fr [31] i i1 → Vw i1 31 15 (fun p => if p < k then psN x H p else H p) → Wx m_Rings_passOn 2 [some (.ref 27), some (.int (nI x)), some (.int (nI k))] [] (56 + ζ, g, i1, q, RT t) (0, 0) Q := by
  intro d
  induction d with
  | zero =>
    intro k i1 hk hf hH
    have e : k = 15 := by omega
    subst e
    refine ex_iload_n (i := 2) dX5_passOn_2 rfl rfl ?_
    refine ex_bipush (v := nI 15) dX5_passOn_3 (by decide) ?_
    refine ex_icmp_geN (tgt := 48) dX5_passOn_5 (by decide) (by decide) (by decide) (fun h5 => ?_) (fun h5 => by exact absurd h5 (by decide))
    refine ex_ret dX5_passOn_48 rfl ?_
    exact hQ i1 hf (fun p hp => by have := hH p hp; simp only [hp, if_true] at this; exact this)
  | succ d ih =>
    intro k i1 hk hf hH
    have hk15 : k < 15 := by omega
    have hbk : ∀ p, p < 15 → (if p < k then psN x H p else H p) < 2 ^ 15 := fun p hp => by
      split
      · exact psN_lt hx hb p hp
      · exact hb p hp
    have ek : (if k < k then psN x H k else H k) = H k := by rw [if_neg (Nat.lt_irrefl k)]
    have hpx : psN x H x = H x := by
      unfold psN
      split
      · rw [Nat.or_self]
      · rfl
    have ex : (if x < k then psN x H x else H x) = H x := by
      split
      · exact hpx
      · rfl
    have hvk : i1 31 k = nI (H k) := (hH k hk15).trans (congrArg nI ek)
    have hvx : i1 31 x = nI (H x) := (hH x hx).trans (congrArg nI ex)
    have hlk := hb k hk15
    have hlx := hb x hx
    by_cases hp : (H k).testBit x = true
    · have hps : psN x H k = H k ||| H x := by unfold psN; rw [if_pos hp]
      have hH2 : Vw (xU i1 31 k (nI (H k ||| H x))) 31 15 (fun p => if p < k + 1 then psN x H p else H p) := by
        intro p hpp
        rw [xU_at]; unfold upd
        by_cases e : p = k
        · subst e; rw [if_pos rfl]; show _ = nI (if p < p + 1 then psN x H p else H p); rw [if_pos (Nat.lt_succ_self p), hps]
        · rw [if_neg e, hH p hpp]
          show nI (if p < k then _ else _) = nI (if p < k + 1 then _ else _)
          have : (p < k + 1) ↔ p < k := by omega
          simp only [this]
      refine ex_iload_n (i := 2) dX5_passOn_2 rfl rfl ?_
      refine ex_bipush (v := nI 15) dX5_passOn_3 (by decide) ?_
      refine ex_icmp_geN (tgt := 48) dX5_passOn_5 (by decide) (by omega) (by omega) (fun h5 => by omega) (fun h5 => ?_)
      refine ex_aload_n (i := 0) dX5_passOn_8 rfl rfl ?_
      refine ex_iload_n (i := 2) dX5_passOn_9 rfl rfl ?_
      refine ex_iload_n (i := 1) dX5_passOn_10 rfl rfl ?_
      refine ex_cV (ν := m_Rings_hangsOn) (a := 27) (ci := 5) (as := [.int (nI (k)), .int (nI (x))]) dX5_passOn_11 ln_Rings_72 mf_Rings_hangsOn rfl (l56 (by decide)) rfl rfl np_Rings_hangsOn rfl rfl ⟨(Nat.le_of_ble_eq_true rfl), (Nat.le_of_ble_eq_true rfl), (Nat.le_of_ble_eq_true rfl), (Nat.le_of_ble_eq_true rfl)⟩ (by decide) ?_
      refine sp_Rings_hangsOn hk15 hx hH hbk ?_
      refine ⟨_, rfl, ?_⟩
      refine ex_if_eqN (tgt := 42) dX5_passOn_14 (by decide) (by rw [ek, if_pos hp]; decide) (fun h14 => by exact absurd h14 (by rw [ek, if_pos hp]; decide)) (fun h14 => ?_)
      refine ex_aload_n (i := 0) dX5_passOn_17 rfl rfl ?_
      refine ex_getR (v := .ref (30)) dX5_passOn_18 fl_Rings_24 rfl rfl (l56 (by decide)) rfl ?_
      refine ex_iload_n (i := 2) dX5_passOn_21 rfl rfl ?_
      refine ex_aload_n (i := 0) dX5_passOn_22 rfl rfl ?_
      refine ex_getR (v := .ref (30)) dX5_passOn_23 fl_Rings_24 rfl rfl (l56 (by decide)) rfl ?_
      refine ex_iload_n (i := 2) dX5_passOn_26 rfl rfl ?_
      refine ex_cV (ν := m_Row_get) (a := 30) (ci := 6) (as := [.int (nI (k))]) dX5_passOn_27 ln_Rings_60 mf_Row_get rfl (l56 (by decide)) rfl rfl np_Row_get rfl rfl ⟨(Nat.le_of_ble_eq_true rfl), (Nat.le_of_ble_eq_true rfl), (Nat.le_of_ble_eq_true rfl), (Nat.le_of_ble_eq_true rfl)⟩ (by decide) ?_
      refine sp_Row_get (r := 30) (c := 31) rfl rfl rfl (l56 (by decide)) (l56 (by decide)) (by omega) ?_
      refine ⟨_, rfl, ?_⟩
      refine ex_asN (a := H k) hvk ?_
      refine ex_aload_n (i := 0) dX5_passOn_30 rfl rfl ?_
      refine ex_getR (v := .ref (30)) dX5_passOn_31 fl_Rings_24 rfl rfl (l56 (by decide)) rfl ?_
      refine ex_iload_n (i := 1) dX5_passOn_34 rfl rfl ?_
      refine ex_cV (ν := m_Row_get) (a := 30) (ci := 6) (as := [.int (nI (x))]) dX5_passOn_35 ln_Rings_60 mf_Row_get rfl (l56 (by decide)) rfl rfl np_Row_get rfl rfl ⟨(Nat.le_of_ble_eq_true rfl), (Nat.le_of_ble_eq_true rfl), (Nat.le_of_ble_eq_true rfl), (Nat.le_of_ble_eq_true rfl)⟩ (by decide) ?_
      refine sp_Row_get (r := 30) (c := 31) rfl rfl rfl (l56 (by decide)) (l56 (by decide)) (by omega) ?_
      refine ⟨_, rfl, ?_⟩
      refine ex_asN (a := H x) hvx ?_
      refine ex_iorN dX5_passOn_38 ?_
      refine ex_cV (ν := m_Row_set) (a := 30) (ci := 6) (as := [.int (nI (k)), .int (nI ((H k) ||| (H x)))]) dX5_passOn_39 ln_Rings_34 mf_Row_set rfl (l56 (by decide)) rfl rfl np_Row_set rfl rfl ⟨(Nat.le_of_ble_eq_true rfl), (Nat.le_of_ble_eq_true rfl), (Nat.le_of_ble_eq_true rfl), (Nat.le_of_ble_eq_true rfl)⟩ (by decide) ?_
      refine sp_Row_set (r := 30) (c := 31) rfl rfl rfl (l56 (by decide)) (l56 (by decide)) (by omega) ?_
      refine ⟨_, rfl, ?_⟩
      refine ex_iincN (L' := [some (.ref (27)), some (.int (nI (x))), some (.int (nI (k + 1)))]) dX5_passOn_42 rfl rfl (by decide) rfl ?_
      refine ex_goto (tgt := 2) dX5_passOn_45 (by decide) ?_
      exact ih (k + 1) _ (by omega) (hf.U (by decide)) hH2
    · have hps : psN x H k = H k := by unfold psN; rw [if_neg hp]
      have hH2 : Vw i1 31 15 (fun p => if p < k + 1 then psN x H p else H p) := by
        intro p hpp
        rw [hH p hpp]
        by_cases e : p = k
        · subst e
          show nI (if p < p then _ else _) = nI (if p < p + 1 then _ else _)
          rw [if_neg (Nat.lt_irrefl p), if_pos (Nat.lt_succ_self p), hps]
        · show nI (if p < k then _ else _) = nI (if p < k + 1 then _ else _)
          have : (p < k + 1) ↔ p < k := by omega
          simp only [this]
      refine ex_iload_n (i := 2) dX5_passOn_2 rfl rfl ?_
      refine ex_bipush (v := nI 15) dX5_passOn_3 (by decide) ?_
      refine ex_icmp_geN (tgt := 48) dX5_passOn_5 (by decide) (by omega) (by omega) (fun h5 => by omega) (fun h5 => ?_)
      refine ex_aload_n (i := 0) dX5_passOn_8 rfl rfl ?_
      refine ex_iload_n (i := 2) dX5_passOn_9 rfl rfl ?_
      refine ex_iload_n (i := 1) dX5_passOn_10 rfl rfl ?_
      refine ex_cV (ν := m_Rings_hangsOn) (a := 27) (ci := 5) (as := [.int (nI (k)), .int (nI (x))]) dX5_passOn_11 ln_Rings_72 mf_Rings_hangsOn rfl (l56 (by decide)) rfl rfl np_Rings_hangsOn rfl rfl ⟨(Nat.le_of_ble_eq_true rfl), (Nat.le_of_ble_eq_true rfl), (Nat.le_of_ble_eq_true rfl), (Nat.le_of_ble_eq_true rfl)⟩ (by decide) ?_
      refine sp_Rings_hangsOn hk15 hx hH hbk ?_
      refine ⟨_, rfl, ?_⟩
      refine ex_if_eqN (tgt := 42) dX5_passOn_14 (by decide) (by rw [ek, if_neg hp]; decide) (fun h14 => ?_) (fun h14 => by exact absurd (by rw [ek, if_neg hp]) h14)
      refine ex_iincN (L' := [some (.ref (27)), some (.int (nI (x))), some (.int (nI (k + 1)))]) dX5_passOn_42 rfl rfl (by decide) rfl ?_
      refine ex_goto (tgt := 2) dX5_passOn_45 (by decide) ?_
      exact ih (k + 1) _ (by omega) hf hH2
theorem sp_Rings_passOn {x : Nat} {H : Nat → Nat} (hx : x < 15) (hH : Vw i 31 15 H) (hb : ∀ p, p < 15 → H p < 2 ^ 15) (hQ : ∀ i1, Fr [31] i i1 → Vw i1 31 15 (psN x H) → Q (.ok none) (56 + ζ, g, i1, q, RT t)) : Wx m_Rings_passOn 0 [some (.ref 27), some (.int (nI x)), none] [] (56 + ζ, g, i, q, RT t) (0, 0) Q := by
  refine ex_iconst (v := nI 0) dX5_passOn_0 (by decide) ?_
  refine ex_istore_n (L' := [some (.ref (27)), some (.int (nI (x))), some (.int (nI (0)))]) dX5_passOn_1 (i := 2) rfl (by decide) rfl ?_
  exact lp_Rings_passOn hx hb hQ 15 0 i (by omega) Fr.rf (fun p hp => by rw [hH p hp]; rfl)
end S32
