/-! ===== Evaluator: what is missing for a slot, what it comes to ===== -/
def msI (op xp yp rl : Nat → Nat) (ch : Nat → Nat → Nat) (kn : Nat → Nat) (o : Option (Nat × Nat)) : Int32 := if 2 ≤ opS op rl o ∧ kn (arS xp rl ch o) = 0 then nI (arS xp rl ch o) else if 3 ≤ opS op rl o ∧ kn (arS yp rl ch o) = 0 then nI (arS yp rl ch o) else -1
section S40
variable {ζ g : Nat} {i : Nat → Nat → Int32} {q : Nat → Nat → Int64} {t : Bool} {Q : xRes → xMem → Prop} {n md : Nat} {sy : Nat → Nat → Nat} {nd : Nat → Int32} {tb : Nat → Bool} {rl : Nat → Nat} {pa : Nat → Option (Nat × Nat)} {ch : Nat → Nat → Nat} {op xp yp : Nat → Nat}
theorem sp_Grammar_operationAt_neg {k : Nat} (sc : SC i) (hQ : Q (.ok (some (.int (-1)))) (56 + ζ, g, i, q, RT t)) : Wx m_Grammar_operationAt 0 [some (.ref 1), some (.int (-1)), some (.int (nI k))] [] (56 + ζ, g, i, q, RT t) (0, 0) Q := by
  refine ex_aload_n (i := 0) dX1_operationAt_0 rfl rfl ?_
  refine ex_getR (v := .ref (10)) dX1_operationAt_1 fl_Grammar_35 rfl rfl (l56 (by decide)) rfl ?_
  refine ex_iload_n (i := 1) dX1_operationAt_4 rfl rfl ?_
  refine ex_iload_n (i := 2) dX1_operationAt_5 rfl rfl ?_
  refine ex_cV (ν := m_Grid_get) (a := 10) (ci := 2) (as := [.int ((-1)), .int (nI (k))]) dX1_operationAt_6 ln_Grammar_62 mf_Grid_get rfl (l56 (by decide)) rfl rfl np_Grid_get rfl rfl ⟨(Nat.le_of_ble_eq_true rfl), (Nat.le_of_ble_eq_true rfl), (Nat.le_of_ble_eq_true rfl), (Nat.le_of_ble_eq_true rfl)⟩ (by decide) ?_
  refine sp_Grid_get_out (r := 10) (c := 11) rfl rfl rfl (l56 (by decide)) (l56 (by decide)) (sc_10_0 sc) (sc_10_1 sc) rfl (Or.inl (by decide)) ?_
  refine ⟨_, rfl, ?_⟩
  refine ex_iconst (v := nI 1) dX1_operationAt_9 (by decide) ?_
  refine ex_isub dX1_operationAt_10 ?_
  refine ex_iret dX1_operationAt_11 rfl rfl ?_
  exact hQ
theorem arS_lt (ev : EV n sy op xp yp) (hw : TW n sy md nd tb rl pa ch) {s c p : Nat} (hs : s < 3 * md) (hb : tb (s / 3) = false) (h : sCx pa s = some (c, p)) : (2 ≤ op (rl c * 15 + p) → xp (rl c * 15 + p) / 3 ≤ lnR sy (rl c) ∧ sSl ch c (xp (rl c * 15 + p)) < 3 * md) ∧ (2 ≤ op (rl c * 15 + p) → yp (rl c * 15 + p) / 3 ≤ lnR sy (rl c) ∧ sSl ch c (yp (rl c * 15 + p)) < 3 * md) := by
  have hc := sCx_ok hw hs hb h
  have hr := ((hw.2 c hc.1).2.1 hc.2.1).2.1
  have e := ev (rl c) p hr hc.2.2
  refine ⟨fun h2 => ⟨e.1 h2, sSl_lt hw hc.1 hc.2.1 (e.1 h2)⟩, fun h2 => ?_⟩
  have hy : yp (rl c * 15 + p) / 3 ≤ lnR sy (rl c) := by
    by_cases h3 : 3 ≤ op (rl c * 15 + p)
    · exact e.2.1 h3
    · rw [e.2.2 (by omega)]; exact Nat.zero_le _
  exact ⟨hy, sSl_lt hw hc.1 hc.2.1 hy⟩
theorem nI_m1' {a : Nat} (h : 1 ≤ a) : nI a - nI 1 = nI (a - 1) := by
  obtain ⟨b, rfl⟩ : ∃ b, a = b + 1 := ⟨a - 1, by omega⟩
  exact nI_pred b
theorem sp_Evaluator_missingFor_46 {s : Nat} {kn : Nat → Nat} (hn : n ≤ 14) (sc : SC i) (es : ES i op xp yp) (ev : EV n sy op xp yp) (hF : i 48 = nd) (hw : TW n sy md nd tb rl pa ch) (hs : s < 3 * md) (hb : tb (s / 3) = false) (hk : ∀ j, j < 3 * md → i 43 j = nI (kn j) ∧ kn j ≤ 1) (hQ : Q (.ok (some (.int (msI op xp yp rl ch kn (sCx pa s))))) (56 + ζ, g, i, q, RT t)) : Wx m_Evaluator_missingFor 0 [some (.ref 41), some (.ref 46), some (.int (nI s)), none, none, none, none, none] [] (56 + ζ, g, i, q, RT t) (0, 0) Q := by
  have h150 := hw.1
  cases h : sCx pa s with
  | none =>
    rw [h] at hQ
    refine ex_aload_n (i := 1) dX0_missingFor_0 rfl rfl ?_
    refine ex_iload_n (i := 2) dX0_missingFor_1 rfl rfl ?_
    refine ex_cS (ν := m_Evaluator_contextOf) (as := [.ref (46), .int (nI (s))]) dX0_missingFor_2 ln_Evaluator_69 mf_Evaluator_contextOf np_Evaluator_contextOf rfl rfl ⟨(Nat.le_of_ble_eq_true rfl), (Nat.le_of_ble_eq_true rfl), (Nat.le_of_ble_eq_true rfl), (Nat.le_of_ble_eq_true rfl)⟩ (by decide) ?_
    refine sp_Evaluator_contextOf_46 sc hF hw hs ?_
    refine ⟨_, rfl, ?_⟩
    refine ex_asI (y := -1) (by rw [h]; rfl) ?_
    refine ex_istore_n (L' := [some (.ref (41)), some (.ref (46)), some (.int (nI (s))), some (.int ((-1))), none, none, none, none]) dX0_missingFor_5 (i := 3) rfl (by decide) rfl ?_
    refine ex_aload_n (i := 1) dX0_missingFor_6 rfl rfl ?_
    refine ex_iload_n (i := 3) dX0_missingFor_7 rfl rfl ?_
    refine ex_cS (ν := m_Evaluator_ruleOf) (as := [.ref (46), .int ((-1))]) dX0_missingFor_8 ln_Evaluator_72 mf_Evaluator_ruleOf np_Evaluator_ruleOf rfl rfl ⟨(Nat.le_of_ble_eq_true rfl), (Nat.le_of_ble_eq_true rfl), (Nat.le_of_ble_eq_true rfl), (Nat.le_of_ble_eq_true rfl)⟩ (by decide) ?_
    refine sp_Evaluator_ruleOf_46 (s := s) (by rw [h]; rfl) sc hF hw hs hb ?_
    refine ⟨_, rfl, ?_⟩
    refine ex_asI (y := -1) (by rw [h]; rfl) ?_
    refine ex_istore (L' := [some (.ref (41)), some (.ref (46)), some (.int (nI (s))), some (.int ((-1))), some (.int ((-1))), none, none, none]) dX0_missingFor_11 (by decide) rfl ?_
    refine ex_aload_n (i := 1) dX0_missingFor_13 rfl rfl ?_
    refine ex_iload_n (i := 2) dX0_missingFor_14 rfl rfl ?_
    refine ex_cS (ν := m_Evaluator_placeOf) (as := [.ref (46), .int (nI (s))]) dX0_missingFor_15 ln_Evaluator_75 mf_Evaluator_placeOf np_Evaluator_placeOf rfl rfl ⟨(Nat.le_of_ble_eq_true rfl), (Nat.le_of_ble_eq_true rfl), (Nat.le_of_ble_eq_true rfl), (Nat.le_of_ble_eq_true rfl)⟩ (by decide) ?_
    refine sp_Evaluator_placeOf_46 sc hF hw hs ?_
    refine ⟨_, rfl, ?_⟩
    refine ex_asN (a := 2) (by rw [h]; rfl) ?_
    refine ex_istore (L' := [some (.ref (41)), some (.ref (46)), some (.int (nI (s))), some (.int ((-1))), some (.int ((-1))), some (.int (nI (2))), none, none]) dX0_missingFor_18 (by decide) rfl ?_
    refine ex_aload_n (i := 0) dX0_missingFor_20 rfl rfl ?_
    refine ex_getR (v := .ref (1)) dX0_missingFor_21 fl_Evaluator_9 rfl rfl (l56 (by decide)) rfl ?_
    refine ex_iload dX0_missingFor_24 rfl ?_
    refine ex_iload dX0_missingFor_26 rfl ?_
    refine ex_cV (ν := m_Grammar_operationAt) (a := 1) (ci := 1) (as := [.int ((-1)), .int (nI (2))]) dX0_missingFor_28 ln_Evaluator_78 mf_Grammar_operationAt rfl (l56 (by decide)) rfl rfl np_Grammar_operationAt rfl rfl ⟨(Nat.le_of_ble_eq_true rfl), (Nat.le_of_ble_eq_true rfl), (Nat.le_of_ble_eq_true rfl), (Nat.le_of_ble_eq_true rfl)⟩ (by decide) ?_
    refine sp_Grammar_operationAt_neg sc ?_
    refine ⟨_, rfl, ?_⟩
    refine ex_istore (L' := [some (.ref (41)), some (.ref (46)), some (.int (nI (s))), some (.int ((-1))), some (.int ((-1))), some (.int (nI (2))), some (.int ((-1))), none]) dX0_missingFor_31 (by decide) rfl ?_
    refine ex_iload dX0_missingFor_33 rfl ?_
    refine ex_iconst (v := nI 1) dX0_missingFor_35 (by decide) ?_
    refine ex_icmp_lt (tgt := 72) dX0_missingFor_36 (by decide) (fun h36 => ?_) (fun h36 => by exact absurd (by decide) h36)
    refine ex_iload dX0_missingFor_72 rfl ?_
    refine ex_iconst (v := nI 2) dX0_missingFor_74 (by decide) ?_
    refine ex_icmp_lt (tgt := 111) dX0_missingFor_75 (by decide) (fun h75 => ?_) (fun h75 => by exact absurd (by decide) h75)
    refine ex_iconst (v := -1) dX0_missingFor_111 (by decide) ?_
    refine ex_iret dX0_missingFor_112 rfl rfl ?_
    exact hQ
  | some v =>
    obtain ⟨c, p⟩ := v
    rw [h] at hQ
    have hc := sCx_ok hw hs hb h
    have hr := ((hw.2 c hc.1).2.1 hc.2.1).2.1
    have ha := arS_lt ev hw hs hb h
    obtain ⟨o, ho⟩ : ∃ o, op (rl c * 15 + p) = o := ⟨_, rfl⟩
    have ho8 : o ≤ 8 := by rw [← ho]; exact es.2.2.2.1 _
    rw [ho] at ha
    have e : opS op rl (some (c, p)) = o := ho
    have ex : arS xp rl ch (some (c, p)) = sSl ch c (xp (rl c * 15 + p)) := rfl
    have ey : arS yp rl ch (some (c, p)) = sSl ch c (yp (rl c * 15 + p)) := rfl
    unfold msI at hQ
    rw [e, ex, ey] at hQ
    by_cases o0 : o = 0
    · subst o0
      rw [if_neg (fun z => absurd z.1 (by decide)), if_neg (fun z => absurd z.1 (by decide))] at hQ
      refine ex_aload_n (i := 1) dX0_missingFor_0 rfl rfl ?_
      refine ex_iload_n (i := 2) dX0_missingFor_1 rfl rfl ?_
      refine ex_cS (ν := m_Evaluator_contextOf) (as := [.ref (46), .int (nI (s))]) dX0_missingFor_2 ln_Evaluator_69 mf_Evaluator_contextOf np_Evaluator_contextOf rfl rfl ⟨(Nat.le_of_ble_eq_true rfl), (Nat.le_of_ble_eq_true rfl), (Nat.le_of_ble_eq_true rfl), (Nat.le_of_ble_eq_true rfl)⟩ (by decide) ?_
      refine sp_Evaluator_contextOf_46 sc hF hw hs ?_
      refine ⟨_, rfl, ?_⟩
      refine ex_asN (a := c) (by rw [h]; rfl) ?_
      refine ex_istore_n (L' := [some (.ref (41)), some (.ref (46)), some (.int (nI (s))), some (.int (nI (c))), none, none, none, none]) dX0_missingFor_5 (i := 3) rfl (by decide) rfl ?_
      refine ex_aload_n (i := 1) dX0_missingFor_6 rfl rfl ?_
      refine ex_iload_n (i := 3) dX0_missingFor_7 rfl rfl ?_
      refine ex_cS (ν := m_Evaluator_ruleOf) (as := [.ref (46), .int (nI (c))]) dX0_missingFor_8 ln_Evaluator_72 mf_Evaluator_ruleOf np_Evaluator_ruleOf rfl rfl ⟨(Nat.le_of_ble_eq_true rfl), (Nat.le_of_ble_eq_true rfl), (Nat.le_of_ble_eq_true rfl), (Nat.le_of_ble_eq_true rfl)⟩ (by decide) ?_
      refine sp_Evaluator_ruleOf_46 (s := s) (by rw [h]; rfl) sc hF hw hs hb ?_
      refine ⟨_, rfl, ?_⟩
      refine ex_asN (a := rl c) (by rw [h]; rfl) ?_
      refine ex_istore (L' := [some (.ref (41)), some (.ref (46)), some (.int (nI (s))), some (.int (nI (c))), some (.int (nI (rl c))), none, none, none]) dX0_missingFor_11 (by decide) rfl ?_
      refine ex_aload_n (i := 1) dX0_missingFor_13 rfl rfl ?_
      refine ex_iload_n (i := 2) dX0_missingFor_14 rfl rfl ?_
      refine ex_cS (ν := m_Evaluator_placeOf) (as := [.ref (46), .int (nI (s))]) dX0_missingFor_15 ln_Evaluator_75 mf_Evaluator_placeOf np_Evaluator_placeOf rfl rfl ⟨(Nat.le_of_ble_eq_true rfl), (Nat.le_of_ble_eq_true rfl), (Nat.le_of_ble_eq_true rfl), (Nat.le_of_ble_eq_true rfl)⟩ (by decide) ?_
      refine sp_Evaluator_placeOf_46 sc hF hw hs ?_
      refine ⟨_, rfl, ?_⟩
      refine ex_asN (a := p) (by rw [h]; rfl) ?_
      refine ex_istore (L' := [some (.ref (41)), some (.ref (46)), some (.int (nI (s))), some (.int (nI (c))), some (.int (nI (rl c))), some (.int (nI (p))), none, none]) dX0_missingFor_18 (by decide) rfl ?_
      refine ex_aload_n (i := 0) dX0_missingFor_20 rfl rfl ?_
      refine ex_getR (v := .ref (1)) dX0_missingFor_21 fl_Evaluator_9 rfl rfl (l56 (by decide)) rfl ?_
      refine ex_iload dX0_missingFor_24 rfl ?_
      refine ex_iload dX0_missingFor_26 rfl ?_
      refine ex_cV (ν := m_Grammar_operationAt) (a := 1) (ci := 1) (as := [.int (nI (rl c)), .int (nI (p))]) dX0_missingFor_28 ln_Evaluator_78 mf_Grammar_operationAt rfl (l56 (by decide)) rfl rfl np_Grammar_operationAt rfl rfl ⟨(Nat.le_of_ble_eq_true rfl), (Nat.le_of_ble_eq_true rfl), (Nat.le_of_ble_eq_true rfl), (Nat.le_of_ble_eq_true rfl)⟩ (by decide) ?_
      refine sp_Grammar_operationAt sc (by omega) hc.2.2 ?_
      refine ⟨_, rfl, ?_⟩
      refine ex_asI (y := -1) (by rw [es.1 _ (by omega), ho]; rfl) ?_
      refine ex_istore (L' := [some (.ref (41)), some (.ref (46)), some (.int (nI (s))), some (.int (nI (c))), some (.int (nI (rl c))), some (.int (nI (p))), some (.int ((-1))), none]) dX0_missingFor_31 (by decide) rfl ?_
      refine ex_iload dX0_missingFor_33 rfl ?_
      refine ex_iconst (v := nI 1) dX0_missingFor_35 (by decide) ?_
      refine ex_icmp_lt (tgt := 72) dX0_missingFor_36 (by decide) (fun h36 => ?_) (fun h36 => by exact absurd (by decide) h36)
      refine ex_iload dX0_missingFor_72 rfl ?_
      refine ex_iconst (v := nI 2) dX0_missingFor_74 (by decide) ?_
      refine ex_icmp_lt (tgt := 111) dX0_missingFor_75 (by decide) (fun h75 => ?_) (fun h75 => by exact absurd (by decide) h75)
      refine ex_iconst (v := -1) dX0_missingFor_111 (by decide) ?_
      refine ex_iret dX0_missingFor_112 rfl rfl ?_
      exact hQ
    · by_cases o1 : o = 1
      · subst o1
        rw [if_neg (fun z => absurd z.1 (by decide)), if_neg (fun z => absurd z.1 (by decide))] at hQ
        refine ex_aload_n (i := 1) dX0_missingFor_0 rfl rfl ?_
        refine ex_iload_n (i := 2) dX0_missingFor_1 rfl rfl ?_
        refine ex_cS (ν := m_Evaluator_contextOf) (as := [.ref (46), .int (nI (s))]) dX0_missingFor_2 ln_Evaluator_69 mf_Evaluator_contextOf np_Evaluator_contextOf rfl rfl ⟨(Nat.le_of_ble_eq_true rfl), (Nat.le_of_ble_eq_true rfl), (Nat.le_of_ble_eq_true rfl), (Nat.le_of_ble_eq_true rfl)⟩ (by decide) ?_
        refine sp_Evaluator_contextOf_46 sc hF hw hs ?_
        refine ⟨_, rfl, ?_⟩
        refine ex_asN (a := c) (by rw [h]; rfl) ?_
        refine ex_istore_n (L' := [some (.ref (41)), some (.ref (46)), some (.int (nI (s))), some (.int (nI (c))), none, none, none, none]) dX0_missingFor_5 (i := 3) rfl (by decide) rfl ?_
        refine ex_aload_n (i := 1) dX0_missingFor_6 rfl rfl ?_
        refine ex_iload_n (i := 3) dX0_missingFor_7 rfl rfl ?_
        refine ex_cS (ν := m_Evaluator_ruleOf) (as := [.ref (46), .int (nI (c))]) dX0_missingFor_8 ln_Evaluator_72 mf_Evaluator_ruleOf np_Evaluator_ruleOf rfl rfl ⟨(Nat.le_of_ble_eq_true rfl), (Nat.le_of_ble_eq_true rfl), (Nat.le_of_ble_eq_true rfl), (Nat.le_of_ble_eq_true rfl)⟩ (by decide) ?_
        refine sp_Evaluator_ruleOf_46 (s := s) (by rw [h]; rfl) sc hF hw hs hb ?_
        refine ⟨_, rfl, ?_⟩
        refine ex_asN (a := rl c) (by rw [h]; rfl) ?_
        refine ex_istore (L' := [some (.ref (41)), some (.ref (46)), some (.int (nI (s))), some (.int (nI (c))), some (.int (nI (rl c))), none, none, none]) dX0_missingFor_11 (by decide) rfl ?_
        refine ex_aload_n (i := 1) dX0_missingFor_13 rfl rfl ?_
        refine ex_iload_n (i := 2) dX0_missingFor_14 rfl rfl ?_
        refine ex_cS (ν := m_Evaluator_placeOf) (as := [.ref (46), .int (nI (s))]) dX0_missingFor_15 ln_Evaluator_75 mf_Evaluator_placeOf np_Evaluator_placeOf rfl rfl ⟨(Nat.le_of_ble_eq_true rfl), (Nat.le_of_ble_eq_true rfl), (Nat.le_of_ble_eq_true rfl), (Nat.le_of_ble_eq_true rfl)⟩ (by decide) ?_
        refine sp_Evaluator_placeOf_46 sc hF hw hs ?_
        refine ⟨_, rfl, ?_⟩
        refine ex_asN (a := p) (by rw [h]; rfl) ?_
        refine ex_istore (L' := [some (.ref (41)), some (.ref (46)), some (.int (nI (s))), some (.int (nI (c))), some (.int (nI (rl c))), some (.int (nI (p))), none, none]) dX0_missingFor_18 (by decide) rfl ?_
        refine ex_aload_n (i := 0) dX0_missingFor_20 rfl rfl ?_
        refine ex_getR (v := .ref (1)) dX0_missingFor_21 fl_Evaluator_9 rfl rfl (l56 (by decide)) rfl ?_
        refine ex_iload dX0_missingFor_24 rfl ?_
        refine ex_iload dX0_missingFor_26 rfl ?_
        refine ex_cV (ν := m_Grammar_operationAt) (a := 1) (ci := 1) (as := [.int (nI (rl c)), .int (nI (p))]) dX0_missingFor_28 ln_Evaluator_78 mf_Grammar_operationAt rfl (l56 (by decide)) rfl rfl np_Grammar_operationAt rfl rfl ⟨(Nat.le_of_ble_eq_true rfl), (Nat.le_of_ble_eq_true rfl), (Nat.le_of_ble_eq_true rfl), (Nat.le_of_ble_eq_true rfl)⟩ (by decide) ?_
        refine sp_Grammar_operationAt sc (by omega) hc.2.2 ?_
        refine ⟨_, rfl, ?_⟩
        refine ex_asN (a := 0) (by rw [es.1 _ (by omega), ho]; rfl) ?_
        refine ex_istore (L' := [some (.ref (41)), some (.ref (46)), some (.int (nI (s))), some (.int (nI (c))), some (.int (nI (rl c))), some (.int (nI (p))), some (.int (nI (0))), none]) dX0_missingFor_31 (by decide) rfl ?_
        refine ex_iload dX0_missingFor_33 rfl ?_
        refine ex_iconst (v := nI 1) dX0_missingFor_35 (by decide) ?_
        refine ex_icmp_ltN (tgt := 72) dX0_missingFor_36 (by decide) (by decide) (by decide) (fun h36 => ?_) (fun h36 => by exact absurd h36 (by decide))
        refine ex_iload dX0_missingFor_72 rfl ?_
        refine ex_iconst (v := nI 2) dX0_missingFor_74 (by decide) ?_
        refine ex_icmp_ltN (tgt := 111) dX0_missingFor_75 (by decide) (by decide) (by decide) (fun h75 => ?_) (fun h75 => by exact absurd h75 (by decide))
        refine ex_iconst (v := -1) dX0_missingFor_111 (by decide) ?_
        refine ex_iret dX0_missingFor_112 rfl rfl ?_
        exact hQ
      · have hx := ha.1 (by omega)
        have hy := ha.2 (by omega)
        have kx := hk _ hx.2
        have ky := hk _ hy.2
        by_cases c1 : kn (sSl ch c (xp (rl c * 15 + p))) = 0
        · rw [if_pos ⟨by omega, c1⟩] at hQ
          refine ex_aload_n (i := 1) dX0_missingFor_0 rfl rfl ?_
          refine ex_iload_n (i := 2) dX0_missingFor_1 rfl rfl ?_
          refine ex_cS (ν := m_Evaluator_contextOf) (as := [.ref (46), .int (nI (s))]) dX0_missingFor_2 ln_Evaluator_69 mf_Evaluator_contextOf np_Evaluator_contextOf rfl rfl ⟨(Nat.le_of_ble_eq_true rfl), (Nat.le_of_ble_eq_true rfl), (Nat.le_of_ble_eq_true rfl), (Nat.le_of_ble_eq_true rfl)⟩ (by decide) ?_
          refine sp_Evaluator_contextOf_46 sc hF hw hs ?_
          refine ⟨_, rfl, ?_⟩
          refine ex_asN (a := c) (by rw [h]; rfl) ?_
          refine ex_istore_n (L' := [some (.ref (41)), some (.ref (46)), some (.int (nI (s))), some (.int (nI (c))), none, none, none, none]) dX0_missingFor_5 (i := 3) rfl (by decide) rfl ?_
          refine ex_aload_n (i := 1) dX0_missingFor_6 rfl rfl ?_
          refine ex_iload_n (i := 3) dX0_missingFor_7 rfl rfl ?_
          refine ex_cS (ν := m_Evaluator_ruleOf) (as := [.ref (46), .int (nI (c))]) dX0_missingFor_8 ln_Evaluator_72 mf_Evaluator_ruleOf np_Evaluator_ruleOf rfl rfl ⟨(Nat.le_of_ble_eq_true rfl), (Nat.le_of_ble_eq_true rfl), (Nat.le_of_ble_eq_true rfl), (Nat.le_of_ble_eq_true rfl)⟩ (by decide) ?_
          refine sp_Evaluator_ruleOf_46 (s := s) (by rw [h]; rfl) sc hF hw hs hb ?_
          refine ⟨_, rfl, ?_⟩
          refine ex_asN (a := rl c) (by rw [h]; rfl) ?_
          refine ex_istore (L' := [some (.ref (41)), some (.ref (46)), some (.int (nI (s))), some (.int (nI (c))), some (.int (nI (rl c))), none, none, none]) dX0_missingFor_11 (by decide) rfl ?_
          refine ex_aload_n (i := 1) dX0_missingFor_13 rfl rfl ?_
          refine ex_iload_n (i := 2) dX0_missingFor_14 rfl rfl ?_
          refine ex_cS (ν := m_Evaluator_placeOf) (as := [.ref (46), .int (nI (s))]) dX0_missingFor_15 ln_Evaluator_75 mf_Evaluator_placeOf np_Evaluator_placeOf rfl rfl ⟨(Nat.le_of_ble_eq_true rfl), (Nat.le_of_ble_eq_true rfl), (Nat.le_of_ble_eq_true rfl), (Nat.le_of_ble_eq_true rfl)⟩ (by decide) ?_
          refine sp_Evaluator_placeOf_46 sc hF hw hs ?_
          refine ⟨_, rfl, ?_⟩
          refine ex_asN (a := p) (by rw [h]; rfl) ?_
          refine ex_istore (L' := [some (.ref (41)), some (.ref (46)), some (.int (nI (s))), some (.int (nI (c))), some (.int (nI (rl c))), some (.int (nI (p))), none, none]) dX0_missingFor_18 (by decide) rfl ?_
          refine ex_aload_n (i := 0) dX0_missingFor_20 rfl rfl ?_
          refine ex_getR (v := .ref (1)) dX0_missingFor_21 fl_Evaluator_9 rfl rfl (l56 (by decide)) rfl ?_
          refine ex_iload dX0_missingFor_24 rfl ?_
          refine ex_iload dX0_missingFor_26 rfl ?_
          refine ex_cV (ν := m_Grammar_operationAt) (a := 1) (ci := 1) (as := [.int (nI (rl c)), .int (nI (p))]) dX0_missingFor_28 ln_Evaluator_78 mf_Grammar_operationAt rfl (l56 (by decide)) rfl rfl np_Grammar_operationAt rfl rfl ⟨(Nat.le_of_ble_eq_true rfl), (Nat.le_of_ble_eq_true rfl), (Nat.le_of_ble_eq_true rfl), (Nat.le_of_ble_eq_true rfl)⟩ (by decide) ?_
          refine sp_Grammar_operationAt sc (by omega) hc.2.2 ?_
          refine ⟨_, rfl, ?_⟩
          refine ex_asN (a := o - 1) (by rw [es.1 _ (by omega), ho]; exact nI_m1' (by omega)) ?_
          refine ex_istore (L' := [some (.ref (41)), some (.ref (46)), some (.int (nI (s))), some (.int (nI (c))), some (.int (nI (rl c))), some (.int (nI (p))), some (.int (nI (o - 1))), none]) dX0_missingFor_31 (by decide) rfl ?_
          refine ex_iload dX0_missingFor_33 rfl ?_
          refine ex_iconst (v := nI 1) dX0_missingFor_35 (by decide) ?_
          refine ex_icmp_ltN (tgt := 72) dX0_missingFor_36 (by decide) (by omega) (by omega) (fun h36 => by omega) (fun h36 => ?_)
          refine ex_aload_n (i := 1) dX0_missingFor_39 rfl rfl ?_
          refine ex_iload_n (i := 3) dX0_missingFor_40 rfl rfl ?_
          refine ex_aload_n (i := 0) dX0_missingFor_41 rfl rfl ?_
          refine ex_getR (v := .ref (1)) dX0_missingFor_42 fl_Evaluator_9 rfl rfl (l56 (by decide)) rfl ?_
          refine ex_iload dX0_missingFor_45 rfl ?_
          refine ex_iload dX0_missingFor_47 rfl ?_
          refine ex_cV (ν := m_Grammar_xAt) (a := 1) (ci := 1) (as := [.int (nI (rl c)), .int (nI (p))]) dX0_missingFor_49 ln_Evaluator_83 mf_Grammar_xAt rfl (l56 (by decide)) rfl rfl np_Grammar_xAt rfl rfl ⟨(Nat.le_of_ble_eq_true rfl), (Nat.le_of_ble_eq_true rfl), (Nat.le_of_ble_eq_true rfl), (Nat.le_of_ble_eq_true rfl)⟩ (by decide) ?_
          refine sp_Grammar_xAt sc (by omega) (by omega) ?_
          refine ⟨_, rfl, ?_⟩
          refine ex_asN (a := xp (rl c * 15 + p)) (es.2.1 _ (by omega)) ?_
          refine ex_cS (ν := m_Evaluator_slotOf) (as := [.ref (46), .int (nI (c)), .int (nI (xp (rl c * 15 + p)))]) dX0_missingFor_52 ln_Evaluator_86 mf_Evaluator_slotOf np_Evaluator_slotOf rfl rfl ⟨(Nat.le_of_ble_eq_true rfl), (Nat.le_of_ble_eq_true rfl), (Nat.le_of_ble_eq_true rfl), (Nat.le_of_ble_eq_true rfl)⟩ (by decide) ?_
          refine sp_Evaluator_slotOf_46 sc hF hw hc.1 hc.2.1 hx.1 ?_
          refine ⟨_, rfl, ?_⟩
          refine ex_istore (L' := [some (.ref (41)), some (.ref (46)), some (.int (nI (s))), some (.int (nI (c))), some (.int (nI (rl c))), some (.int (nI (p))), some (.int (nI (o - 1))), some (.int (nI (sSl ch c (xp (rl c * 15 + p)))))]) dX0_missingFor_55 (by decide) rfl ?_
          refine ex_aload_n (i := 0) dX0_missingFor_57 rfl rfl ?_
          refine ex_getR (v := .ref (42)) dX0_missingFor_58 fl_Evaluator_20 rfl rfl (l56 (by decide)) rfl ?_
          refine ex_iload dX0_missingFor_61 rfl ?_
          refine ex_cV (ν := m_Row_get) (a := 42) (ci := 6) (as := [.int (nI (sSl ch c (xp (rl c * 15 + p))))]) dX0_missingFor_63 ln_Evaluator_41 mf_Row_get rfl (l56 (by decide)) rfl rfl np_Row_get rfl rfl ⟨(Nat.le_of_ble_eq_true rfl), (Nat.le_of_ble_eq_true rfl), (Nat.le_of_ble_eq_true rfl), (Nat.le_of_ble_eq_true rfl)⟩ (by decide) ?_
          refine sp_Row_get (r := 42) (c := 43) rfl rfl rfl (l56 (by decide)) (l56 (by decide)) (by omega) ?_
          refine ⟨_, rfl, ?_⟩
          refine ex_asN (a := kn (sSl ch c (xp (rl c * 15 + p)))) kx.1 ?_
          refine ex_if_neN (tgt := 72) dX0_missingFor_66 (by decide) (by omega) (fun h66 => by exact absurd c1 h66) (fun h66 => ?_)
          refine ex_iload dX0_missingFor_69 rfl ?_
          refine ex_iret dX0_missingFor_71 rfl rfl ?_
          exact hQ
        · rw [if_neg (fun z => absurd z.2 c1)] at hQ
          by_cases o2 : o = 2
          · rw [if_neg (by omega)] at hQ
            refine ex_aload_n (i := 1) dX0_missingFor_0 rfl rfl ?_
            refine ex_iload_n (i := 2) dX0_missingFor_1 rfl rfl ?_
            refine ex_cS (ν := m_Evaluator_contextOf) (as := [.ref (46), .int (nI (s))]) dX0_missingFor_2 ln_Evaluator_69 mf_Evaluator_contextOf np_Evaluator_contextOf rfl rfl ⟨(Nat.le_of_ble_eq_true rfl), (Nat.le_of_ble_eq_true rfl), (Nat.le_of_ble_eq_true rfl), (Nat.le_of_ble_eq_true rfl)⟩ (by decide) ?_
            refine sp_Evaluator_contextOf_46 sc hF hw hs ?_
            refine ⟨_, rfl, ?_⟩
            refine ex_asN (a := c) (by rw [h]; rfl) ?_
            refine ex_istore_n (L' := [some (.ref (41)), some (.ref (46)), some (.int (nI (s))), some (.int (nI (c))), none, none, none, none]) dX0_missingFor_5 (i := 3) rfl (by decide) rfl ?_
            refine ex_aload_n (i := 1) dX0_missingFor_6 rfl rfl ?_
            refine ex_iload_n (i := 3) dX0_missingFor_7 rfl rfl ?_
            refine ex_cS (ν := m_Evaluator_ruleOf) (as := [.ref (46), .int (nI (c))]) dX0_missingFor_8 ln_Evaluator_72 mf_Evaluator_ruleOf np_Evaluator_ruleOf rfl rfl ⟨(Nat.le_of_ble_eq_true rfl), (Nat.le_of_ble_eq_true rfl), (Nat.le_of_ble_eq_true rfl), (Nat.le_of_ble_eq_true rfl)⟩ (by decide) ?_
            refine sp_Evaluator_ruleOf_46 (s := s) (by rw [h]; rfl) sc hF hw hs hb ?_
            refine ⟨_, rfl, ?_⟩
            refine ex_asN (a := rl c) (by rw [h]; rfl) ?_
            refine ex_istore (L' := [some (.ref (41)), some (.ref (46)), some (.int (nI (s))), some (.int (nI (c))), some (.int (nI (rl c))), none, none, none]) dX0_missingFor_11 (by decide) rfl ?_
            refine ex_aload_n (i := 1) dX0_missingFor_13 rfl rfl ?_
            refine ex_iload_n (i := 2) dX0_missingFor_14 rfl rfl ?_
            refine ex_cS (ν := m_Evaluator_placeOf) (as := [.ref (46), .int (nI (s))]) dX0_missingFor_15 ln_Evaluator_75 mf_Evaluator_placeOf np_Evaluator_placeOf rfl rfl ⟨(Nat.le_of_ble_eq_true rfl), (Nat.le_of_ble_eq_true rfl), (Nat.le_of_ble_eq_true rfl), (Nat.le_of_ble_eq_true rfl)⟩ (by decide) ?_
            refine sp_Evaluator_placeOf_46 sc hF hw hs ?_
            refine ⟨_, rfl, ?_⟩
            refine ex_asN (a := p) (by rw [h]; rfl) ?_
            refine ex_istore (L' := [some (.ref (41)), some (.ref (46)), some (.int (nI (s))), some (.int (nI (c))), some (.int (nI (rl c))), some (.int (nI (p))), none, none]) dX0_missingFor_18 (by decide) rfl ?_
            refine ex_aload_n (i := 0) dX0_missingFor_20 rfl rfl ?_
            refine ex_getR (v := .ref (1)) dX0_missingFor_21 fl_Evaluator_9 rfl rfl (l56 (by decide)) rfl ?_
            refine ex_iload dX0_missingFor_24 rfl ?_
            refine ex_iload dX0_missingFor_26 rfl ?_
            refine ex_cV (ν := m_Grammar_operationAt) (a := 1) (ci := 1) (as := [.int (nI (rl c)), .int (nI (p))]) dX0_missingFor_28 ln_Evaluator_78 mf_Grammar_operationAt rfl (l56 (by decide)) rfl rfl np_Grammar_operationAt rfl rfl ⟨(Nat.le_of_ble_eq_true rfl), (Nat.le_of_ble_eq_true rfl), (Nat.le_of_ble_eq_true rfl), (Nat.le_of_ble_eq_true rfl)⟩ (by decide) ?_
            refine sp_Grammar_operationAt sc (by omega) hc.2.2 ?_
            refine ⟨_, rfl, ?_⟩
            refine ex_asN (a := o - 1) (by rw [es.1 _ (by omega), ho]; exact nI_m1' (by omega)) ?_
            refine ex_istore (L' := [some (.ref (41)), some (.ref (46)), some (.int (nI (s))), some (.int (nI (c))), some (.int (nI (rl c))), some (.int (nI (p))), some (.int (nI (o - 1))), none]) dX0_missingFor_31 (by decide) rfl ?_
            refine ex_iload dX0_missingFor_33 rfl ?_
            refine ex_iconst (v := nI 1) dX0_missingFor_35 (by decide) ?_
            refine ex_icmp_ltN (tgt := 72) dX0_missingFor_36 (by decide) (by omega) (by omega) (fun h36 => by omega) (fun h36 => ?_)
            refine ex_aload_n (i := 1) dX0_missingFor_39 rfl rfl ?_
            refine ex_iload_n (i := 3) dX0_missingFor_40 rfl rfl ?_
            refine ex_aload_n (i := 0) dX0_missingFor_41 rfl rfl ?_
            refine ex_getR (v := .ref (1)) dX0_missingFor_42 fl_Evaluator_9 rfl rfl (l56 (by decide)) rfl ?_
            refine ex_iload dX0_missingFor_45 rfl ?_
            refine ex_iload dX0_missingFor_47 rfl ?_
            refine ex_cV (ν := m_Grammar_xAt) (a := 1) (ci := 1) (as := [.int (nI (rl c)), .int (nI (p))]) dX0_missingFor_49 ln_Evaluator_83 mf_Grammar_xAt rfl (l56 (by decide)) rfl rfl np_Grammar_xAt rfl rfl ⟨(Nat.le_of_ble_eq_true rfl), (Nat.le_of_ble_eq_true rfl), (Nat.le_of_ble_eq_true rfl), (Nat.le_of_ble_eq_true rfl)⟩ (by decide) ?_
            refine sp_Grammar_xAt sc (by omega) (by omega) ?_
            refine ⟨_, rfl, ?_⟩
            refine ex_asN (a := xp (rl c * 15 + p)) (es.2.1 _ (by omega)) ?_
            refine ex_cS (ν := m_Evaluator_slotOf) (as := [.ref (46), .int (nI (c)), .int (nI (xp (rl c * 15 + p)))]) dX0_missingFor_52 ln_Evaluator_86 mf_Evaluator_slotOf np_Evaluator_slotOf rfl rfl ⟨(Nat.le_of_ble_eq_true rfl), (Nat.le_of_ble_eq_true rfl), (Nat.le_of_ble_eq_true rfl), (Nat.le_of_ble_eq_true rfl)⟩ (by decide) ?_
            refine sp_Evaluator_slotOf_46 sc hF hw hc.1 hc.2.1 hx.1 ?_
            refine ⟨_, rfl, ?_⟩
            refine ex_istore (L' := [some (.ref (41)), some (.ref (46)), some (.int (nI (s))), some (.int (nI (c))), some (.int (nI (rl c))), some (.int (nI (p))), some (.int (nI (o - 1))), some (.int (nI (sSl ch c (xp (rl c * 15 + p)))))]) dX0_missingFor_55 (by decide) rfl ?_
            refine ex_aload_n (i := 0) dX0_missingFor_57 rfl rfl ?_
            refine ex_getR (v := .ref (42)) dX0_missingFor_58 fl_Evaluator_20 rfl rfl (l56 (by decide)) rfl ?_
            refine ex_iload dX0_missingFor_61 rfl ?_
            refine ex_cV (ν := m_Row_get) (a := 42) (ci := 6) (as := [.int (nI (sSl ch c (xp (rl c * 15 + p))))]) dX0_missingFor_63 ln_Evaluator_41 mf_Row_get rfl (l56 (by decide)) rfl rfl np_Row_get rfl rfl ⟨(Nat.le_of_ble_eq_true rfl), (Nat.le_of_ble_eq_true rfl), (Nat.le_of_ble_eq_true rfl), (Nat.le_of_ble_eq_true rfl)⟩ (by decide) ?_
            refine sp_Row_get (r := 42) (c := 43) rfl rfl rfl (l56 (by decide)) (l56 (by decide)) (by omega) ?_
            refine ⟨_, rfl, ?_⟩
            refine ex_asN (a := kn (sSl ch c (xp (rl c * 15 + p)))) kx.1 ?_
            refine ex_if_neN (tgt := 72) dX0_missingFor_66 (by decide) (by omega) (fun h66 => ?_) (fun h66 => by exact absurd h66 c1)
            refine ex_iload dX0_missingFor_72 rfl ?_
            refine ex_iconst (v := nI 2) dX0_missingFor_74 (by decide) ?_
            refine ex_icmp_ltN (tgt := 111) dX0_missingFor_75 (by decide) (by omega) (by omega) (fun h75 => ?_) (fun h75 => by omega)
            refine ex_iconst (v := -1) dX0_missingFor_111 (by decide) ?_
            refine ex_iret dX0_missingFor_112 rfl rfl ?_
            exact hQ
          · by_cases c2 : kn (sSl ch c (yp (rl c * 15 + p))) = 0
            · rw [if_pos ⟨by omega, c2⟩] at hQ
              refine ex_aload_n (i := 1) dX0_missingFor_0 rfl rfl ?_
              refine ex_iload_n (i := 2) dX0_missingFor_1 rfl rfl ?_
              refine ex_cS (ν := m_Evaluator_contextOf) (as := [.ref (46), .int (nI (s))]) dX0_missingFor_2 ln_Evaluator_69 mf_Evaluator_contextOf np_Evaluator_contextOf rfl rfl ⟨(Nat.le_of_ble_eq_true rfl), (Nat.le_of_ble_eq_true rfl), (Nat.le_of_ble_eq_true rfl), (Nat.le_of_ble_eq_true rfl)⟩ (by decide) ?_
              refine sp_Evaluator_contextOf_46 sc hF hw hs ?_
              refine ⟨_, rfl, ?_⟩
              refine ex_asN (a := c) (by rw [h]; rfl) ?_
              refine ex_istore_n (L' := [some (.ref (41)), some (.ref (46)), some (.int (nI (s))), some (.int (nI (c))), none, none, none, none]) dX0_missingFor_5 (i := 3) rfl (by decide) rfl ?_
              refine ex_aload_n (i := 1) dX0_missingFor_6 rfl rfl ?_
              refine ex_iload_n (i := 3) dX0_missingFor_7 rfl rfl ?_
              refine ex_cS (ν := m_Evaluator_ruleOf) (as := [.ref (46), .int (nI (c))]) dX0_missingFor_8 ln_Evaluator_72 mf_Evaluator_ruleOf np_Evaluator_ruleOf rfl rfl ⟨(Nat.le_of_ble_eq_true rfl), (Nat.le_of_ble_eq_true rfl), (Nat.le_of_ble_eq_true rfl), (Nat.le_of_ble_eq_true rfl)⟩ (by decide) ?_
              refine sp_Evaluator_ruleOf_46 (s := s) (by rw [h]; rfl) sc hF hw hs hb ?_
              refine ⟨_, rfl, ?_⟩
              refine ex_asN (a := rl c) (by rw [h]; rfl) ?_
              refine ex_istore (L' := [some (.ref (41)), some (.ref (46)), some (.int (nI (s))), some (.int (nI (c))), some (.int (nI (rl c))), none, none, none]) dX0_missingFor_11 (by decide) rfl ?_
              refine ex_aload_n (i := 1) dX0_missingFor_13 rfl rfl ?_
              refine ex_iload_n (i := 2) dX0_missingFor_14 rfl rfl ?_
              refine ex_cS (ν := m_Evaluator_placeOf) (as := [.ref (46), .int (nI (s))]) dX0_missingFor_15 ln_Evaluator_75 mf_Evaluator_placeOf np_Evaluator_placeOf rfl rfl ⟨(Nat.le_of_ble_eq_true rfl), (Nat.le_of_ble_eq_true rfl), (Nat.le_of_ble_eq_true rfl), (Nat.le_of_ble_eq_true rfl)⟩ (by decide) ?_
              refine sp_Evaluator_placeOf_46 sc hF hw hs ?_
              refine ⟨_, rfl, ?_⟩
              refine ex_asN (a := p) (by rw [h]; rfl) ?_
              refine ex_istore (L' := [some (.ref (41)), some (.ref (46)), some (.int (nI (s))), some (.int (nI (c))), some (.int (nI (rl c))), some (.int (nI (p))), none, none]) dX0_missingFor_18 (by decide) rfl ?_
              refine ex_aload_n (i := 0) dX0_missingFor_20 rfl rfl ?_
              refine ex_getR (v := .ref (1)) dX0_missingFor_21 fl_Evaluator_9 rfl rfl (l56 (by decide)) rfl ?_
              refine ex_iload dX0_missingFor_24 rfl ?_
              refine ex_iload dX0_missingFor_26 rfl ?_
              refine ex_cV (ν := m_Grammar_operationAt) (a := 1) (ci := 1) (as := [.int (nI (rl c)), .int (nI (p))]) dX0_missingFor_28 ln_Evaluator_78 mf_Grammar_operationAt rfl (l56 (by decide)) rfl rfl np_Grammar_operationAt rfl rfl ⟨(Nat.le_of_ble_eq_true rfl), (Nat.le_of_ble_eq_true rfl), (Nat.le_of_ble_eq_true rfl), (Nat.le_of_ble_eq_true rfl)⟩ (by decide) ?_
              refine sp_Grammar_operationAt sc (by omega) hc.2.2 ?_
              refine ⟨_, rfl, ?_⟩
              refine ex_asN (a := o - 1) (by rw [es.1 _ (by omega), ho]; exact nI_m1' (by omega)) ?_
              refine ex_istore (L' := [some (.ref (41)), some (.ref (46)), some (.int (nI (s))), some (.int (nI (c))), some (.int (nI (rl c))), some (.int (nI (p))), some (.int (nI (o - 1))), none]) dX0_missingFor_31 (by decide) rfl ?_
              refine ex_iload dX0_missingFor_33 rfl ?_
              refine ex_iconst (v := nI 1) dX0_missingFor_35 (by decide) ?_
              refine ex_icmp_ltN (tgt := 72) dX0_missingFor_36 (by decide) (by omega) (by omega) (fun h36 => by omega) (fun h36 => ?_)
              refine ex_aload_n (i := 1) dX0_missingFor_39 rfl rfl ?_
              refine ex_iload_n (i := 3) dX0_missingFor_40 rfl rfl ?_
              refine ex_aload_n (i := 0) dX0_missingFor_41 rfl rfl ?_
              refine ex_getR (v := .ref (1)) dX0_missingFor_42 fl_Evaluator_9 rfl rfl (l56 (by decide)) rfl ?_
              refine ex_iload dX0_missingFor_45 rfl ?_
              refine ex_iload dX0_missingFor_47 rfl ?_
              refine ex_cV (ν := m_Grammar_xAt) (a := 1) (ci := 1) (as := [.int (nI (rl c)), .int (nI (p))]) dX0_missingFor_49 ln_Evaluator_83 mf_Grammar_xAt rfl (l56 (by decide)) rfl rfl np_Grammar_xAt rfl rfl ⟨(Nat.le_of_ble_eq_true rfl), (Nat.le_of_ble_eq_true rfl), (Nat.le_of_ble_eq_true rfl), (Nat.le_of_ble_eq_true rfl)⟩ (by decide) ?_
              refine sp_Grammar_xAt sc (by omega) (by omega) ?_
              refine ⟨_, rfl, ?_⟩
              refine ex_asN (a := xp (rl c * 15 + p)) (es.2.1 _ (by omega)) ?_
              refine ex_cS (ν := m_Evaluator_slotOf) (as := [.ref (46), .int (nI (c)), .int (nI (xp (rl c * 15 + p)))]) dX0_missingFor_52 ln_Evaluator_86 mf_Evaluator_slotOf np_Evaluator_slotOf rfl rfl ⟨(Nat.le_of_ble_eq_true rfl), (Nat.le_of_ble_eq_true rfl), (Nat.le_of_ble_eq_true rfl), (Nat.le_of_ble_eq_true rfl)⟩ (by decide) ?_
              refine sp_Evaluator_slotOf_46 sc hF hw hc.1 hc.2.1 hx.1 ?_
              refine ⟨_, rfl, ?_⟩
              refine ex_istore (L' := [some (.ref (41)), some (.ref (46)), some (.int (nI (s))), some (.int (nI (c))), some (.int (nI (rl c))), some (.int (nI (p))), some (.int (nI (o - 1))), some (.int (nI (sSl ch c (xp (rl c * 15 + p)))))]) dX0_missingFor_55 (by decide) rfl ?_
              refine ex_aload_n (i := 0) dX0_missingFor_57 rfl rfl ?_
              refine ex_getR (v := .ref (42)) dX0_missingFor_58 fl_Evaluator_20 rfl rfl (l56 (by decide)) rfl ?_
              refine ex_iload dX0_missingFor_61 rfl ?_
              refine ex_cV (ν := m_Row_get) (a := 42) (ci := 6) (as := [.int (nI (sSl ch c (xp (rl c * 15 + p))))]) dX0_missingFor_63 ln_Evaluator_41 mf_Row_get rfl (l56 (by decide)) rfl rfl np_Row_get rfl rfl ⟨(Nat.le_of_ble_eq_true rfl), (Nat.le_of_ble_eq_true rfl), (Nat.le_of_ble_eq_true rfl), (Nat.le_of_ble_eq_true rfl)⟩ (by decide) ?_
              refine sp_Row_get (r := 42) (c := 43) rfl rfl rfl (l56 (by decide)) (l56 (by decide)) (by omega) ?_
              refine ⟨_, rfl, ?_⟩
              refine ex_asN (a := kn (sSl ch c (xp (rl c * 15 + p)))) kx.1 ?_
              refine ex_if_neN (tgt := 72) dX0_missingFor_66 (by decide) (by omega) (fun h66 => ?_) (fun h66 => by exact absurd h66 c1)
              refine ex_iload dX0_missingFor_72 rfl ?_
              refine ex_iconst (v := nI 2) dX0_missingFor_74 (by decide) ?_
              refine ex_icmp_ltN (tgt := 111) dX0_missingFor_75 (by decide) (by omega) (by omega) (fun h75 => by omega) (fun h75 => ?_)
              refine ex_aload_n (i := 1) dX0_missingFor_78 rfl rfl ?_
              refine ex_iload_n (i := 3) dX0_missingFor_79 rfl rfl ?_
              refine ex_aload_n (i := 0) dX0_missingFor_80 rfl rfl ?_
              refine ex_getR (v := .ref (1)) dX0_missingFor_81 fl_Evaluator_9 rfl rfl (l56 (by decide)) rfl ?_
              refine ex_iload dX0_missingFor_84 rfl ?_
              refine ex_iload dX0_missingFor_86 rfl ?_
              refine ex_cV (ν := m_Grammar_yAt) (a := 1) (ci := 1) (as := [.int (nI (rl c)), .int (nI (p))]) dX0_missingFor_88 ln_Evaluator_90 mf_Grammar_yAt rfl (l56 (by decide)) rfl rfl np_Grammar_yAt rfl rfl ⟨(Nat.le_of_ble_eq_true rfl), (Nat.le_of_ble_eq_true rfl), (Nat.le_of_ble_eq_true rfl), (Nat.le_of_ble_eq_true rfl)⟩ (by decide) ?_
              refine sp_Grammar_yAt sc (by omega) (by omega) ?_
              refine ⟨_, rfl, ?_⟩
              refine ex_asN (a := yp (rl c * 15 + p)) (es.2.2.1 _ (by omega)) ?_
              refine ex_cS (ν := m_Evaluator_slotOf) (as := [.ref (46), .int (nI (c)), .int (nI (yp (rl c * 15 + p)))]) dX0_missingFor_91 ln_Evaluator_86 mf_Evaluator_slotOf np_Evaluator_slotOf rfl rfl ⟨(Nat.le_of_ble_eq_true rfl), (Nat.le_of_ble_eq_true rfl), (Nat.le_of_ble_eq_true rfl), (Nat.le_of_ble_eq_true rfl)⟩ (by decide) ?_
              refine sp_Evaluator_slotOf_46 sc hF hw hc.1 hc.2.1 hy.1 ?_
              refine ⟨_, rfl, ?_⟩
              refine ex_istore (L' := [some (.ref (41)), some (.ref (46)), some (.int (nI (s))), some (.int (nI (c))), some (.int (nI (rl c))), some (.int (nI (p))), some (.int (nI (o - 1))), some (.int (nI (sSl ch c (yp (rl c * 15 + p)))))]) dX0_missingFor_94 (by decide) rfl ?_
              refine ex_aload_n (i := 0) dX0_missingFor_96 rfl rfl ?_
              refine ex_getR (v := .ref (42)) dX0_missingFor_97 fl_Evaluator_20 rfl rfl (l56 (by decide)) rfl ?_
              refine ex_iload dX0_missingFor_100 rfl ?_
              refine ex_cV (ν := m_Row_get) (a := 42) (ci := 6) (as := [.int (nI (sSl ch c (yp (rl c * 15 + p))))]) dX0_missingFor_102 ln_Evaluator_41 mf_Row_get rfl (l56 (by decide)) rfl rfl np_Row_get rfl rfl ⟨(Nat.le_of_ble_eq_true rfl), (Nat.le_of_ble_eq_true rfl), (Nat.le_of_ble_eq_true rfl), (Nat.le_of_ble_eq_true rfl)⟩ (by decide) ?_
              refine sp_Row_get (r := 42) (c := 43) rfl rfl rfl (l56 (by decide)) (l56 (by decide)) (by omega) ?_
              refine ⟨_, rfl, ?_⟩
              refine ex_asN (a := kn (sSl ch c (yp (rl c * 15 + p)))) ky.1 ?_
              refine ex_if_neN (tgt := 111) dX0_missingFor_105 (by decide) (by omega) (fun h105 => by exact absurd c2 h105) (fun h105 => ?_)
              refine ex_iload dX0_missingFor_108 rfl ?_
              refine ex_iret dX0_missingFor_110 rfl rfl ?_
              exact hQ
            · rw [if_neg (fun z => absurd z.2 c2)] at hQ
              refine ex_aload_n (i := 1) dX0_missingFor_0 rfl rfl ?_
              refine ex_iload_n (i := 2) dX0_missingFor_1 rfl rfl ?_
              refine ex_cS (ν := m_Evaluator_contextOf) (as := [.ref (46), .int (nI (s))]) dX0_missingFor_2 ln_Evaluator_69 mf_Evaluator_contextOf np_Evaluator_contextOf rfl rfl ⟨(Nat.le_of_ble_eq_true rfl), (Nat.le_of_ble_eq_true rfl), (Nat.le_of_ble_eq_true rfl), (Nat.le_of_ble_eq_true rfl)⟩ (by decide) ?_
              refine sp_Evaluator_contextOf_46 sc hF hw hs ?_
              refine ⟨_, rfl, ?_⟩
              refine ex_asN (a := c) (by rw [h]; rfl) ?_
              refine ex_istore_n (L' := [some (.ref (41)), some (.ref (46)), some (.int (nI (s))), some (.int (nI (c))), none, none, none, none]) dX0_missingFor_5 (i := 3) rfl (by decide) rfl ?_
              refine ex_aload_n (i := 1) dX0_missingFor_6 rfl rfl ?_
              refine ex_iload_n (i := 3) dX0_missingFor_7 rfl rfl ?_
              refine ex_cS (ν := m_Evaluator_ruleOf) (as := [.ref (46), .int (nI (c))]) dX0_missingFor_8 ln_Evaluator_72 mf_Evaluator_ruleOf np_Evaluator_ruleOf rfl rfl ⟨(Nat.le_of_ble_eq_true rfl), (Nat.le_of_ble_eq_true rfl), (Nat.le_of_ble_eq_true rfl), (Nat.le_of_ble_eq_true rfl)⟩ (by decide) ?_
              refine sp_Evaluator_ruleOf_46 (s := s) (by rw [h]; rfl) sc hF hw hs hb ?_
              refine ⟨_, rfl, ?_⟩
              refine ex_asN (a := rl c) (by rw [h]; rfl) ?_
              refine ex_istore (L' := [some (.ref (41)), some (.ref (46)), some (.int (nI (s))), some (.int (nI (c))), some (.int (nI (rl c))), none, none, none]) dX0_missingFor_11 (by decide) rfl ?_
              refine ex_aload_n (i := 1) dX0_missingFor_13 rfl rfl ?_
              refine ex_iload_n (i := 2) dX0_missingFor_14 rfl rfl ?_
              refine ex_cS (ν := m_Evaluator_placeOf) (as := [.ref (46), .int (nI (s))]) dX0_missingFor_15 ln_Evaluator_75 mf_Evaluator_placeOf np_Evaluator_placeOf rfl rfl ⟨(Nat.le_of_ble_eq_true rfl), (Nat.le_of_ble_eq_true rfl), (Nat.le_of_ble_eq_true rfl), (Nat.le_of_ble_eq_true rfl)⟩ (by decide) ?_
              refine sp_Evaluator_placeOf_46 sc hF hw hs ?_
              refine ⟨_, rfl, ?_⟩
              refine ex_asN (a := p) (by rw [h]; rfl) ?_
              refine ex_istore (L' := [some (.ref (41)), some (.ref (46)), some (.int (nI (s))), some (.int (nI (c))), some (.int (nI (rl c))), some (.int (nI (p))), none, none]) dX0_missingFor_18 (by decide) rfl ?_
              refine ex_aload_n (i := 0) dX0_missingFor_20 rfl rfl ?_
              refine ex_getR (v := .ref (1)) dX0_missingFor_21 fl_Evaluator_9 rfl rfl (l56 (by decide)) rfl ?_
              refine ex_iload dX0_missingFor_24 rfl ?_
              refine ex_iload dX0_missingFor_26 rfl ?_
              refine ex_cV (ν := m_Grammar_operationAt) (a := 1) (ci := 1) (as := [.int (nI (rl c)), .int (nI (p))]) dX0_missingFor_28 ln_Evaluator_78 mf_Grammar_operationAt rfl (l56 (by decide)) rfl rfl np_Grammar_operationAt rfl rfl ⟨(Nat.le_of_ble_eq_true rfl), (Nat.le_of_ble_eq_true rfl), (Nat.le_of_ble_eq_true rfl), (Nat.le_of_ble_eq_true rfl)⟩ (by decide) ?_
              refine sp_Grammar_operationAt sc (by omega) hc.2.2 ?_
              refine ⟨_, rfl, ?_⟩
              refine ex_asN (a := o - 1) (by rw [es.1 _ (by omega), ho]; exact nI_m1' (by omega)) ?_
              refine ex_istore (L' := [some (.ref (41)), some (.ref (46)), some (.int (nI (s))), some (.int (nI (c))), some (.int (nI (rl c))), some (.int (nI (p))), some (.int (nI (o - 1))), none]) dX0_missingFor_31 (by decide) rfl ?_
              refine ex_iload dX0_missingFor_33 rfl ?_
              refine ex_iconst (v := nI 1) dX0_missingFor_35 (by decide) ?_
              refine ex_icmp_ltN (tgt := 72) dX0_missingFor_36 (by decide) (by omega) (by omega) (fun h36 => by omega) (fun h36 => ?_)
              refine ex_aload_n (i := 1) dX0_missingFor_39 rfl rfl ?_
              refine ex_iload_n (i := 3) dX0_missingFor_40 rfl rfl ?_
              refine ex_aload_n (i := 0) dX0_missingFor_41 rfl rfl ?_
              refine ex_getR (v := .ref (1)) dX0_missingFor_42 fl_Evaluator_9 rfl rfl (l56 (by decide)) rfl ?_
              refine ex_iload dX0_missingFor_45 rfl ?_
              refine ex_iload dX0_missingFor_47 rfl ?_
              refine ex_cV (ν := m_Grammar_xAt) (a := 1) (ci := 1) (as := [.int (nI (rl c)), .int (nI (p))]) dX0_missingFor_49 ln_Evaluator_83 mf_Grammar_xAt rfl (l56 (by decide)) rfl rfl np_Grammar_xAt rfl rfl ⟨(Nat.le_of_ble_eq_true rfl), (Nat.le_of_ble_eq_true rfl), (Nat.le_of_ble_eq_true rfl), (Nat.le_of_ble_eq_true rfl)⟩ (by decide) ?_
              refine sp_Grammar_xAt sc (by omega) (by omega) ?_
              refine ⟨_, rfl, ?_⟩
              refine ex_asN (a := xp (rl c * 15 + p)) (es.2.1 _ (by omega)) ?_
              refine ex_cS (ν := m_Evaluator_slotOf) (as := [.ref (46), .int (nI (c)), .int (nI (xp (rl c * 15 + p)))]) dX0_missingFor_52 ln_Evaluator_86 mf_Evaluator_slotOf np_Evaluator_slotOf rfl rfl ⟨(Nat.le_of_ble_eq_true rfl), (Nat.le_of_ble_eq_true rfl), (Nat.le_of_ble_eq_true rfl), (Nat.le_of_ble_eq_true rfl)⟩ (by decide) ?_
              refine sp_Evaluator_slotOf_46 sc hF hw hc.1 hc.2.1 hx.1 ?_
              refine ⟨_, rfl, ?_⟩
              refine ex_istore (L' := [some (.ref (41)), some (.ref (46)), some (.int (nI (s))), some (.int (nI (c))), some (.int (nI (rl c))), some (.int (nI (p))), some (.int (nI (o - 1))), some (.int (nI (sSl ch c (xp (rl c * 15 + p)))))]) dX0_missingFor_55 (by decide) rfl ?_
              refine ex_aload_n (i := 0) dX0_missingFor_57 rfl rfl ?_
              refine ex_getR (v := .ref (42)) dX0_missingFor_58 fl_Evaluator_20 rfl rfl (l56 (by decide)) rfl ?_
              refine ex_iload dX0_missingFor_61 rfl ?_
              refine ex_cV (ν := m_Row_get) (a := 42) (ci := 6) (as := [.int (nI (sSl ch c (xp (rl c * 15 + p))))]) dX0_missingFor_63 ln_Evaluator_41 mf_Row_get rfl (l56 (by decide)) rfl rfl np_Row_get rfl rfl ⟨(Nat.le_of_ble_eq_true rfl), (Nat.le_of_ble_eq_true rfl), (Nat.le_of_ble_eq_true rfl), (Nat.le_of_ble_eq_true rfl)⟩ (by decide) ?_
              refine sp_Row_get (r := 42) (c := 43) rfl rfl rfl (l56 (by decide)) (l56 (by decide)) (by omega) ?_
              refine ⟨_, rfl, ?_⟩
              refine ex_asN (a := kn (sSl ch c (xp (rl c * 15 + p)))) kx.1 ?_
              refine ex_if_neN (tgt := 72) dX0_missingFor_66 (by decide) (by omega) (fun h66 => ?_) (fun h66 => by exact absurd h66 c1)
              refine ex_iload dX0_missingFor_72 rfl ?_
              refine ex_iconst (v := nI 2) dX0_missingFor_74 (by decide) ?_
              refine ex_icmp_ltN (tgt := 111) dX0_missingFor_75 (by decide) (by omega) (by omega) (fun h75 => by omega) (fun h75 => ?_)
              refine ex_aload_n (i := 1) dX0_missingFor_78 rfl rfl ?_
              refine ex_iload_n (i := 3) dX0_missingFor_79 rfl rfl ?_
              refine ex_aload_n (i := 0) dX0_missingFor_80 rfl rfl ?_
              refine ex_getR (v := .ref (1)) dX0_missingFor_81 fl_Evaluator_9 rfl rfl (l56 (by decide)) rfl ?_
              refine ex_iload dX0_missingFor_84 rfl ?_
              refine ex_iload dX0_missingFor_86 rfl ?_
              refine ex_cV (ν := m_Grammar_yAt) (a := 1) (ci := 1) (as := [.int (nI (rl c)), .int (nI (p))]) dX0_missingFor_88 ln_Evaluator_90 mf_Grammar_yAt rfl (l56 (by decide)) rfl rfl np_Grammar_yAt rfl rfl ⟨(Nat.le_of_ble_eq_true rfl), (Nat.le_of_ble_eq_true rfl), (Nat.le_of_ble_eq_true rfl), (Nat.le_of_ble_eq_true rfl)⟩ (by decide) ?_
              refine sp_Grammar_yAt sc (by omega) (by omega) ?_
              refine ⟨_, rfl, ?_⟩
              refine ex_asN (a := yp (rl c * 15 + p)) (es.2.2.1 _ (by omega)) ?_
              refine ex_cS (ν := m_Evaluator_slotOf) (as := [.ref (46), .int (nI (c)), .int (nI (yp (rl c * 15 + p)))]) dX0_missingFor_91 ln_Evaluator_86 mf_Evaluator_slotOf np_Evaluator_slotOf rfl rfl ⟨(Nat.le_of_ble_eq_true rfl), (Nat.le_of_ble_eq_true rfl), (Nat.le_of_ble_eq_true rfl), (Nat.le_of_ble_eq_true rfl)⟩ (by decide) ?_
              refine sp_Evaluator_slotOf_46 sc hF hw hc.1 hc.2.1 hy.1 ?_
              refine ⟨_, rfl, ?_⟩
              refine ex_istore (L' := [some (.ref (41)), some (.ref (46)), some (.int (nI (s))), some (.int (nI (c))), some (.int (nI (rl c))), some (.int (nI (p))), some (.int (nI (o - 1))), some (.int (nI (sSl ch c (yp (rl c * 15 + p)))))]) dX0_missingFor_94 (by decide) rfl ?_
              refine ex_aload_n (i := 0) dX0_missingFor_96 rfl rfl ?_
              refine ex_getR (v := .ref (42)) dX0_missingFor_97 fl_Evaluator_20 rfl rfl (l56 (by decide)) rfl ?_
              refine ex_iload dX0_missingFor_100 rfl ?_
              refine ex_cV (ν := m_Row_get) (a := 42) (ci := 6) (as := [.int (nI (sSl ch c (yp (rl c * 15 + p))))]) dX0_missingFor_102 ln_Evaluator_41 mf_Row_get rfl (l56 (by decide)) rfl rfl np_Row_get rfl rfl ⟨(Nat.le_of_ble_eq_true rfl), (Nat.le_of_ble_eq_true rfl), (Nat.le_of_ble_eq_true rfl), (Nat.le_of_ble_eq_true rfl)⟩ (by decide) ?_
              refine sp_Row_get (r := 42) (c := 43) rfl rfl rfl (l56 (by decide)) (l56 (by decide)) (by omega) ?_
              refine ⟨_, rfl, ?_⟩
              refine ex_asN (a := kn (sSl ch c (yp (rl c * 15 + p)))) ky.1 ?_
              refine ex_if_neN (tgt := 111) dX0_missingFor_105 (by decide) (by omega) (fun h105 => ?_) (fun h105 => by exact absurd h105 c2)
              refine ex_iconst (v := -1) dX0_missingFor_111 (by decide) ?_
              refine ex_iret dX0_missingFor_112 rfl rfl ?_
              exact hQ
theorem sp_Evaluator_workOut_46 {s : Nat} (hn : n ≤ 14) (sc : SC i) (es : ES i op xp yp) (ev : EV n sy op xp yp) (hF : i 48 = nd) (hw : TW n sy md nd tb rl pa ch) (hs : s < 3 * md) (hb : tb (s / 3) = false) (hQ : Q (.ok (some (.long (wkS op xp yp rl ch (q 50) (sCx pa s))))) (56 + ζ, g, i, q, RT t)) : Wx m_Evaluator_workOut 0 [some (.ref 41), some (.ref 46), some (.int (nI s)), none, none, none, none, none, none, none, none] [] (56 + ζ, g, i, q, RT t) (0, 0) Q := by
  have h150 := hw.1
  cases h : sCx pa s with
  | none =>
    rw [h] at hQ
    refine ex_aload_n (i := 1) dX0_workOut_0 rfl rfl ?_
    refine ex_iload_n (i := 2) dX0_workOut_1 rfl rfl ?_
    refine ex_cS (ν := m_Evaluator_contextOf) (as := [.ref (46), .int (nI (s))]) dX0_workOut_2 ln_Evaluator_69 mf_Evaluator_contextOf np_Evaluator_contextOf rfl rfl ⟨(Nat.le_of_ble_eq_true rfl), (Nat.le_of_ble_eq_true rfl), (Nat.le_of_ble_eq_true rfl), (Nat.le_of_ble_eq_true rfl)⟩ (by decide) ?_
    refine sp_Evaluator_contextOf_46 sc hF hw hs ?_
    refine ⟨_, rfl, ?_⟩
    refine ex_asI (y := -1) (by rw [h]; rfl) ?_
    refine ex_istore_n (L' := [some (.ref (41)), some (.ref (46)), some (.int (nI (s))), some (.int ((-1))), none, none, none, none, none, none, none]) dX0_workOut_5 (i := 3) rfl (by decide) rfl ?_
    refine ex_aload_n (i := 1) dX0_workOut_6 rfl rfl ?_
    refine ex_iload_n (i := 3) dX0_workOut_7 rfl rfl ?_
    refine ex_cS (ν := m_Evaluator_ruleOf) (as := [.ref (46), .int ((-1))]) dX0_workOut_8 ln_Evaluator_72 mf_Evaluator_ruleOf np_Evaluator_ruleOf rfl rfl ⟨(Nat.le_of_ble_eq_true rfl), (Nat.le_of_ble_eq_true rfl), (Nat.le_of_ble_eq_true rfl), (Nat.le_of_ble_eq_true rfl)⟩ (by decide) ?_
    refine sp_Evaluator_ruleOf_46 (s := s) (by rw [h]; rfl) sc hF hw hs hb ?_
    refine ⟨_, rfl, ?_⟩
    refine ex_asI (y := -1) (by rw [h]; rfl) ?_
    refine ex_istore (L' := [some (.ref (41)), some (.ref (46)), some (.int (nI (s))), some (.int ((-1))), some (.int ((-1))), none, none, none, none, none, none]) dX0_workOut_11 (by decide) rfl ?_
    refine ex_aload_n (i := 1) dX0_workOut_13 rfl rfl ?_
    refine ex_iload_n (i := 2) dX0_workOut_14 rfl rfl ?_
    refine ex_cS (ν := m_Evaluator_placeOf) (as := [.ref (46), .int (nI (s))]) dX0_workOut_15 ln_Evaluator_75 mf_Evaluator_placeOf np_Evaluator_placeOf rfl rfl ⟨(Nat.le_of_ble_eq_true rfl), (Nat.le_of_ble_eq_true rfl), (Nat.le_of_ble_eq_true rfl), (Nat.le_of_ble_eq_true rfl)⟩ (by decide) ?_
    refine sp_Evaluator_placeOf_46 sc hF hw hs ?_
    refine ⟨_, rfl, ?_⟩
    refine ex_asN (a := 2) (by rw [h]; rfl) ?_
    refine ex_istore (L' := [some (.ref (41)), some (.ref (46)), some (.int (nI (s))), some (.int ((-1))), some (.int ((-1))), some (.int (nI (2))), none, none, none, none, none]) dX0_workOut_18 (by decide) rfl ?_
    refine ex_aload_n (i := 0) dX0_workOut_20 rfl rfl ?_
    refine ex_getR (v := .ref (1)) dX0_workOut_21 fl_Evaluator_9 rfl rfl (l56 (by decide)) rfl ?_
    refine ex_iload dX0_workOut_24 rfl ?_
    refine ex_iload dX0_workOut_26 rfl ?_
    refine ex_cV (ν := m_Grammar_operationAt) (a := 1) (ci := 1) (as := [.int ((-1)), .int (nI (2))]) dX0_workOut_28 ln_Evaluator_78 mf_Grammar_operationAt rfl (l56 (by decide)) rfl rfl np_Grammar_operationAt rfl rfl ⟨(Nat.le_of_ble_eq_true rfl), (Nat.le_of_ble_eq_true rfl), (Nat.le_of_ble_eq_true rfl), (Nat.le_of_ble_eq_true rfl)⟩ (by decide) ?_
    refine sp_Grammar_operationAt_neg sc ?_
    refine ⟨_, rfl, ?_⟩
    refine ex_istore (L' := [some (.ref (41)), some (.ref (46)), some (.int (nI (s))), some (.int ((-1))), some (.int ((-1))), some (.int (nI (2))), some (.int ((-1))), none, none, none, none]) dX0_workOut_31 (by decide) rfl ?_
    refine ex_iload dX0_workOut_33 rfl ?_
    refine ex_if_ge (tgt := 40) dX0_workOut_35 (by decide) (fun h35 => by exact absurd h35 (by decide)) (fun h35 => ?_)
    refine ex_lconst (v := 0) dX0_workOut_38 (by decide) ?_
    refine ex_lret dX0_workOut_39 rfl ?_
    exact hQ
  | some v =>
    obtain ⟨c, p⟩ := v
    rw [h] at hQ
    have hc := sCx_ok hw hs hb h
    have hr := ((hw.2 c hc.1).2.1 hc.2.1).2.1
    have ha := arS_lt ev hw hs hb h
    obtain ⟨o, ho⟩ : ∃ o, op (rl c * 15 + p) = o := ⟨_, rfl⟩
    have ho8 : o ≤ 8 := by rw [← ho]; exact es.2.2.2.1 _
    rw [ho] at ha
    have e : opS op rl (some (c, p)) = o := ho
    have ex : arS xp rl ch (some (c, p)) = sSl ch c (xp (rl c * 15 + p)) := rfl
    have ey : arS yp rl ch (some (c, p)) = sSl ch c (yp (rl c * 15 + p)) := rfl
    have en : nmS xp rl (some (c, p)) = xp (rl c * 15 + p) := rfl
    unfold wkS at hQ
    rw [e, ex, ey, en] at hQ
    by_cases o0 : o = 0
    · subst o0
      rw [if_pos rfl] at hQ
      refine ex_aload_n (i := 1) dX0_workOut_0 rfl rfl ?_
      refine ex_iload_n (i := 2) dX0_workOut_1 rfl rfl ?_
      refine ex_cS (ν := m_Evaluator_contextOf) (as := [.ref (46), .int (nI (s))]) dX0_workOut_2 ln_Evaluator_69 mf_Evaluator_contextOf np_Evaluator_contextOf rfl rfl ⟨(Nat.le_of_ble_eq_true rfl), (Nat.le_of_ble_eq_true rfl), (Nat.le_of_ble_eq_true rfl), (Nat.le_of_ble_eq_true rfl)⟩ (by decide) ?_
      refine sp_Evaluator_contextOf_46 sc hF hw hs ?_
      refine ⟨_, rfl, ?_⟩
      refine ex_asN (a := c) (by rw [h]; rfl) ?_
      refine ex_istore_n (L' := [some (.ref (41)), some (.ref (46)), some (.int (nI (s))), some (.int (nI (c))), none, none, none, none, none, none, none]) dX0_workOut_5 (i := 3) rfl (by decide) rfl ?_
      refine ex_aload_n (i := 1) dX0_workOut_6 rfl rfl ?_
      refine ex_iload_n (i := 3) dX0_workOut_7 rfl rfl ?_
      refine ex_cS (ν := m_Evaluator_ruleOf) (as := [.ref (46), .int (nI (c))]) dX0_workOut_8 ln_Evaluator_72 mf_Evaluator_ruleOf np_Evaluator_ruleOf rfl rfl ⟨(Nat.le_of_ble_eq_true rfl), (Nat.le_of_ble_eq_true rfl), (Nat.le_of_ble_eq_true rfl), (Nat.le_of_ble_eq_true rfl)⟩ (by decide) ?_
      refine sp_Evaluator_ruleOf_46 (s := s) (by rw [h]; rfl) sc hF hw hs hb ?_
      refine ⟨_, rfl, ?_⟩
      refine ex_asN (a := rl c) (by rw [h]; rfl) ?_
      refine ex_istore (L' := [some (.ref (41)), some (.ref (46)), some (.int (nI (s))), some (.int (nI (c))), some (.int (nI (rl c))), none, none, none, none, none, none]) dX0_workOut_11 (by decide) rfl ?_
      refine ex_aload_n (i := 1) dX0_workOut_13 rfl rfl ?_
      refine ex_iload_n (i := 2) dX0_workOut_14 rfl rfl ?_
      refine ex_cS (ν := m_Evaluator_placeOf) (as := [.ref (46), .int (nI (s))]) dX0_workOut_15 ln_Evaluator_75 mf_Evaluator_placeOf np_Evaluator_placeOf rfl rfl ⟨(Nat.le_of_ble_eq_true rfl), (Nat.le_of_ble_eq_true rfl), (Nat.le_of_ble_eq_true rfl), (Nat.le_of_ble_eq_true rfl)⟩ (by decide) ?_
      refine sp_Evaluator_placeOf_46 sc hF hw hs ?_
      refine ⟨_, rfl, ?_⟩
      refine ex_asN (a := p) (by rw [h]; rfl) ?_
      refine ex_istore (L' := [some (.ref (41)), some (.ref (46)), some (.int (nI (s))), some (.int (nI (c))), some (.int (nI (rl c))), some (.int (nI (p))), none, none, none, none, none]) dX0_workOut_18 (by decide) rfl ?_
      refine ex_aload_n (i := 0) dX0_workOut_20 rfl rfl ?_
      refine ex_getR (v := .ref (1)) dX0_workOut_21 fl_Evaluator_9 rfl rfl (l56 (by decide)) rfl ?_
      refine ex_iload dX0_workOut_24 rfl ?_
      refine ex_iload dX0_workOut_26 rfl ?_
      refine ex_cV (ν := m_Grammar_operationAt) (a := 1) (ci := 1) (as := [.int (nI (rl c)), .int (nI (p))]) dX0_workOut_28 ln_Evaluator_78 mf_Grammar_operationAt rfl (l56 (by decide)) rfl rfl np_Grammar_operationAt rfl rfl ⟨(Nat.le_of_ble_eq_true rfl), (Nat.le_of_ble_eq_true rfl), (Nat.le_of_ble_eq_true rfl), (Nat.le_of_ble_eq_true rfl)⟩ (by decide) ?_
      refine sp_Grammar_operationAt sc (by omega) hc.2.2 ?_
      refine ⟨_, rfl, ?_⟩
      refine ex_asI (y := -1) (by rw [es.1 _ (by omega), ho]; rfl) ?_
      refine ex_istore (L' := [some (.ref (41)), some (.ref (46)), some (.int (nI (s))), some (.int (nI (c))), some (.int (nI (rl c))), some (.int (nI (p))), some (.int ((-1))), none, none, none, none]) dX0_workOut_31 (by decide) rfl ?_
      refine ex_iload dX0_workOut_33 rfl ?_
      refine ex_if_ge (tgt := 40) dX0_workOut_35 (by decide) (fun h35 => by exact absurd h35 (by decide)) (fun h35 => ?_)
      refine ex_lconst (v := 0) dX0_workOut_38 (by decide) ?_
      refine ex_lret dX0_workOut_39 rfl ?_
      exact hQ
    · rw [if_neg o0] at hQ
      by_cases o1 : o = 1
      · subst o1
        rw [if_pos rfl] at hQ
        refine ex_aload_n (i := 1) dX0_workOut_0 rfl rfl ?_
        refine ex_iload_n (i := 2) dX0_workOut_1 rfl rfl ?_
        refine ex_cS (ν := m_Evaluator_contextOf) (as := [.ref (46), .int (nI (s))]) dX0_workOut_2 ln_Evaluator_69 mf_Evaluator_contextOf np_Evaluator_contextOf rfl rfl ⟨(Nat.le_of_ble_eq_true rfl), (Nat.le_of_ble_eq_true rfl), (Nat.le_of_ble_eq_true rfl), (Nat.le_of_ble_eq_true rfl)⟩ (by decide) ?_
        refine sp_Evaluator_contextOf_46 sc hF hw hs ?_
        refine ⟨_, rfl, ?_⟩
        refine ex_asN (a := c) (by rw [h]; rfl) ?_
        refine ex_istore_n (L' := [some (.ref (41)), some (.ref (46)), some (.int (nI (s))), some (.int (nI (c))), none, none, none, none, none, none, none]) dX0_workOut_5 (i := 3) rfl (by decide) rfl ?_
        refine ex_aload_n (i := 1) dX0_workOut_6 rfl rfl ?_
        refine ex_iload_n (i := 3) dX0_workOut_7 rfl rfl ?_
        refine ex_cS (ν := m_Evaluator_ruleOf) (as := [.ref (46), .int (nI (c))]) dX0_workOut_8 ln_Evaluator_72 mf_Evaluator_ruleOf np_Evaluator_ruleOf rfl rfl ⟨(Nat.le_of_ble_eq_true rfl), (Nat.le_of_ble_eq_true rfl), (Nat.le_of_ble_eq_true rfl), (Nat.le_of_ble_eq_true rfl)⟩ (by decide) ?_
        refine sp_Evaluator_ruleOf_46 (s := s) (by rw [h]; rfl) sc hF hw hs hb ?_
        refine ⟨_, rfl, ?_⟩
        refine ex_asN (a := rl c) (by rw [h]; rfl) ?_
        refine ex_istore (L' := [some (.ref (41)), some (.ref (46)), some (.int (nI (s))), some (.int (nI (c))), some (.int (nI (rl c))), none, none, none, none, none, none]) dX0_workOut_11 (by decide) rfl ?_
        refine ex_aload_n (i := 1) dX0_workOut_13 rfl rfl ?_
        refine ex_iload_n (i := 2) dX0_workOut_14 rfl rfl ?_
        refine ex_cS (ν := m_Evaluator_placeOf) (as := [.ref (46), .int (nI (s))]) dX0_workOut_15 ln_Evaluator_75 mf_Evaluator_placeOf np_Evaluator_placeOf rfl rfl ⟨(Nat.le_of_ble_eq_true rfl), (Nat.le_of_ble_eq_true rfl), (Nat.le_of_ble_eq_true rfl), (Nat.le_of_ble_eq_true rfl)⟩ (by decide) ?_
        refine sp_Evaluator_placeOf_46 sc hF hw hs ?_
        refine ⟨_, rfl, ?_⟩
        refine ex_asN (a := p) (by rw [h]; rfl) ?_
        refine ex_istore (L' := [some (.ref (41)), some (.ref (46)), some (.int (nI (s))), some (.int (nI (c))), some (.int (nI (rl c))), some (.int (nI (p))), none, none, none, none, none]) dX0_workOut_18 (by decide) rfl ?_
        refine ex_aload_n (i := 0) dX0_workOut_20 rfl rfl ?_
        refine ex_getR (v := .ref (1)) dX0_workOut_21 fl_Evaluator_9 rfl rfl (l56 (by decide)) rfl ?_
        refine ex_iload dX0_workOut_24 rfl ?_
        refine ex_iload dX0_workOut_26 rfl ?_
        refine ex_cV (ν := m_Grammar_operationAt) (a := 1) (ci := 1) (as := [.int (nI (rl c)), .int (nI (p))]) dX0_workOut_28 ln_Evaluator_78 mf_Grammar_operationAt rfl (l56 (by decide)) rfl rfl np_Grammar_operationAt rfl rfl ⟨(Nat.le_of_ble_eq_true rfl), (Nat.le_of_ble_eq_true rfl), (Nat.le_of_ble_eq_true rfl), (Nat.le_of_ble_eq_true rfl)⟩ (by decide) ?_
        refine sp_Grammar_operationAt sc (by omega) hc.2.2 ?_
        refine ⟨_, rfl, ?_⟩
        refine ex_asN (a := 0) (by rw [es.1 _ (by omega), ho]; rfl) ?_
        refine ex_istore (L' := [some (.ref (41)), some (.ref (46)), some (.int (nI (s))), some (.int (nI (c))), some (.int (nI (rl c))), some (.int (nI (p))), some (.int (nI (0))), none, none, none, none]) dX0_workOut_31 (by decide) rfl ?_
        refine ex_iload dX0_workOut_33 rfl ?_
        refine ex_if_geN (tgt := 40) dX0_workOut_35 (by decide) (by omega) ?_
        refine ex_iload dX0_workOut_40 rfl ?_
        refine ex_if_neN (tgt := 58) dX0_workOut_42 (by decide) (by omega) (fun h42 => by exact absurd h42 (by decide)) (fun h42 => ?_)
        refine ex_aload_n (i := 0) dX0_workOut_45 rfl rfl ?_
        refine ex_getR (v := .ref (1)) dX0_workOut_46 fl_Evaluator_9 rfl rfl (l56 (by decide)) rfl ?_
        refine ex_iload dX0_workOut_49 rfl ?_
        refine ex_iload dX0_workOut_51 rfl ?_
        refine ex_cV (ν := m_Grammar_xAt) (a := 1) (ci := 1) (as := [.int (nI (rl c)), .int (nI (p))]) dX0_workOut_53 ln_Evaluator_83 mf_Grammar_xAt rfl (l56 (by decide)) rfl rfl np_Grammar_xAt rfl rfl ⟨(Nat.le_of_ble_eq_true rfl), (Nat.le_of_ble_eq_true rfl), (Nat.le_of_ble_eq_true rfl), (Nat.le_of_ble_eq_true rfl)⟩ (by decide) ?_
        refine sp_Grammar_xAt sc (by omega) (by omega) ?_
        refine ⟨_, rfl, ?_⟩
        refine ex_asN (a := xp (rl c * 15 + p)) (es.2.1 _ (by omega)) ?_
        refine ex_i2l dX0_workOut_56 ?_
        refine ex_lret dX0_workOut_57 rfl ?_
        exact hQ
      · rw [if_neg o1] at hQ
        have hx := ha.1 (by omega)
        have hy := ha.2 (by omega)
        refine ex_aload_n (i := 1) dX0_workOut_0 rfl rfl ?_
        refine ex_iload_n (i := 2) dX0_workOut_1 rfl rfl ?_
        refine ex_cS (ν := m_Evaluator_contextOf) (as := [.ref (46), .int (nI (s))]) dX0_workOut_2 ln_Evaluator_69 mf_Evaluator_contextOf np_Evaluator_contextOf rfl rfl ⟨(Nat.le_of_ble_eq_true rfl), (Nat.le_of_ble_eq_true rfl), (Nat.le_of_ble_eq_true rfl), (Nat.le_of_ble_eq_true rfl)⟩ (by decide) ?_
        refine sp_Evaluator_contextOf_46 sc hF hw hs ?_
        refine ⟨_, rfl, ?_⟩
        refine ex_asN (a := c) (by rw [h]; rfl) ?_
        refine ex_istore_n (L' := [some (.ref (41)), some (.ref (46)), some (.int (nI (s))), some (.int (nI (c))), none, none, none, none, none, none, none]) dX0_workOut_5 (i := 3) rfl (by decide) rfl ?_
        refine ex_aload_n (i := 1) dX0_workOut_6 rfl rfl ?_
        refine ex_iload_n (i := 3) dX0_workOut_7 rfl rfl ?_
        refine ex_cS (ν := m_Evaluator_ruleOf) (as := [.ref (46), .int (nI (c))]) dX0_workOut_8 ln_Evaluator_72 mf_Evaluator_ruleOf np_Evaluator_ruleOf rfl rfl ⟨(Nat.le_of_ble_eq_true rfl), (Nat.le_of_ble_eq_true rfl), (Nat.le_of_ble_eq_true rfl), (Nat.le_of_ble_eq_true rfl)⟩ (by decide) ?_
        refine sp_Evaluator_ruleOf_46 (s := s) (by rw [h]; rfl) sc hF hw hs hb ?_
        refine ⟨_, rfl, ?_⟩
        refine ex_asN (a := rl c) (by rw [h]; rfl) ?_
        refine ex_istore (L' := [some (.ref (41)), some (.ref (46)), some (.int (nI (s))), some (.int (nI (c))), some (.int (nI (rl c))), none, none, none, none, none, none]) dX0_workOut_11 (by decide) rfl ?_
        refine ex_aload_n (i := 1) dX0_workOut_13 rfl rfl ?_
        refine ex_iload_n (i := 2) dX0_workOut_14 rfl rfl ?_
        refine ex_cS (ν := m_Evaluator_placeOf) (as := [.ref (46), .int (nI (s))]) dX0_workOut_15 ln_Evaluator_75 mf_Evaluator_placeOf np_Evaluator_placeOf rfl rfl ⟨(Nat.le_of_ble_eq_true rfl), (Nat.le_of_ble_eq_true rfl), (Nat.le_of_ble_eq_true rfl), (Nat.le_of_ble_eq_true rfl)⟩ (by decide) ?_
        refine sp_Evaluator_placeOf_46 sc hF hw hs ?_
        refine ⟨_, rfl, ?_⟩
        refine ex_asN (a := p) (by rw [h]; rfl) ?_
        refine ex_istore (L' := [some (.ref (41)), some (.ref (46)), some (.int (nI (s))), some (.int (nI (c))), some (.int (nI (rl c))), some (.int (nI (p))), none, none, none, none, none]) dX0_workOut_18 (by decide) rfl ?_
        refine ex_aload_n (i := 0) dX0_workOut_20 rfl rfl ?_
        refine ex_getR (v := .ref (1)) dX0_workOut_21 fl_Evaluator_9 rfl rfl (l56 (by decide)) rfl ?_
        refine ex_iload dX0_workOut_24 rfl ?_
        refine ex_iload dX0_workOut_26 rfl ?_
        refine ex_cV (ν := m_Grammar_operationAt) (a := 1) (ci := 1) (as := [.int (nI (rl c)), .int (nI (p))]) dX0_workOut_28 ln_Evaluator_78 mf_Grammar_operationAt rfl (l56 (by decide)) rfl rfl np_Grammar_operationAt rfl rfl ⟨(Nat.le_of_ble_eq_true rfl), (Nat.le_of_ble_eq_true rfl), (Nat.le_of_ble_eq_true rfl), (Nat.le_of_ble_eq_true rfl)⟩ (by decide) ?_
        refine sp_Grammar_operationAt sc (by omega) hc.2.2 ?_
        refine ⟨_, rfl, ?_⟩
        refine ex_asN (a := o - 1) (by rw [es.1 _ (by omega), ho]; exact nI_m1' (by omega)) ?_
        refine ex_istore (L' := [some (.ref (41)), some (.ref (46)), some (.int (nI (s))), some (.int (nI (c))), some (.int (nI (rl c))), some (.int (nI (p))), some (.int (nI (o - 1))), none, none, none, none]) dX0_workOut_31 (by decide) rfl ?_
        refine ex_iload dX0_workOut_33 rfl ?_
        refine ex_if_geN (tgt := 40) dX0_workOut_35 (by decide) (by omega) ?_
        refine ex_iload dX0_workOut_40 rfl ?_
        refine ex_if_neN (tgt := 58) dX0_workOut_42 (by decide) (by omega) (fun h42 => ?_) (fun h42 => by omega)
        refine ex_aload_n (i := 1) dX0_workOut_58 rfl rfl ?_
        refine ex_aload_n (i := 1) dX0_workOut_59 rfl rfl ?_
        refine ex_iload_n (i := 3) dX0_workOut_60 rfl rfl ?_
        refine ex_aload_n (i := 0) dX0_workOut_61 rfl rfl ?_
        refine ex_getR (v := .ref (1)) dX0_workOut_62 fl_Evaluator_9 rfl rfl (l56 (by decide)) rfl ?_
        refine ex_iload dX0_workOut_65 rfl ?_
        refine ex_iload dX0_workOut_67 rfl ?_
        refine ex_cV (ν := m_Grammar_xAt) (a := 1) (ci := 1) (as := [.int (nI (rl c)), .int (nI (p))]) dX0_workOut_69 ln_Evaluator_83 mf_Grammar_xAt rfl (l56 (by decide)) rfl rfl np_Grammar_xAt rfl rfl ⟨(Nat.le_of_ble_eq_true rfl), (Nat.le_of_ble_eq_true rfl), (Nat.le_of_ble_eq_true rfl), (Nat.le_of_ble_eq_true rfl)⟩ (by decide) ?_
        refine sp_Grammar_xAt sc (by omega) (by omega) ?_
        refine ⟨_, rfl, ?_⟩
        refine ex_asN (a := xp (rl c * 15 + p)) (es.2.1 _ (by omega)) ?_
        refine ex_cS (ν := m_Evaluator_slotOf) (as := [.ref (46), .int (nI (c)), .int (nI (xp (rl c * 15 + p)))]) dX0_workOut_72 ln_Evaluator_86 mf_Evaluator_slotOf np_Evaluator_slotOf rfl rfl ⟨(Nat.le_of_ble_eq_true rfl), (Nat.le_of_ble_eq_true rfl), (Nat.le_of_ble_eq_true rfl), (Nat.le_of_ble_eq_true rfl)⟩ (by decide) ?_
        refine sp_Evaluator_slotOf_46 sc hF hw hc.1 hc.2.1 hx.1 ?_
        refine ⟨_, rfl, ?_⟩
        refine ex_cV (ν := m_Tree_value) (a := 46) (ci := 8) (as := [.int (nI (sSl ch c (xp (rl c * 15 + p))))]) dX0_workOut_75 ln_Evaluator_93 mf_Tree_value rfl (l56 (by decide)) rfl rfl np_Tree_value rfl rfl ⟨(Nat.le_of_ble_eq_true rfl), (Nat.le_of_ble_eq_true rfl), (Nat.le_of_ble_eq_true rfl), (Nat.le_of_ble_eq_true rfl)⟩ (by decide) ?_
        refine sp_Tree_value_46 (by omega) ?_
        refine ⟨_, rfl, ?_⟩
        refine ex_lstore (L' := [some (.ref (41)), some (.ref (46)), some (.int (nI (s))), some (.int (nI (c))), some (.int (nI (rl c))), some (.int (nI (p))), some (.int (nI (o - 1))), some (.long (q 50 (sSl ch c (xp (rl c * 15 + p))))), none, none, none]) dX0_workOut_78 (by decide) rfl ?_
        refine ex_aload_n (i := 1) dX0_workOut_80 rfl rfl ?_
        refine ex_aload_n (i := 1) dX0_workOut_81 rfl rfl ?_
        refine ex_iload_n (i := 3) dX0_workOut_82 rfl rfl ?_
        refine ex_aload_n (i := 0) dX0_workOut_83 rfl rfl ?_
        refine ex_getR (v := .ref (1)) dX0_workOut_84 fl_Evaluator_9 rfl rfl (l56 (by decide)) rfl ?_
        refine ex_iload dX0_workOut_87 rfl ?_
        refine ex_iload dX0_workOut_89 rfl ?_
        refine ex_cV (ν := m_Grammar_yAt) (a := 1) (ci := 1) (as := [.int (nI (rl c)), .int (nI (p))]) dX0_workOut_91 ln_Evaluator_90 mf_Grammar_yAt rfl (l56 (by decide)) rfl rfl np_Grammar_yAt rfl rfl ⟨(Nat.le_of_ble_eq_true rfl), (Nat.le_of_ble_eq_true rfl), (Nat.le_of_ble_eq_true rfl), (Nat.le_of_ble_eq_true rfl)⟩ (by decide) ?_
        refine sp_Grammar_yAt sc (by omega) (by omega) ?_
        refine ⟨_, rfl, ?_⟩
        refine ex_asN (a := yp (rl c * 15 + p)) (es.2.2.1 _ (by omega)) ?_
        refine ex_cS (ν := m_Evaluator_slotOf) (as := [.ref (46), .int (nI (c)), .int (nI (yp (rl c * 15 + p)))]) dX0_workOut_94 ln_Evaluator_86 mf_Evaluator_slotOf np_Evaluator_slotOf rfl rfl ⟨(Nat.le_of_ble_eq_true rfl), (Nat.le_of_ble_eq_true rfl), (Nat.le_of_ble_eq_true rfl), (Nat.le_of_ble_eq_true rfl)⟩ (by decide) ?_
        refine sp_Evaluator_slotOf_46 sc hF hw hc.1 hc.2.1 hy.1 ?_
        refine ⟨_, rfl, ?_⟩
        refine ex_cV (ν := m_Tree_value) (a := 46) (ci := 8) (as := [.int (nI (sSl ch c (yp (rl c * 15 + p))))]) dX0_workOut_97 ln_Evaluator_93 mf_Tree_value rfl (l56 (by decide)) rfl rfl np_Tree_value rfl rfl ⟨(Nat.le_of_ble_eq_true rfl), (Nat.le_of_ble_eq_true rfl), (Nat.le_of_ble_eq_true rfl), (Nat.le_of_ble_eq_true rfl)⟩ (by decide) ?_
        refine sp_Tree_value_46 (by omega) ?_
        refine ⟨_, rfl, ?_⟩
        refine ex_lstore (L' := [some (.ref (41)), some (.ref (46)), some (.int (nI (s))), some (.int (nI (c))), some (.int (nI (rl c))), some (.int (nI (p))), some (.int (nI (o - 1))), some (.long (q 50 (sSl ch c (xp (rl c * 15 + p))))), none, some (.long (q 50 (sSl ch c (yp (rl c * 15 + p))))), none]) dX0_workOut_100 (by decide) rfl ?_
        refine ex_iload dX0_workOut_102 rfl ?_
        refine ex_lload dX0_workOut_104 rfl ?_
        refine ex_lload dX0_workOut_106 rfl ?_
        refine ex_cS (ν := m_Evaluator_operate) (as := [.int (nI (o - 1)), .long (q 50 (sSl ch c (xp (rl c * 15 + p)))), .long (q 50 (sSl ch c (yp (rl c * 15 + p))))]) dX0_workOut_108 ln_Evaluator_97 mf_Evaluator_operate np_Evaluator_operate rfl rfl ⟨(Nat.le_of_ble_eq_true rfl), (Nat.le_of_ble_eq_true rfl), (Nat.le_of_ble_eq_true rfl), (Nat.le_of_ble_eq_true rfl)⟩ (by decide) ?_
        refine sp_Evaluator_operate (o := o) (by omega) ?_
        refine ⟨_, rfl, ?_⟩
        refine ex_lret dX0_workOut_111 rfl ?_
        exact hQ
theorem sp_Evaluator_missingFor_51 {s : Nat} {kn : Nat → Nat} (hn : n ≤ 14) (sc : SC i) (es : ES i op xp yp) (ev : EV n sy op xp yp) (hF : i 53 = nd) (hw : TW n sy md nd tb rl pa ch) (hs : s < 3 * md) (hb : tb (s / 3) = false) (hk : ∀ j, j < 3 * md → i 43 j = nI (kn j) ∧ kn j ≤ 1) (hQ : Q (.ok (some (.int (msI op xp yp rl ch kn (sCx pa s))))) (56 + ζ, g, i, q, RT t)) : Wx m_Evaluator_missingFor 0 [some (.ref 41), some (.ref 51), some (.int (nI s)), none, none, none, none, none] [] (56 + ζ, g, i, q, RT t) (0, 0) Q := by
  have h150 := hw.1
  cases h : sCx pa s with
  | none =>
    rw [h] at hQ
    refine ex_aload_n (i := 1) dX0_missingFor_0 rfl rfl ?_
    refine ex_iload_n (i := 2) dX0_missingFor_1 rfl rfl ?_
    refine ex_cS (ν := m_Evaluator_contextOf) (as := [.ref (51), .int (nI (s))]) dX0_missingFor_2 ln_Evaluator_69 mf_Evaluator_contextOf np_Evaluator_contextOf rfl rfl ⟨(Nat.le_of_ble_eq_true rfl), (Nat.le_of_ble_eq_true rfl), (Nat.le_of_ble_eq_true rfl), (Nat.le_of_ble_eq_true rfl)⟩ (by decide) ?_
    refine sp_Evaluator_contextOf_51 sc hF hw hs ?_
    refine ⟨_, rfl, ?_⟩
    refine ex_asI (y := -1) (by rw [h]; rfl) ?_
    refine ex_istore_n (L' := [some (.ref (41)), some (.ref (51)), some (.int (nI (s))), some (.int ((-1))), none, none, none, none]) dX0_missingFor_5 (i := 3) rfl (by decide) rfl ?_
    refine ex_aload_n (i := 1) dX0_missingFor_6 rfl rfl ?_
    refine ex_iload_n (i := 3) dX0_missingFor_7 rfl rfl ?_
    refine ex_cS (ν := m_Evaluator_ruleOf) (as := [.ref (51), .int ((-1))]) dX0_missingFor_8 ln_Evaluator_72 mf_Evaluator_ruleOf np_Evaluator_ruleOf rfl rfl ⟨(Nat.le_of_ble_eq_true rfl), (Nat.le_of_ble_eq_true rfl), (Nat.le_of_ble_eq_true rfl), (Nat.le_of_ble_eq_true rfl)⟩ (by decide) ?_
    refine sp_Evaluator_ruleOf_51 (s := s) (by rw [h]; rfl) sc hF hw hs hb ?_
    refine ⟨_, rfl, ?_⟩
    refine ex_asI (y := -1) (by rw [h]; rfl) ?_
    refine ex_istore (L' := [some (.ref (41)), some (.ref (51)), some (.int (nI (s))), some (.int ((-1))), some (.int ((-1))), none, none, none]) dX0_missingFor_11 (by decide) rfl ?_
    refine ex_aload_n (i := 1) dX0_missingFor_13 rfl rfl ?_
    refine ex_iload_n (i := 2) dX0_missingFor_14 rfl rfl ?_
    refine ex_cS (ν := m_Evaluator_placeOf) (as := [.ref (51), .int (nI (s))]) dX0_missingFor_15 ln_Evaluator_75 mf_Evaluator_placeOf np_Evaluator_placeOf rfl rfl ⟨(Nat.le_of_ble_eq_true rfl), (Nat.le_of_ble_eq_true rfl), (Nat.le_of_ble_eq_true rfl), (Nat.le_of_ble_eq_true rfl)⟩ (by decide) ?_
    refine sp_Evaluator_placeOf_51 sc hF hw hs ?_
    refine ⟨_, rfl, ?_⟩
    refine ex_asN (a := 2) (by rw [h]; rfl) ?_
    refine ex_istore (L' := [some (.ref (41)), some (.ref (51)), some (.int (nI (s))), some (.int ((-1))), some (.int ((-1))), some (.int (nI (2))), none, none]) dX0_missingFor_18 (by decide) rfl ?_
    refine ex_aload_n (i := 0) dX0_missingFor_20 rfl rfl ?_
    refine ex_getR (v := .ref (1)) dX0_missingFor_21 fl_Evaluator_9 rfl rfl (l56 (by decide)) rfl ?_
    refine ex_iload dX0_missingFor_24 rfl ?_
    refine ex_iload dX0_missingFor_26 rfl ?_
    refine ex_cV (ν := m_Grammar_operationAt) (a := 1) (ci := 1) (as := [.int ((-1)), .int (nI (2))]) dX0_missingFor_28 ln_Evaluator_78 mf_Grammar_operationAt rfl (l56 (by decide)) rfl rfl np_Grammar_operationAt rfl rfl ⟨(Nat.le_of_ble_eq_true rfl), (Nat.le_of_ble_eq_true rfl), (Nat.le_of_ble_eq_true rfl), (Nat.le_of_ble_eq_true rfl)⟩ (by decide) ?_
    refine sp_Grammar_operationAt_neg sc ?_
    refine ⟨_, rfl, ?_⟩
    refine ex_istore (L' := [some (.ref (41)), some (.ref (51)), some (.int (nI (s))), some (.int ((-1))), some (.int ((-1))), some (.int (nI (2))), some (.int ((-1))), none]) dX0_missingFor_31 (by decide) rfl ?_
    refine ex_iload dX0_missingFor_33 rfl ?_
    refine ex_iconst (v := nI 1) dX0_missingFor_35 (by decide) ?_
    refine ex_icmp_lt (tgt := 72) dX0_missingFor_36 (by decide) (fun h36 => ?_) (fun h36 => by exact absurd (by decide) h36)
    refine ex_iload dX0_missingFor_72 rfl ?_
    refine ex_iconst (v := nI 2) dX0_missingFor_74 (by decide) ?_
    refine ex_icmp_lt (tgt := 111) dX0_missingFor_75 (by decide) (fun h75 => ?_) (fun h75 => by exact absurd (by decide) h75)
    refine ex_iconst (v := -1) dX0_missingFor_111 (by decide) ?_
    refine ex_iret dX0_missingFor_112 rfl rfl ?_
    exact hQ
  | some v =>
    obtain ⟨c, p⟩ := v
    rw [h] at hQ
    have hc := sCx_ok hw hs hb h
    have hr := ((hw.2 c hc.1).2.1 hc.2.1).2.1
    have ha := arS_lt ev hw hs hb h
    obtain ⟨o, ho⟩ : ∃ o, op (rl c * 15 + p) = o := ⟨_, rfl⟩
    have ho8 : o ≤ 8 := by rw [← ho]; exact es.2.2.2.1 _
    rw [ho] at ha
    have e : opS op rl (some (c, p)) = o := ho
    have ex : arS xp rl ch (some (c, p)) = sSl ch c (xp (rl c * 15 + p)) := rfl
    have ey : arS yp rl ch (some (c, p)) = sSl ch c (yp (rl c * 15 + p)) := rfl
    unfold msI at hQ
    rw [e, ex, ey] at hQ
    by_cases o0 : o = 0
    · subst o0
      rw [if_neg (fun z => absurd z.1 (by decide)), if_neg (fun z => absurd z.1 (by decide))] at hQ
      refine ex_aload_n (i := 1) dX0_missingFor_0 rfl rfl ?_
      refine ex_iload_n (i := 2) dX0_missingFor_1 rfl rfl ?_
      refine ex_cS (ν := m_Evaluator_contextOf) (as := [.ref (51), .int (nI (s))]) dX0_missingFor_2 ln_Evaluator_69 mf_Evaluator_contextOf np_Evaluator_contextOf rfl rfl ⟨(Nat.le_of_ble_eq_true rfl), (Nat.le_of_ble_eq_true rfl), (Nat.le_of_ble_eq_true rfl), (Nat.le_of_ble_eq_true rfl)⟩ (by decide) ?_
      refine sp_Evaluator_contextOf_51 sc hF hw hs ?_
      refine ⟨_, rfl, ?_⟩
      refine ex_asN (a := c) (by rw [h]; rfl) ?_
      refine ex_istore_n (L' := [some (.ref (41)), some (.ref (51)), some (.int (nI (s))), some (.int (nI (c))), none, none, none, none]) dX0_missingFor_5 (i := 3) rfl (by decide) rfl ?_
      refine ex_aload_n (i := 1) dX0_missingFor_6 rfl rfl ?_
      refine ex_iload_n (i := 3) dX0_missingFor_7 rfl rfl ?_
      refine ex_cS (ν := m_Evaluator_ruleOf) (as := [.ref (51), .int (nI (c))]) dX0_missingFor_8 ln_Evaluator_72 mf_Evaluator_ruleOf np_Evaluator_ruleOf rfl rfl ⟨(Nat.le_of_ble_eq_true rfl), (Nat.le_of_ble_eq_true rfl), (Nat.le_of_ble_eq_true rfl), (Nat.le_of_ble_eq_true rfl)⟩ (by decide) ?_
      refine sp_Evaluator_ruleOf_51 (s := s) (by rw [h]; rfl) sc hF hw hs hb ?_
      refine ⟨_, rfl, ?_⟩
      refine ex_asN (a := rl c) (by rw [h]; rfl) ?_
      refine ex_istore (L' := [some (.ref (41)), some (.ref (51)), some (.int (nI (s))), some (.int (nI (c))), some (.int (nI (rl c))), none, none, none]) dX0_missingFor_11 (by decide) rfl ?_
      refine ex_aload_n (i := 1) dX0_missingFor_13 rfl rfl ?_
      refine ex_iload_n (i := 2) dX0_missingFor_14 rfl rfl ?_
      refine ex_cS (ν := m_Evaluator_placeOf) (as := [.ref (51), .int (nI (s))]) dX0_missingFor_15 ln_Evaluator_75 mf_Evaluator_placeOf np_Evaluator_placeOf rfl rfl ⟨(Nat.le_of_ble_eq_true rfl), (Nat.le_of_ble_eq_true rfl), (Nat.le_of_ble_eq_true rfl), (Nat.le_of_ble_eq_true rfl)⟩ (by decide) ?_
      refine sp_Evaluator_placeOf_51 sc hF hw hs ?_
      refine ⟨_, rfl, ?_⟩
      refine ex_asN (a := p) (by rw [h]; rfl) ?_
      refine ex_istore (L' := [some (.ref (41)), some (.ref (51)), some (.int (nI (s))), some (.int (nI (c))), some (.int (nI (rl c))), some (.int (nI (p))), none, none]) dX0_missingFor_18 (by decide) rfl ?_
      refine ex_aload_n (i := 0) dX0_missingFor_20 rfl rfl ?_
      refine ex_getR (v := .ref (1)) dX0_missingFor_21 fl_Evaluator_9 rfl rfl (l56 (by decide)) rfl ?_
      refine ex_iload dX0_missingFor_24 rfl ?_
      refine ex_iload dX0_missingFor_26 rfl ?_
      refine ex_cV (ν := m_Grammar_operationAt) (a := 1) (ci := 1) (as := [.int (nI (rl c)), .int (nI (p))]) dX0_missingFor_28 ln_Evaluator_78 mf_Grammar_operationAt rfl (l56 (by decide)) rfl rfl np_Grammar_operationAt rfl rfl ⟨(Nat.le_of_ble_eq_true rfl), (Nat.le_of_ble_eq_true rfl), (Nat.le_of_ble_eq_true rfl), (Nat.le_of_ble_eq_true rfl)⟩ (by decide) ?_
      refine sp_Grammar_operationAt sc (by omega) hc.2.2 ?_
      refine ⟨_, rfl, ?_⟩
      refine ex_asI (y := -1) (by rw [es.1 _ (by omega), ho]; rfl) ?_
      refine ex_istore (L' := [some (.ref (41)), some (.ref (51)), some (.int (nI (s))), some (.int (nI (c))), some (.int (nI (rl c))), some (.int (nI (p))), some (.int ((-1))), none]) dX0_missingFor_31 (by decide) rfl ?_
      refine ex_iload dX0_missingFor_33 rfl ?_
      refine ex_iconst (v := nI 1) dX0_missingFor_35 (by decide) ?_
      refine ex_icmp_lt (tgt := 72) dX0_missingFor_36 (by decide) (fun h36 => ?_) (fun h36 => by exact absurd (by decide) h36)
      refine ex_iload dX0_missingFor_72 rfl ?_
      refine ex_iconst (v := nI 2) dX0_missingFor_74 (by decide) ?_
      refine ex_icmp_lt (tgt := 111) dX0_missingFor_75 (by decide) (fun h75 => ?_) (fun h75 => by exact absurd (by decide) h75)
      refine ex_iconst (v := -1) dX0_missingFor_111 (by decide) ?_
      refine ex_iret dX0_missingFor_112 rfl rfl ?_
      exact hQ
    · by_cases o1 : o = 1
      · subst o1
        rw [if_neg (fun z => absurd z.1 (by decide)), if_neg (fun z => absurd z.1 (by decide))] at hQ
        refine ex_aload_n (i := 1) dX0_missingFor_0 rfl rfl ?_
        refine ex_iload_n (i := 2) dX0_missingFor_1 rfl rfl ?_
        refine ex_cS (ν := m_Evaluator_contextOf) (as := [.ref (51), .int (nI (s))]) dX0_missingFor_2 ln_Evaluator_69 mf_Evaluator_contextOf np_Evaluator_contextOf rfl rfl ⟨(Nat.le_of_ble_eq_true rfl), (Nat.le_of_ble_eq_true rfl), (Nat.le_of_ble_eq_true rfl), (Nat.le_of_ble_eq_true rfl)⟩ (by decide) ?_
        refine sp_Evaluator_contextOf_51 sc hF hw hs ?_
        refine ⟨_, rfl, ?_⟩
        refine ex_asN (a := c) (by rw [h]; rfl) ?_
        refine ex_istore_n (L' := [some (.ref (41)), some (.ref (51)), some (.int (nI (s))), some (.int (nI (c))), none, none, none, none]) dX0_missingFor_5 (i := 3) rfl (by decide) rfl ?_
        refine ex_aload_n (i := 1) dX0_missingFor_6 rfl rfl ?_
        refine ex_iload_n (i := 3) dX0_missingFor_7 rfl rfl ?_
        refine ex_cS (ν := m_Evaluator_ruleOf) (as := [.ref (51), .int (nI (c))]) dX0_missingFor_8 ln_Evaluator_72 mf_Evaluator_ruleOf np_Evaluator_ruleOf rfl rfl ⟨(Nat.le_of_ble_eq_true rfl), (Nat.le_of_ble_eq_true rfl), (Nat.le_of_ble_eq_true rfl), (Nat.le_of_ble_eq_true rfl)⟩ (by decide) ?_
        refine sp_Evaluator_ruleOf_51 (s := s) (by rw [h]; rfl) sc hF hw hs hb ?_
        refine ⟨_, rfl, ?_⟩
        refine ex_asN (a := rl c) (by rw [h]; rfl) ?_
        refine ex_istore (L' := [some (.ref (41)), some (.ref (51)), some (.int (nI (s))), some (.int (nI (c))), some (.int (nI (rl c))), none, none, none]) dX0_missingFor_11 (by decide) rfl ?_
        refine ex_aload_n (i := 1) dX0_missingFor_13 rfl rfl ?_
        refine ex_iload_n (i := 2) dX0_missingFor_14 rfl rfl ?_
        refine ex_cS (ν := m_Evaluator_placeOf) (as := [.ref (51), .int (nI (s))]) dX0_missingFor_15 ln_Evaluator_75 mf_Evaluator_placeOf np_Evaluator_placeOf rfl rfl ⟨(Nat.le_of_ble_eq_true rfl), (Nat.le_of_ble_eq_true rfl), (Nat.le_of_ble_eq_true rfl), (Nat.le_of_ble_eq_true rfl)⟩ (by decide) ?_
        refine sp_Evaluator_placeOf_51 sc hF hw hs ?_
        refine ⟨_, rfl, ?_⟩
        refine ex_asN (a := p) (by rw [h]; rfl) ?_
        refine ex_istore (L' := [some (.ref (41)), some (.ref (51)), some (.int (nI (s))), some (.int (nI (c))), some (.int (nI (rl c))), some (.int (nI (p))), none, none]) dX0_missingFor_18 (by decide) rfl ?_
        refine ex_aload_n (i := 0) dX0_missingFor_20 rfl rfl ?_
        refine ex_getR (v := .ref (1)) dX0_missingFor_21 fl_Evaluator_9 rfl rfl (l56 (by decide)) rfl ?_
        refine ex_iload dX0_missingFor_24 rfl ?_
        refine ex_iload dX0_missingFor_26 rfl ?_
        refine ex_cV (ν := m_Grammar_operationAt) (a := 1) (ci := 1) (as := [.int (nI (rl c)), .int (nI (p))]) dX0_missingFor_28 ln_Evaluator_78 mf_Grammar_operationAt rfl (l56 (by decide)) rfl rfl np_Grammar_operationAt rfl rfl ⟨(Nat.le_of_ble_eq_true rfl), (Nat.le_of_ble_eq_true rfl), (Nat.le_of_ble_eq_true rfl), (Nat.le_of_ble_eq_true rfl)⟩ (by decide) ?_
        refine sp_Grammar_operationAt sc (by omega) hc.2.2 ?_
        refine ⟨_, rfl, ?_⟩
        refine ex_asN (a := 0) (by rw [es.1 _ (by omega), ho]; rfl) ?_
        refine ex_istore (L' := [some (.ref (41)), some (.ref (51)), some (.int (nI (s))), some (.int (nI (c))), some (.int (nI (rl c))), some (.int (nI (p))), some (.int (nI (0))), none]) dX0_missingFor_31 (by decide) rfl ?_
        refine ex_iload dX0_missingFor_33 rfl ?_
        refine ex_iconst (v := nI 1) dX0_missingFor_35 (by decide) ?_
        refine ex_icmp_ltN (tgt := 72) dX0_missingFor_36 (by decide) (by decide) (by decide) (fun h36 => ?_) (fun h36 => by exact absurd h36 (by decide))
        refine ex_iload dX0_missingFor_72 rfl ?_
        refine ex_iconst (v := nI 2) dX0_missingFor_74 (by decide) ?_
        refine ex_icmp_ltN (tgt := 111) dX0_missingFor_75 (by decide) (by decide) (by decide) (fun h75 => ?_) (fun h75 => by exact absurd h75 (by decide))
        refine ex_iconst (v := -1) dX0_missingFor_111 (by decide) ?_
        refine ex_iret dX0_missingFor_112 rfl rfl ?_
        exact hQ
      · have hx := ha.1 (by omega)
        have hy := ha.2 (by omega)
        have kx := hk _ hx.2
        have ky := hk _ hy.2
        by_cases c1 : kn (sSl ch c (xp (rl c * 15 + p))) = 0
        · rw [if_pos ⟨by omega, c1⟩] at hQ
          refine ex_aload_n (i := 1) dX0_missingFor_0 rfl rfl ?_
          refine ex_iload_n (i := 2) dX0_missingFor_1 rfl rfl ?_
          refine ex_cS (ν := m_Evaluator_contextOf) (as := [.ref (51), .int (nI (s))]) dX0_missingFor_2 ln_Evaluator_69 mf_Evaluator_contextOf np_Evaluator_contextOf rfl rfl ⟨(Nat.le_of_ble_eq_true rfl), (Nat.le_of_ble_eq_true rfl), (Nat.le_of_ble_eq_true rfl), (Nat.le_of_ble_eq_true rfl)⟩ (by decide) ?_
          refine sp_Evaluator_contextOf_51 sc hF hw hs ?_
          refine ⟨_, rfl, ?_⟩
          refine ex_asN (a := c) (by rw [h]; rfl) ?_
          refine ex_istore_n (L' := [some (.ref (41)), some (.ref (51)), some (.int (nI (s))), some (.int (nI (c))), none, none, none, none]) dX0_missingFor_5 (i := 3) rfl (by decide) rfl ?_
          refine ex_aload_n (i := 1) dX0_missingFor_6 rfl rfl ?_
          refine ex_iload_n (i := 3) dX0_missingFor_7 rfl rfl ?_
          refine ex_cS (ν := m_Evaluator_ruleOf) (as := [.ref (51), .int (nI (c))]) dX0_missingFor_8 ln_Evaluator_72 mf_Evaluator_ruleOf np_Evaluator_ruleOf rfl rfl ⟨(Nat.le_of_ble_eq_true rfl), (Nat.le_of_ble_eq_true rfl), (Nat.le_of_ble_eq_true rfl), (Nat.le_of_ble_eq_true rfl)⟩ (by decide) ?_
          refine sp_Evaluator_ruleOf_51 (s := s) (by rw [h]; rfl) sc hF hw hs hb ?_
          refine ⟨_, rfl, ?_⟩
          refine ex_asN (a := rl c) (by rw [h]; rfl) ?_
          refine ex_istore (L' := [some (.ref (41)), some (.ref (51)), some (.int (nI (s))), some (.int (nI (c))), some (.int (nI (rl c))), none, none, none]) dX0_missingFor_11 (by decide) rfl ?_
          refine ex_aload_n (i := 1) dX0_missingFor_13 rfl rfl ?_
          refine ex_iload_n (i := 2) dX0_missingFor_14 rfl rfl ?_
          refine ex_cS (ν := m_Evaluator_placeOf) (as := [.ref (51), .int (nI (s))]) dX0_missingFor_15 ln_Evaluator_75 mf_Evaluator_placeOf np_Evaluator_placeOf rfl rfl ⟨(Nat.le_of_ble_eq_true rfl), (Nat.le_of_ble_eq_true rfl), (Nat.le_of_ble_eq_true rfl), (Nat.le_of_ble_eq_true rfl)⟩ (by decide) ?_
          refine sp_Evaluator_placeOf_51 sc hF hw hs ?_
          refine ⟨_, rfl, ?_⟩
          refine ex_asN (a := p) (by rw [h]; rfl) ?_
          refine ex_istore (L' := [some (.ref (41)), some (.ref (51)), some (.int (nI (s))), some (.int (nI (c))), some (.int (nI (rl c))), some (.int (nI (p))), none, none]) dX0_missingFor_18 (by decide) rfl ?_
          refine ex_aload_n (i := 0) dX0_missingFor_20 rfl rfl ?_
          refine ex_getR (v := .ref (1)) dX0_missingFor_21 fl_Evaluator_9 rfl rfl (l56 (by decide)) rfl ?_
          refine ex_iload dX0_missingFor_24 rfl ?_
          refine ex_iload dX0_missingFor_26 rfl ?_
          refine ex_cV (ν := m_Grammar_operationAt) (a := 1) (ci := 1) (as := [.int (nI (rl c)), .int (nI (p))]) dX0_missingFor_28 ln_Evaluator_78 mf_Grammar_operationAt rfl (l56 (by decide)) rfl rfl np_Grammar_operationAt rfl rfl ⟨(Nat.le_of_ble_eq_true rfl), (Nat.le_of_ble_eq_true rfl), (Nat.le_of_ble_eq_true rfl), (Nat.le_of_ble_eq_true rfl)⟩ (by decide) ?_
          refine sp_Grammar_operationAt sc (by omega) hc.2.2 ?_
          refine ⟨_, rfl, ?_⟩
          refine ex_asN (a := o - 1) (by rw [es.1 _ (by omega), ho]; exact nI_m1' (by omega)) ?_
          refine ex_istore (L' := [some (.ref (41)), some (.ref (51)), some (.int (nI (s))), some (.int (nI (c))), some (.int (nI (rl c))), some (.int (nI (p))), some (.int (nI (o - 1))), none]) dX0_missingFor_31 (by decide) rfl ?_
          refine ex_iload dX0_missingFor_33 rfl ?_
          refine ex_iconst (v := nI 1) dX0_missingFor_35 (by decide) ?_
          refine ex_icmp_ltN (tgt := 72) dX0_missingFor_36 (by decide) (by omega) (by omega) (fun h36 => by omega) (fun h36 => ?_)
          refine ex_aload_n (i := 1) dX0_missingFor_39 rfl rfl ?_
          refine ex_iload_n (i := 3) dX0_missingFor_40 rfl rfl ?_
          refine ex_aload_n (i := 0) dX0_missingFor_41 rfl rfl ?_
          refine ex_getR (v := .ref (1)) dX0_missingFor_42 fl_Evaluator_9 rfl rfl (l56 (by decide)) rfl ?_
          refine ex_iload dX0_missingFor_45 rfl ?_
          refine ex_iload dX0_missingFor_47 rfl ?_
          refine ex_cV (ν := m_Grammar_xAt) (a := 1) (ci := 1) (as := [.int (nI (rl c)), .int (nI (p))]) dX0_missingFor_49 ln_Evaluator_83 mf_Grammar_xAt rfl (l56 (by decide)) rfl rfl np_Grammar_xAt rfl rfl ⟨(Nat.le_of_ble_eq_true rfl), (Nat.le_of_ble_eq_true rfl), (Nat.le_of_ble_eq_true rfl), (Nat.le_of_ble_eq_true rfl)⟩ (by decide) ?_
          refine sp_Grammar_xAt sc (by omega) (by omega) ?_
          refine ⟨_, rfl, ?_⟩
          refine ex_asN (a := xp (rl c * 15 + p)) (es.2.1 _ (by omega)) ?_
          refine ex_cS (ν := m_Evaluator_slotOf) (as := [.ref (51), .int (nI (c)), .int (nI (xp (rl c * 15 + p)))]) dX0_missingFor_52 ln_Evaluator_86 mf_Evaluator_slotOf np_Evaluator_slotOf rfl rfl ⟨(Nat.le_of_ble_eq_true rfl), (Nat.le_of_ble_eq_true rfl), (Nat.le_of_ble_eq_true rfl), (Nat.le_of_ble_eq_true rfl)⟩ (by decide) ?_
          refine sp_Evaluator_slotOf_51 sc hF hw hc.1 hc.2.1 hx.1 ?_
          refine ⟨_, rfl, ?_⟩
          refine ex_istore (L' := [some (.ref (41)), some (.ref (51)), some (.int (nI (s))), some (.int (nI (c))), some (.int (nI (rl c))), some (.int (nI (p))), some (.int (nI (o - 1))), some (.int (nI (sSl ch c (xp (rl c * 15 + p)))))]) dX0_missingFor_55 (by decide) rfl ?_
          refine ex_aload_n (i := 0) dX0_missingFor_57 rfl rfl ?_
          refine ex_getR (v := .ref (42)) dX0_missingFor_58 fl_Evaluator_20 rfl rfl (l56 (by decide)) rfl ?_
          refine ex_iload dX0_missingFor_61 rfl ?_
          refine ex_cV (ν := m_Row_get) (a := 42) (ci := 6) (as := [.int (nI (sSl ch c (xp (rl c * 15 + p))))]) dX0_missingFor_63 ln_Evaluator_41 mf_Row_get rfl (l56 (by decide)) rfl rfl np_Row_get rfl rfl ⟨(Nat.le_of_ble_eq_true rfl), (Nat.le_of_ble_eq_true rfl), (Nat.le_of_ble_eq_true rfl), (Nat.le_of_ble_eq_true rfl)⟩ (by decide) ?_
          refine sp_Row_get (r := 42) (c := 43) rfl rfl rfl (l56 (by decide)) (l56 (by decide)) (by omega) ?_
          refine ⟨_, rfl, ?_⟩
          refine ex_asN (a := kn (sSl ch c (xp (rl c * 15 + p)))) kx.1 ?_
          refine ex_if_neN (tgt := 72) dX0_missingFor_66 (by decide) (by omega) (fun h66 => by exact absurd c1 h66) (fun h66 => ?_)
          refine ex_iload dX0_missingFor_69 rfl ?_
          refine ex_iret dX0_missingFor_71 rfl rfl ?_
          exact hQ
        · rw [if_neg (fun z => absurd z.2 c1)] at hQ
          by_cases o2 : o = 2
          · rw [if_neg (by omega)] at hQ
            refine ex_aload_n (i := 1) dX0_missingFor_0 rfl rfl ?_
            refine ex_iload_n (i := 2) dX0_missingFor_1 rfl rfl ?_
            refine ex_cS (ν := m_Evaluator_contextOf) (as := [.ref (51), .int (nI (s))]) dX0_missingFor_2 ln_Evaluator_69 mf_Evaluator_contextOf np_Evaluator_contextOf rfl rfl ⟨(Nat.le_of_ble_eq_true rfl), (Nat.le_of_ble_eq_true rfl), (Nat.le_of_ble_eq_true rfl), (Nat.le_of_ble_eq_true rfl)⟩ (by decide) ?_
            refine sp_Evaluator_contextOf_51 sc hF hw hs ?_
            refine ⟨_, rfl, ?_⟩
            refine ex_asN (a := c) (by rw [h]; rfl) ?_
            refine ex_istore_n (L' := [some (.ref (41)), some (.ref (51)), some (.int (nI (s))), some (.int (nI (c))), none, none, none, none]) dX0_missingFor_5 (i := 3) rfl (by decide) rfl ?_
            refine ex_aload_n (i := 1) dX0_missingFor_6 rfl rfl ?_
            refine ex_iload_n (i := 3) dX0_missingFor_7 rfl rfl ?_
            refine ex_cS (ν := m_Evaluator_ruleOf) (as := [.ref (51), .int (nI (c))]) dX0_missingFor_8 ln_Evaluator_72 mf_Evaluator_ruleOf np_Evaluator_ruleOf rfl rfl ⟨(Nat.le_of_ble_eq_true rfl), (Nat.le_of_ble_eq_true rfl), (Nat.le_of_ble_eq_true rfl), (Nat.le_of_ble_eq_true rfl)⟩ (by decide) ?_
            refine sp_Evaluator_ruleOf_51 (s := s) (by rw [h]; rfl) sc hF hw hs hb ?_
            refine ⟨_, rfl, ?_⟩
            refine ex_asN (a := rl c) (by rw [h]; rfl) ?_
            refine ex_istore (L' := [some (.ref (41)), some (.ref (51)), some (.int (nI (s))), some (.int (nI (c))), some (.int (nI (rl c))), none, none, none]) dX0_missingFor_11 (by decide) rfl ?_
            refine ex_aload_n (i := 1) dX0_missingFor_13 rfl rfl ?_
            refine ex_iload_n (i := 2) dX0_missingFor_14 rfl rfl ?_
            refine ex_cS (ν := m_Evaluator_placeOf) (as := [.ref (51), .int (nI (s))]) dX0_missingFor_15 ln_Evaluator_75 mf_Evaluator_placeOf np_Evaluator_placeOf rfl rfl ⟨(Nat.le_of_ble_eq_true rfl), (Nat.le_of_ble_eq_true rfl), (Nat.le_of_ble_eq_true rfl), (Nat.le_of_ble_eq_true rfl)⟩ (by decide) ?_
            refine sp_Evaluator_placeOf_51 sc hF hw hs ?_
            refine ⟨_, rfl, ?_⟩
            refine ex_asN (a := p) (by rw [h]; rfl) ?_
            refine ex_istore (L' := [some (.ref (41)), some (.ref (51)), some (.int (nI (s))), some (.int (nI (c))), some (.int (nI (rl c))), some (.int (nI (p))), none, none]) dX0_missingFor_18 (by decide) rfl ?_
            refine ex_aload_n (i := 0) dX0_missingFor_20 rfl rfl ?_
            refine ex_getR (v := .ref (1)) dX0_missingFor_21 fl_Evaluator_9 rfl rfl (l56 (by decide)) rfl ?_
            refine ex_iload dX0_missingFor_24 rfl ?_
            refine ex_iload dX0_missingFor_26 rfl ?_
            refine ex_cV (ν := m_Grammar_operationAt) (a := 1) (ci := 1) (as := [.int (nI (rl c)), .int (nI (p))]) dX0_missingFor_28 ln_Evaluator_78 mf_Grammar_operationAt rfl (l56 (by decide)) rfl rfl np_Grammar_operationAt rfl rfl ⟨(Nat.le_of_ble_eq_true rfl), (Nat.le_of_ble_eq_true rfl), (Nat.le_of_ble_eq_true rfl), (Nat.le_of_ble_eq_true rfl)⟩ (by decide) ?_
            refine sp_Grammar_operationAt sc (by omega) hc.2.2 ?_
            refine ⟨_, rfl, ?_⟩
            refine ex_asN (a := o - 1) (by rw [es.1 _ (by omega), ho]; exact nI_m1' (by omega)) ?_
            refine ex_istore (L' := [some (.ref (41)), some (.ref (51)), some (.int (nI (s))), some (.int (nI (c))), some (.int (nI (rl c))), some (.int (nI (p))), some (.int (nI (o - 1))), none]) dX0_missingFor_31 (by decide) rfl ?_
            refine ex_iload dX0_missingFor_33 rfl ?_
            refine ex_iconst (v := nI 1) dX0_missingFor_35 (by decide) ?_
            refine ex_icmp_ltN (tgt := 72) dX0_missingFor_36 (by decide) (by omega) (by omega) (fun h36 => by omega) (fun h36 => ?_)
            refine ex_aload_n (i := 1) dX0_missingFor_39 rfl rfl ?_
            refine ex_iload_n (i := 3) dX0_missingFor_40 rfl rfl ?_
            refine ex_aload_n (i := 0) dX0_missingFor_41 rfl rfl ?_
            refine ex_getR (v := .ref (1)) dX0_missingFor_42 fl_Evaluator_9 rfl rfl (l56 (by decide)) rfl ?_
            refine ex_iload dX0_missingFor_45 rfl ?_
            refine ex_iload dX0_missingFor_47 rfl ?_
            refine ex_cV (ν := m_Grammar_xAt) (a := 1) (ci := 1) (as := [.int (nI (rl c)), .int (nI (p))]) dX0_missingFor_49 ln_Evaluator_83 mf_Grammar_xAt rfl (l56 (by decide)) rfl rfl np_Grammar_xAt rfl rfl ⟨(Nat.le_of_ble_eq_true rfl), (Nat.le_of_ble_eq_true rfl), (Nat.le_of_ble_eq_true rfl), (Nat.le_of_ble_eq_true rfl)⟩ (by decide) ?_
            refine sp_Grammar_xAt sc (by omega) (by omega) ?_
            refine ⟨_, rfl, ?_⟩
            refine ex_asN (a := xp (rl c * 15 + p)) (es.2.1 _ (by omega)) ?_
            refine ex_cS (ν := m_Evaluator_slotOf) (as := [.ref (51), .int (nI (c)), .int (nI (xp (rl c * 15 + p)))]) dX0_missingFor_52 ln_Evaluator_86 mf_Evaluator_slotOf np_Evaluator_slotOf rfl rfl ⟨(Nat.le_of_ble_eq_true rfl), (Nat.le_of_ble_eq_true rfl), (Nat.le_of_ble_eq_true rfl), (Nat.le_of_ble_eq_true rfl)⟩ (by decide) ?_
            refine sp_Evaluator_slotOf_51 sc hF hw hc.1 hc.2.1 hx.1 ?_
            refine ⟨_, rfl, ?_⟩
            refine ex_istore (L' := [some (.ref (41)), some (.ref (51)), some (.int (nI (s))), some (.int (nI (c))), some (.int (nI (rl c))), some (.int (nI (p))), some (.int (nI (o - 1))), some (.int (nI (sSl ch c (xp (rl c * 15 + p)))))]) dX0_missingFor_55 (by decide) rfl ?_
            refine ex_aload_n (i := 0) dX0_missingFor_57 rfl rfl ?_
            refine ex_getR (v := .ref (42)) dX0_missingFor_58 fl_Evaluator_20 rfl rfl (l56 (by decide)) rfl ?_
            refine ex_iload dX0_missingFor_61 rfl ?_
            refine ex_cV (ν := m_Row_get) (a := 42) (ci := 6) (as := [.int (nI (sSl ch c (xp (rl c * 15 + p))))]) dX0_missingFor_63 ln_Evaluator_41 mf_Row_get rfl (l56 (by decide)) rfl rfl np_Row_get rfl rfl ⟨(Nat.le_of_ble_eq_true rfl), (Nat.le_of_ble_eq_true rfl), (Nat.le_of_ble_eq_true rfl), (Nat.le_of_ble_eq_true rfl)⟩ (by decide) ?_
            refine sp_Row_get (r := 42) (c := 43) rfl rfl rfl (l56 (by decide)) (l56 (by decide)) (by omega) ?_
            refine ⟨_, rfl, ?_⟩
            refine ex_asN (a := kn (sSl ch c (xp (rl c * 15 + p)))) kx.1 ?_
            refine ex_if_neN (tgt := 72) dX0_missingFor_66 (by decide) (by omega) (fun h66 => ?_) (fun h66 => by exact absurd h66 c1)
            refine ex_iload dX0_missingFor_72 rfl ?_
            refine ex_iconst (v := nI 2) dX0_missingFor_74 (by decide) ?_
            refine ex_icmp_ltN (tgt := 111) dX0_missingFor_75 (by decide) (by omega) (by omega) (fun h75 => ?_) (fun h75 => by omega)
            refine ex_iconst (v := -1) dX0_missingFor_111 (by decide) ?_
            refine ex_iret dX0_missingFor_112 rfl rfl ?_
            exact hQ
          · by_cases c2 : kn (sSl ch c (yp (rl c * 15 + p))) = 0
            · rw [if_pos ⟨by omega, c2⟩] at hQ
              refine ex_aload_n (i := 1) dX0_missingFor_0 rfl rfl ?_
              refine ex_iload_n (i := 2) dX0_missingFor_1 rfl rfl ?_
              refine ex_cS (ν := m_Evaluator_contextOf) (as := [.ref (51), .int (nI (s))]) dX0_missingFor_2 ln_Evaluator_69 mf_Evaluator_contextOf np_Evaluator_contextOf rfl rfl ⟨(Nat.le_of_ble_eq_true rfl), (Nat.le_of_ble_eq_true rfl), (Nat.le_of_ble_eq_true rfl), (Nat.le_of_ble_eq_true rfl)⟩ (by decide) ?_
              refine sp_Evaluator_contextOf_51 sc hF hw hs ?_
              refine ⟨_, rfl, ?_⟩
              refine ex_asN (a := c) (by rw [h]; rfl) ?_
              refine ex_istore_n (L' := [some (.ref (41)), some (.ref (51)), some (.int (nI (s))), some (.int (nI (c))), none, none, none, none]) dX0_missingFor_5 (i := 3) rfl (by decide) rfl ?_
              refine ex_aload_n (i := 1) dX0_missingFor_6 rfl rfl ?_
              refine ex_iload_n (i := 3) dX0_missingFor_7 rfl rfl ?_
              refine ex_cS (ν := m_Evaluator_ruleOf) (as := [.ref (51), .int (nI (c))]) dX0_missingFor_8 ln_Evaluator_72 mf_Evaluator_ruleOf np_Evaluator_ruleOf rfl rfl ⟨(Nat.le_of_ble_eq_true rfl), (Nat.le_of_ble_eq_true rfl), (Nat.le_of_ble_eq_true rfl), (Nat.le_of_ble_eq_true rfl)⟩ (by decide) ?_
              refine sp_Evaluator_ruleOf_51 (s := s) (by rw [h]; rfl) sc hF hw hs hb ?_
              refine ⟨_, rfl, ?_⟩
              refine ex_asN (a := rl c) (by rw [h]; rfl) ?_
              refine ex_istore (L' := [some (.ref (41)), some (.ref (51)), some (.int (nI (s))), some (.int (nI (c))), some (.int (nI (rl c))), none, none, none]) dX0_missingFor_11 (by decide) rfl ?_
              refine ex_aload_n (i := 1) dX0_missingFor_13 rfl rfl ?_
              refine ex_iload_n (i := 2) dX0_missingFor_14 rfl rfl ?_
              refine ex_cS (ν := m_Evaluator_placeOf) (as := [.ref (51), .int (nI (s))]) dX0_missingFor_15 ln_Evaluator_75 mf_Evaluator_placeOf np_Evaluator_placeOf rfl rfl ⟨(Nat.le_of_ble_eq_true rfl), (Nat.le_of_ble_eq_true rfl), (Nat.le_of_ble_eq_true rfl), (Nat.le_of_ble_eq_true rfl)⟩ (by decide) ?_
              refine sp_Evaluator_placeOf_51 sc hF hw hs ?_
              refine ⟨_, rfl, ?_⟩
              refine ex_asN (a := p) (by rw [h]; rfl) ?_
              refine ex_istore (L' := [some (.ref (41)), some (.ref (51)), some (.int (nI (s))), some (.int (nI (c))), some (.int (nI (rl c))), some (.int (nI (p))), none, none]) dX0_missingFor_18 (by decide) rfl ?_
              refine ex_aload_n (i := 0) dX0_missingFor_20 rfl rfl ?_
              refine ex_getR (v := .ref (1)) dX0_missingFor_21 fl_Evaluator_9 rfl rfl (l56 (by decide)) rfl ?_
              refine ex_iload dX0_missingFor_24 rfl ?_
              refine ex_iload dX0_missingFor_26 rfl ?_
              refine ex_cV (ν := m_Grammar_operationAt) (a := 1) (ci := 1) (as := [.int (nI (rl c)), .int (nI (p))]) dX0_missingFor_28 ln_Evaluator_78 mf_Grammar_operationAt rfl (l56 (by decide)) rfl rfl np_Grammar_operationAt rfl rfl ⟨(Nat.le_of_ble_eq_true rfl), (Nat.le_of_ble_eq_true rfl), (Nat.le_of_ble_eq_true rfl), (Nat.le_of_ble_eq_true rfl)⟩ (by decide) ?_
              refine sp_Grammar_operationAt sc (by omega) hc.2.2 ?_
              refine ⟨_, rfl, ?_⟩
              refine ex_asN (a := o - 1) (by rw [es.1 _ (by omega), ho]; exact nI_m1' (by omega)) ?_
              refine ex_istore (L' := [some (.ref (41)), some (.ref (51)), some (.int (nI (s))), some (.int (nI (c))), some (.int (nI (rl c))), some (.int (nI (p))), some (.int (nI (o - 1))), none]) dX0_missingFor_31 (by decide) rfl ?_
              refine ex_iload dX0_missingFor_33 rfl ?_
              refine ex_iconst (v := nI 1) dX0_missingFor_35 (by decide) ?_
              refine ex_icmp_ltN (tgt := 72) dX0_missingFor_36 (by decide) (by omega) (by omega) (fun h36 => by omega) (fun h36 => ?_)
              refine ex_aload_n (i := 1) dX0_missingFor_39 rfl rfl ?_
              refine ex_iload_n (i := 3) dX0_missingFor_40 rfl rfl ?_
              refine ex_aload_n (i := 0) dX0_missingFor_41 rfl rfl ?_
              refine ex_getR (v := .ref (1)) dX0_missingFor_42 fl_Evaluator_9 rfl rfl (l56 (by decide)) rfl ?_
              refine ex_iload dX0_missingFor_45 rfl ?_
              refine ex_iload dX0_missingFor_47 rfl ?_
              refine ex_cV (ν := m_Grammar_xAt) (a := 1) (ci := 1) (as := [.int (nI (rl c)), .int (nI (p))]) dX0_missingFor_49 ln_Evaluator_83 mf_Grammar_xAt rfl (l56 (by decide)) rfl rfl np_Grammar_xAt rfl rfl ⟨(Nat.le_of_ble_eq_true rfl), (Nat.le_of_ble_eq_true rfl), (Nat.le_of_ble_eq_true rfl), (Nat.le_of_ble_eq_true rfl)⟩ (by decide) ?_
              refine sp_Grammar_xAt sc (by omega) (by omega) ?_
              refine ⟨_, rfl, ?_⟩
              refine ex_asN (a := xp (rl c * 15 + p)) (es.2.1 _ (by omega)) ?_
              refine ex_cS (ν := m_Evaluator_slotOf) (as := [.ref (51), .int (nI (c)), .int (nI (xp (rl c * 15 + p)))]) dX0_missingFor_52 ln_Evaluator_86 mf_Evaluator_slotOf np_Evaluator_slotOf rfl rfl ⟨(Nat.le_of_ble_eq_true rfl), (Nat.le_of_ble_eq_true rfl), (Nat.le_of_ble_eq_true rfl), (Nat.le_of_ble_eq_true rfl)⟩ (by decide) ?_
              refine sp_Evaluator_slotOf_51 sc hF hw hc.1 hc.2.1 hx.1 ?_
              refine ⟨_, rfl, ?_⟩
              refine ex_istore (L' := [some (.ref (41)), some (.ref (51)), some (.int (nI (s))), some (.int (nI (c))), some (.int (nI (rl c))), some (.int (nI (p))), some (.int (nI (o - 1))), some (.int (nI (sSl ch c (xp (rl c * 15 + p)))))]) dX0_missingFor_55 (by decide) rfl ?_
              refine ex_aload_n (i := 0) dX0_missingFor_57 rfl rfl ?_
              refine ex_getR (v := .ref (42)) dX0_missingFor_58 fl_Evaluator_20 rfl rfl (l56 (by decide)) rfl ?_
              refine ex_iload dX0_missingFor_61 rfl ?_
              refine ex_cV (ν := m_Row_get) (a := 42) (ci := 6) (as := [.int (nI (sSl ch c (xp (rl c * 15 + p))))]) dX0_missingFor_63 ln_Evaluator_41 mf_Row_get rfl (l56 (by decide)) rfl rfl np_Row_get rfl rfl ⟨(Nat.le_of_ble_eq_true rfl), (Nat.le_of_ble_eq_true rfl), (Nat.le_of_ble_eq_true rfl), (Nat.le_of_ble_eq_true rfl)⟩ (by decide) ?_
              refine sp_Row_get (r := 42) (c := 43) rfl rfl rfl (l56 (by decide)) (l56 (by decide)) (by omega) ?_
              refine ⟨_, rfl, ?_⟩
              refine ex_asN (a := kn (sSl ch c (xp (rl c * 15 + p)))) kx.1 ?_
              refine ex_if_neN (tgt := 72) dX0_missingFor_66 (by decide) (by omega) (fun h66 => ?_) (fun h66 => by exact absurd h66 c1)
              refine ex_iload dX0_missingFor_72 rfl ?_
              refine ex_iconst (v := nI 2) dX0_missingFor_74 (by decide) ?_
              refine ex_icmp_ltN (tgt := 111) dX0_missingFor_75 (by decide) (by omega) (by omega) (fun h75 => by omega) (fun h75 => ?_)
              refine ex_aload_n (i := 1) dX0_missingFor_78 rfl rfl ?_
              refine ex_iload_n (i := 3) dX0_missingFor_79 rfl rfl ?_
              refine ex_aload_n (i := 0) dX0_missingFor_80 rfl rfl ?_
              refine ex_getR (v := .ref (1)) dX0_missingFor_81 fl_Evaluator_9 rfl rfl (l56 (by decide)) rfl ?_
              refine ex_iload dX0_missingFor_84 rfl ?_
              refine ex_iload dX0_missingFor_86 rfl ?_
              refine ex_cV (ν := m_Grammar_yAt) (a := 1) (ci := 1) (as := [.int (nI (rl c)), .int (nI (p))]) dX0_missingFor_88 ln_Evaluator_90 mf_Grammar_yAt rfl (l56 (by decide)) rfl rfl np_Grammar_yAt rfl rfl ⟨(Nat.le_of_ble_eq_true rfl), (Nat.le_of_ble_eq_true rfl), (Nat.le_of_ble_eq_true rfl), (Nat.le_of_ble_eq_true rfl)⟩ (by decide) ?_
              refine sp_Grammar_yAt sc (by omega) (by omega) ?_
              refine ⟨_, rfl, ?_⟩
              refine ex_asN (a := yp (rl c * 15 + p)) (es.2.2.1 _ (by omega)) ?_
              refine ex_cS (ν := m_Evaluator_slotOf) (as := [.ref (51), .int (nI (c)), .int (nI (yp (rl c * 15 + p)))]) dX0_missingFor_91 ln_Evaluator_86 mf_Evaluator_slotOf np_Evaluator_slotOf rfl rfl ⟨(Nat.le_of_ble_eq_true rfl), (Nat.le_of_ble_eq_true rfl), (Nat.le_of_ble_eq_true rfl), (Nat.le_of_ble_eq_true rfl)⟩ (by decide) ?_
              refine sp_Evaluator_slotOf_51 sc hF hw hc.1 hc.2.1 hy.1 ?_
              refine ⟨_, rfl, ?_⟩
              refine ex_istore (L' := [some (.ref (41)), some (.ref (51)), some (.int (nI (s))), some (.int (nI (c))), some (.int (nI (rl c))), some (.int (nI (p))), some (.int (nI (o - 1))), some (.int (nI (sSl ch c (yp (rl c * 15 + p)))))]) dX0_missingFor_94 (by decide) rfl ?_
              refine ex_aload_n (i := 0) dX0_missingFor_96 rfl rfl ?_
              refine ex_getR (v := .ref (42)) dX0_missingFor_97 fl_Evaluator_20 rfl rfl (l56 (by decide)) rfl ?_
              refine ex_iload dX0_missingFor_100 rfl ?_
              refine ex_cV (ν := m_Row_get) (a := 42) (ci := 6) (as := [.int (nI (sSl ch c (yp (rl c * 15 + p))))]) dX0_missingFor_102 ln_Evaluator_41 mf_Row_get rfl (l56 (by decide)) rfl rfl np_Row_get rfl rfl ⟨(Nat.le_of_ble_eq_true rfl), (Nat.le_of_ble_eq_true rfl), (Nat.le_of_ble_eq_true rfl), (Nat.le_of_ble_eq_true rfl)⟩ (by decide) ?_
              refine sp_Row_get (r := 42) (c := 43) rfl rfl rfl (l56 (by decide)) (l56 (by decide)) (by omega) ?_
              refine ⟨_, rfl, ?_⟩
              refine ex_asN (a := kn (sSl ch c (yp (rl c * 15 + p)))) ky.1 ?_
              refine ex_if_neN (tgt := 111) dX0_missingFor_105 (by decide) (by omega) (fun h105 => by exact absurd c2 h105) (fun h105 => ?_)
              refine ex_iload dX0_missingFor_108 rfl ?_
              refine ex_iret dX0_missingFor_110 rfl rfl ?_
              exact hQ
            · rw [if_neg (fun z => absurd z.2 c2)] at hQ
              refine ex_aload_n (i := 1) dX0_missingFor_0 rfl rfl ?_
              refine ex_iload_n (i := 2) dX0_missingFor_1 rfl rfl ?_
              refine ex_cS (ν := m_Evaluator_contextOf) (as := [.ref (51), .int (nI (s))]) dX0_missingFor_2 ln_Evaluator_69 mf_Evaluator_contextOf np_Evaluator_contextOf rfl rfl ⟨(Nat.le_of_ble_eq_true rfl), (Nat.le_of_ble_eq_true rfl), (Nat.le_of_ble_eq_true rfl), (Nat.le_of_ble_eq_true rfl)⟩ (by decide) ?_
              refine sp_Evaluator_contextOf_51 sc hF hw hs ?_
              refine ⟨_, rfl, ?_⟩
              refine ex_asN (a := c) (by rw [h]; rfl) ?_
              refine ex_istore_n (L' := [some (.ref (41)), some (.ref (51)), some (.int (nI (s))), some (.int (nI (c))), none, none, none, none]) dX0_missingFor_5 (i := 3) rfl (by decide) rfl ?_
              refine ex_aload_n (i := 1) dX0_missingFor_6 rfl rfl ?_
              refine ex_iload_n (i := 3) dX0_missingFor_7 rfl rfl ?_
              refine ex_cS (ν := m_Evaluator_ruleOf) (as := [.ref (51), .int (nI (c))]) dX0_missingFor_8 ln_Evaluator_72 mf_Evaluator_ruleOf np_Evaluator_ruleOf rfl rfl ⟨(Nat.le_of_ble_eq_true rfl), (Nat.le_of_ble_eq_true rfl), (Nat.le_of_ble_eq_true rfl), (Nat.le_of_ble_eq_true rfl)⟩ (by decide) ?_
              refine sp_Evaluator_ruleOf_51 (s := s) (by rw [h]; rfl) sc hF hw hs hb ?_
              refine ⟨_, rfl, ?_⟩
              refine ex_asN (a := rl c) (by rw [h]; rfl) ?_
              refine ex_istore (L' := [some (.ref (41)), some (.ref (51)), some (.int (nI (s))), some (.int (nI (c))), some (.int (nI (rl c))), none, none, none]) dX0_missingFor_11 (by decide) rfl ?_
              refine ex_aload_n (i := 1) dX0_missingFor_13 rfl rfl ?_
              refine ex_iload_n (i := 2) dX0_missingFor_14 rfl rfl ?_
              refine ex_cS (ν := m_Evaluator_placeOf) (as := [.ref (51), .int (nI (s))]) dX0_missingFor_15 ln_Evaluator_75 mf_Evaluator_placeOf np_Evaluator_placeOf rfl rfl ⟨(Nat.le_of_ble_eq_true rfl), (Nat.le_of_ble_eq_true rfl), (Nat.le_of_ble_eq_true rfl), (Nat.le_of_ble_eq_true rfl)⟩ (by decide) ?_
              refine sp_Evaluator_placeOf_51 sc hF hw hs ?_
              refine ⟨_, rfl, ?_⟩
              refine ex_asN (a := p) (by rw [h]; rfl) ?_
              refine ex_istore (L' := [some (.ref (41)), some (.ref (51)), some (.int (nI (s))), some (.int (nI (c))), some (.int (nI (rl c))), some (.int (nI (p))), none, none]) dX0_missingFor_18 (by decide) rfl ?_
              refine ex_aload_n (i := 0) dX0_missingFor_20 rfl rfl ?_
              refine ex_getR (v := .ref (1)) dX0_missingFor_21 fl_Evaluator_9 rfl rfl (l56 (by decide)) rfl ?_
              refine ex_iload dX0_missingFor_24 rfl ?_
              refine ex_iload dX0_missingFor_26 rfl ?_
              refine ex_cV (ν := m_Grammar_operationAt) (a := 1) (ci := 1) (as := [.int (nI (rl c)), .int (nI (p))]) dX0_missingFor_28 ln_Evaluator_78 mf_Grammar_operationAt rfl (l56 (by decide)) rfl rfl np_Grammar_operationAt rfl rfl ⟨(Nat.le_of_ble_eq_true rfl), (Nat.le_of_ble_eq_true rfl), (Nat.le_of_ble_eq_true rfl), (Nat.le_of_ble_eq_true rfl)⟩ (by decide) ?_
              refine sp_Grammar_operationAt sc (by omega) hc.2.2 ?_
              refine ⟨_, rfl, ?_⟩
              refine ex_asN (a := o - 1) (by rw [es.1 _ (by omega), ho]; exact nI_m1' (by omega)) ?_
              refine ex_istore (L' := [some (.ref (41)), some (.ref (51)), some (.int (nI (s))), some (.int (nI (c))), some (.int (nI (rl c))), some (.int (nI (p))), some (.int (nI (o - 1))), none]) dX0_missingFor_31 (by decide) rfl ?_
              refine ex_iload dX0_missingFor_33 rfl ?_
              refine ex_iconst (v := nI 1) dX0_missingFor_35 (by decide) ?_
              refine ex_icmp_ltN (tgt := 72) dX0_missingFor_36 (by decide) (by omega) (by omega) (fun h36 => by omega) (fun h36 => ?_)
              refine ex_aload_n (i := 1) dX0_missingFor_39 rfl rfl ?_
              refine ex_iload_n (i := 3) dX0_missingFor_40 rfl rfl ?_
              refine ex_aload_n (i := 0) dX0_missingFor_41 rfl rfl ?_
              refine ex_getR (v := .ref (1)) dX0_missingFor_42 fl_Evaluator_9 rfl rfl (l56 (by decide)) rfl ?_
              refine ex_iload dX0_missingFor_45 rfl ?_
              refine ex_iload dX0_missingFor_47 rfl ?_
              refine ex_cV (ν := m_Grammar_xAt) (a := 1) (ci := 1) (as := [.int (nI (rl c)), .int (nI (p))]) dX0_missingFor_49 ln_Evaluator_83 mf_Grammar_xAt rfl (l56 (by decide)) rfl rfl np_Grammar_xAt rfl rfl ⟨(Nat.le_of_ble_eq_true rfl), (Nat.le_of_ble_eq_true rfl), (Nat.le_of_ble_eq_true rfl), (Nat.le_of_ble_eq_true rfl)⟩ (by decide) ?_
              refine sp_Grammar_xAt sc (by omega) (by omega) ?_
              refine ⟨_, rfl, ?_⟩
              refine ex_asN (a := xp (rl c * 15 + p)) (es.2.1 _ (by omega)) ?_
              refine ex_cS (ν := m_Evaluator_slotOf) (as := [.ref (51), .int (nI (c)), .int (nI (xp (rl c * 15 + p)))]) dX0_missingFor_52 ln_Evaluator_86 mf_Evaluator_slotOf np_Evaluator_slotOf rfl rfl ⟨(Nat.le_of_ble_eq_true rfl), (Nat.le_of_ble_eq_true rfl), (Nat.le_of_ble_eq_true rfl), (Nat.le_of_ble_eq_true rfl)⟩ (by decide) ?_
              refine sp_Evaluator_slotOf_51 sc hF hw hc.1 hc.2.1 hx.1 ?_
              refine ⟨_, rfl, ?_⟩
              refine ex_istore (L' := [some (.ref (41)), some (.ref (51)), some (.int (nI (s))), some (.int (nI (c))), some (.int (nI (rl c))), some (.int (nI (p))), some (.int (nI (o - 1))), some (.int (nI (sSl ch c (xp (rl c * 15 + p)))))]) dX0_missingFor_55 (by decide) rfl ?_
              refine ex_aload_n (i := 0) dX0_missingFor_57 rfl rfl ?_
              refine ex_getR (v := .ref (42)) dX0_missingFor_58 fl_Evaluator_20 rfl rfl (l56 (by decide)) rfl ?_
              refine ex_iload dX0_missingFor_61 rfl ?_
              refine ex_cV (ν := m_Row_get) (a := 42) (ci := 6) (as := [.int (nI (sSl ch c (xp (rl c * 15 + p))))]) dX0_missingFor_63 ln_Evaluator_41 mf_Row_get rfl (l56 (by decide)) rfl rfl np_Row_get rfl rfl ⟨(Nat.le_of_ble_eq_true rfl), (Nat.le_of_ble_eq_true rfl), (Nat.le_of_ble_eq_true rfl), (Nat.le_of_ble_eq_true rfl)⟩ (by decide) ?_
              refine sp_Row_get (r := 42) (c := 43) rfl rfl rfl (l56 (by decide)) (l56 (by decide)) (by omega) ?_
              refine ⟨_, rfl, ?_⟩
              refine ex_asN (a := kn (sSl ch c (xp (rl c * 15 + p)))) kx.1 ?_
              refine ex_if_neN (tgt := 72) dX0_missingFor_66 (by decide) (by omega) (fun h66 => ?_) (fun h66 => by exact absurd h66 c1)
              refine ex_iload dX0_missingFor_72 rfl ?_
              refine ex_iconst (v := nI 2) dX0_missingFor_74 (by decide) ?_
              refine ex_icmp_ltN (tgt := 111) dX0_missingFor_75 (by decide) (by omega) (by omega) (fun h75 => by omega) (fun h75 => ?_)
              refine ex_aload_n (i := 1) dX0_missingFor_78 rfl rfl ?_
              refine ex_iload_n (i := 3) dX0_missingFor_79 rfl rfl ?_
              refine ex_aload_n (i := 0) dX0_missingFor_80 rfl rfl ?_
              refine ex_getR (v := .ref (1)) dX0_missingFor_81 fl_Evaluator_9 rfl rfl (l56 (by decide)) rfl ?_
              refine ex_iload dX0_missingFor_84 rfl ?_
              refine ex_iload dX0_missingFor_86 rfl ?_
              refine ex_cV (ν := m_Grammar_yAt) (a := 1) (ci := 1) (as := [.int (nI (rl c)), .int (nI (p))]) dX0_missingFor_88 ln_Evaluator_90 mf_Grammar_yAt rfl (l56 (by decide)) rfl rfl np_Grammar_yAt rfl rfl ⟨(Nat.le_of_ble_eq_true rfl), (Nat.le_of_ble_eq_true rfl), (Nat.le_of_ble_eq_true rfl), (Nat.le_of_ble_eq_true rfl)⟩ (by decide) ?_
              refine sp_Grammar_yAt sc (by omega) (by omega) ?_
              refine ⟨_, rfl, ?_⟩
              refine ex_asN (a := yp (rl c * 15 + p)) (es.2.2.1 _ (by omega)) ?_
              refine ex_cS (ν := m_Evaluator_slotOf) (as := [.ref (51), .int (nI (c)), .int (nI (yp (rl c * 15 + p)))]) dX0_missingFor_91 ln_Evaluator_86 mf_Evaluator_slotOf np_Evaluator_slotOf rfl rfl ⟨(Nat.le_of_ble_eq_true rfl), (Nat.le_of_ble_eq_true rfl), (Nat.le_of_ble_eq_true rfl), (Nat.le_of_ble_eq_true rfl)⟩ (by decide) ?_
              refine sp_Evaluator_slotOf_51 sc hF hw hc.1 hc.2.1 hy.1 ?_
              refine ⟨_, rfl, ?_⟩
              refine ex_istore (L' := [some (.ref (41)), some (.ref (51)), some (.int (nI (s))), some (.int (nI (c))), some (.int (nI (rl c))), some (.int (nI (p))), some (.int (nI (o - 1))), some (.int (nI (sSl ch c (yp (rl c * 15 + p)))))]) dX0_missingFor_94 (by decide) rfl ?_
              refine ex_aload_n (i := 0) dX0_missingFor_96 rfl rfl ?_
              refine ex_getR (v := .ref (42)) dX0_missingFor_97 fl_Evaluator_20 rfl rfl (l56 (by decide)) rfl ?_
              refine ex_iload dX0_missingFor_100 rfl ?_
              refine ex_cV (ν := m_Row_get) (a := 42) (ci := 6) (as := [.int (nI (sSl ch c (yp (rl c * 15 + p))))]) dX0_missingFor_102 ln_Evaluator_41 mf_Row_get rfl (l56 (by decide)) rfl rfl np_Row_get rfl rfl ⟨(Nat.le_of_ble_eq_true rfl), (Nat.le_of_ble_eq_true rfl), (Nat.le_of_ble_eq_true rfl), (Nat.le_of_ble_eq_true rfl)⟩ (by decide) ?_
              refine sp_Row_get (r := 42) (c := 43) rfl rfl rfl (l56 (by decide)) (l56 (by decide)) (by omega) ?_
              refine ⟨_, rfl, ?_⟩
              refine ex_asN (a := kn (sSl ch c (yp (rl c * 15 + p)))) ky.1 ?_
              refine ex_if_neN (tgt := 111) dX0_missingFor_105 (by decide) (by omega) (fun h105 => ?_) (fun h105 => by exact absurd h105 c2)
              refine ex_iconst (v := -1) dX0_missingFor_111 (by decide) ?_
              refine ex_iret dX0_missingFor_112 rfl rfl ?_
              exact hQ
theorem sp_Evaluator_workOut_51 {s : Nat} (hn : n ≤ 14) (sc : SC i) (es : ES i op xp yp) (ev : EV n sy op xp yp) (hF : i 53 = nd) (hw : TW n sy md nd tb rl pa ch) (hs : s < 3 * md) (hb : tb (s / 3) = false) (hQ : Q (.ok (some (.long (wkS op xp yp rl ch (q 55) (sCx pa s))))) (56 + ζ, g, i, q, RT t)) : Wx m_Evaluator_workOut 0 [some (.ref 41), some (.ref 51), some (.int (nI s)), none, none, none, none, none, none, none, none] [] (56 + ζ, g, i, q, RT t) (0, 0) Q := by
  have h150 := hw.1
  cases h : sCx pa s with
  | none =>
    rw [h] at hQ
    refine ex_aload_n (i := 1) dX0_workOut_0 rfl rfl ?_
    refine ex_iload_n (i := 2) dX0_workOut_1 rfl rfl ?_
    refine ex_cS (ν := m_Evaluator_contextOf) (as := [.ref (51), .int (nI (s))]) dX0_workOut_2 ln_Evaluator_69 mf_Evaluator_contextOf np_Evaluator_contextOf rfl rfl ⟨(Nat.le_of_ble_eq_true rfl), (Nat.le_of_ble_eq_true rfl), (Nat.le_of_ble_eq_true rfl), (Nat.le_of_ble_eq_true rfl)⟩ (by decide) ?_
    refine sp_Evaluator_contextOf_51 sc hF hw hs ?_
    refine ⟨_, rfl, ?_⟩
    refine ex_asI (y := -1) (by rw [h]; rfl) ?_
    refine ex_istore_n (L' := [some (.ref (41)), some (.ref (51)), some (.int (nI (s))), some (.int ((-1))), none, none, none, none, none, none, none]) dX0_workOut_5 (i := 3) rfl (by decide) rfl ?_
    refine ex_aload_n (i := 1) dX0_workOut_6 rfl rfl ?_
    refine ex_iload_n (i := 3) dX0_workOut_7 rfl rfl ?_
    refine ex_cS (ν := m_Evaluator_ruleOf) (as := [.ref (51), .int ((-1))]) dX0_workOut_8 ln_Evaluator_72 mf_Evaluator_ruleOf np_Evaluator_ruleOf rfl rfl ⟨(Nat.le_of_ble_eq_true rfl), (Nat.le_of_ble_eq_true rfl), (Nat.le_of_ble_eq_true rfl), (Nat.le_of_ble_eq_true rfl)⟩ (by decide) ?_
    refine sp_Evaluator_ruleOf_51 (s := s) (by rw [h]; rfl) sc hF hw hs hb ?_
    refine ⟨_, rfl, ?_⟩
    refine ex_asI (y := -1) (by rw [h]; rfl) ?_
    refine ex_istore (L' := [some (.ref (41)), some (.ref (51)), some (.int (nI (s))), some (.int ((-1))), some (.int ((-1))), none, none, none, none, none, none]) dX0_workOut_11 (by decide) rfl ?_
    refine ex_aload_n (i := 1) dX0_workOut_13 rfl rfl ?_
    refine ex_iload_n (i := 2) dX0_workOut_14 rfl rfl ?_
    refine ex_cS (ν := m_Evaluator_placeOf) (as := [.ref (51), .int (nI (s))]) dX0_workOut_15 ln_Evaluator_75 mf_Evaluator_placeOf np_Evaluator_placeOf rfl rfl ⟨(Nat.le_of_ble_eq_true rfl), (Nat.le_of_ble_eq_true rfl), (Nat.le_of_ble_eq_true rfl), (Nat.le_of_ble_eq_true rfl)⟩ (by decide) ?_
    refine sp_Evaluator_placeOf_51 sc hF hw hs ?_
    refine ⟨_, rfl, ?_⟩
    refine ex_asN (a := 2) (by rw [h]; rfl) ?_
    refine ex_istore (L' := [some (.ref (41)), some (.ref (51)), some (.int (nI (s))), some (.int ((-1))), some (.int ((-1))), some (.int (nI (2))), none, none, none, none, none]) dX0_workOut_18 (by decide) rfl ?_
    refine ex_aload_n (i := 0) dX0_workOut_20 rfl rfl ?_
    refine ex_getR (v := .ref (1)) dX0_workOut_21 fl_Evaluator_9 rfl rfl (l56 (by decide)) rfl ?_
    refine ex_iload dX0_workOut_24 rfl ?_
    refine ex_iload dX0_workOut_26 rfl ?_
    refine ex_cV (ν := m_Grammar_operationAt) (a := 1) (ci := 1) (as := [.int ((-1)), .int (nI (2))]) dX0_workOut_28 ln_Evaluator_78 mf_Grammar_operationAt rfl (l56 (by decide)) rfl rfl np_Grammar_operationAt rfl rfl ⟨(Nat.le_of_ble_eq_true rfl), (Nat.le_of_ble_eq_true rfl), (Nat.le_of_ble_eq_true rfl), (Nat.le_of_ble_eq_true rfl)⟩ (by decide) ?_
    refine sp_Grammar_operationAt_neg sc ?_
    refine ⟨_, rfl, ?_⟩
    refine ex_istore (L' := [some (.ref (41)), some (.ref (51)), some (.int (nI (s))), some (.int ((-1))), some (.int ((-1))), some (.int (nI (2))), some (.int ((-1))), none, none, none, none]) dX0_workOut_31 (by decide) rfl ?_
    refine ex_iload dX0_workOut_33 rfl ?_
    refine ex_if_ge (tgt := 40) dX0_workOut_35 (by decide) (fun h35 => by exact absurd h35 (by decide)) (fun h35 => ?_)
    refine ex_lconst (v := 0) dX0_workOut_38 (by decide) ?_
    refine ex_lret dX0_workOut_39 rfl ?_
    exact hQ
  | some v =>
    obtain ⟨c, p⟩ := v
    rw [h] at hQ
    have hc := sCx_ok hw hs hb h
    have hr := ((hw.2 c hc.1).2.1 hc.2.1).2.1
    have ha := arS_lt ev hw hs hb h
    obtain ⟨o, ho⟩ : ∃ o, op (rl c * 15 + p) = o := ⟨_, rfl⟩
    have ho8 : o ≤ 8 := by rw [← ho]; exact es.2.2.2.1 _
    rw [ho] at ha
    have e : opS op rl (some (c, p)) = o := ho
    have ex : arS xp rl ch (some (c, p)) = sSl ch c (xp (rl c * 15 + p)) := rfl
    have ey : arS yp rl ch (some (c, p)) = sSl ch c (yp (rl c * 15 + p)) := rfl
    have en : nmS xp rl (some (c, p)) = xp (rl c * 15 + p) := rfl
    unfold wkS at hQ
    rw [e, ex, ey, en] at hQ
    by_cases o0 : o = 0
    · subst o0
      rw [if_pos rfl] at hQ
      refine ex_aload_n (i := 1) dX0_workOut_0 rfl rfl ?_
      refine ex_iload_n (i := 2) dX0_workOut_1 rfl rfl ?_
      refine ex_cS (ν := m_Evaluator_contextOf) (as := [.ref (51), .int (nI (s))]) dX0_workOut_2 ln_Evaluator_69 mf_Evaluator_contextOf np_Evaluator_contextOf rfl rfl ⟨(Nat.le_of_ble_eq_true rfl), (Nat.le_of_ble_eq_true rfl), (Nat.le_of_ble_eq_true rfl), (Nat.le_of_ble_eq_true rfl)⟩ (by decide) ?_
      refine sp_Evaluator_contextOf_51 sc hF hw hs ?_
      refine ⟨_, rfl, ?_⟩
      refine ex_asN (a := c) (by rw [h]; rfl) ?_
      refine ex_istore_n (L' := [some (.ref (41)), some (.ref (51)), some (.int (nI (s))), some (.int (nI (c))), none, none, none, none, none, none, none]) dX0_workOut_5 (i := 3) rfl (by decide) rfl ?_
      refine ex_aload_n (i := 1) dX0_workOut_6 rfl rfl ?_
      refine ex_iload_n (i := 3) dX0_workOut_7 rfl rfl ?_
      refine ex_cS (ν := m_Evaluator_ruleOf) (as := [.ref (51), .int (nI (c))]) dX0_workOut_8 ln_Evaluator_72 mf_Evaluator_ruleOf np_Evaluator_ruleOf rfl rfl ⟨(Nat.le_of_ble_eq_true rfl), (Nat.le_of_ble_eq_true rfl), (Nat.le_of_ble_eq_true rfl), (Nat.le_of_ble_eq_true rfl)⟩ (by decide) ?_
      refine sp_Evaluator_ruleOf_51 (s := s) (by rw [h]; rfl) sc hF hw hs hb ?_
      refine ⟨_, rfl, ?_⟩
      refine ex_asN (a := rl c) (by rw [h]; rfl) ?_
      refine ex_istore (L' := [some (.ref (41)), some (.ref (51)), some (.int (nI (s))), some (.int (nI (c))), some (.int (nI (rl c))), none, none, none, none, none, none]) dX0_workOut_11 (by decide) rfl ?_
      refine ex_aload_n (i := 1) dX0_workOut_13 rfl rfl ?_
      refine ex_iload_n (i := 2) dX0_workOut_14 rfl rfl ?_
      refine ex_cS (ν := m_Evaluator_placeOf) (as := [.ref (51), .int (nI (s))]) dX0_workOut_15 ln_Evaluator_75 mf_Evaluator_placeOf np_Evaluator_placeOf rfl rfl ⟨(Nat.le_of_ble_eq_true rfl), (Nat.le_of_ble_eq_true rfl), (Nat.le_of_ble_eq_true rfl), (Nat.le_of_ble_eq_true rfl)⟩ (by decide) ?_
      refine sp_Evaluator_placeOf_51 sc hF hw hs ?_
      refine ⟨_, rfl, ?_⟩
      refine ex_asN (a := p) (by rw [h]; rfl) ?_
      refine ex_istore (L' := [some (.ref (41)), some (.ref (51)), some (.int (nI (s))), some (.int (nI (c))), some (.int (nI (rl c))), some (.int (nI (p))), none, none, none, none, none]) dX0_workOut_18 (by decide) rfl ?_
      refine ex_aload_n (i := 0) dX0_workOut_20 rfl rfl ?_
      refine ex_getR (v := .ref (1)) dX0_workOut_21 fl_Evaluator_9 rfl rfl (l56 (by decide)) rfl ?_
      refine ex_iload dX0_workOut_24 rfl ?_
      refine ex_iload dX0_workOut_26 rfl ?_
      refine ex_cV (ν := m_Grammar_operationAt) (a := 1) (ci := 1) (as := [.int (nI (rl c)), .int (nI (p))]) dX0_workOut_28 ln_Evaluator_78 mf_Grammar_operationAt rfl (l56 (by decide)) rfl rfl np_Grammar_operationAt rfl rfl ⟨(Nat.le_of_ble_eq_true rfl), (Nat.le_of_ble_eq_true rfl), (Nat.le_of_ble_eq_true rfl), (Nat.le_of_ble_eq_true rfl)⟩ (by decide) ?_
      refine sp_Grammar_operationAt sc (by omega) hc.2.2 ?_
      refine ⟨_, rfl, ?_⟩
      refine ex_asI (y := -1) (by rw [es.1 _ (by omega), ho]; rfl) ?_
      refine ex_istore (L' := [some (.ref (41)), some (.ref (51)), some (.int (nI (s))), some (.int (nI (c))), some (.int (nI (rl c))), some (.int (nI (p))), some (.int ((-1))), none, none, none, none]) dX0_workOut_31 (by decide) rfl ?_
      refine ex_iload dX0_workOut_33 rfl ?_
      refine ex_if_ge (tgt := 40) dX0_workOut_35 (by decide) (fun h35 => by exact absurd h35 (by decide)) (fun h35 => ?_)
      refine ex_lconst (v := 0) dX0_workOut_38 (by decide) ?_
      refine ex_lret dX0_workOut_39 rfl ?_
      exact hQ
    · rw [if_neg o0] at hQ
      by_cases o1 : o = 1
      · subst o1
        rw [if_pos rfl] at hQ
        refine ex_aload_n (i := 1) dX0_workOut_0 rfl rfl ?_
        refine ex_iload_n (i := 2) dX0_workOut_1 rfl rfl ?_
        refine ex_cS (ν := m_Evaluator_contextOf) (as := [.ref (51), .int (nI (s))]) dX0_workOut_2 ln_Evaluator_69 mf_Evaluator_contextOf np_Evaluator_contextOf rfl rfl ⟨(Nat.le_of_ble_eq_true rfl), (Nat.le_of_ble_eq_true rfl), (Nat.le_of_ble_eq_true rfl), (Nat.le_of_ble_eq_true rfl)⟩ (by decide) ?_
        refine sp_Evaluator_contextOf_51 sc hF hw hs ?_
        refine ⟨_, rfl, ?_⟩
        refine ex_asN (a := c) (by rw [h]; rfl) ?_
        refine ex_istore_n (L' := [some (.ref (41)), some (.ref (51)), some (.int (nI (s))), some (.int (nI (c))), none, none, none, none, none, none, none]) dX0_workOut_5 (i := 3) rfl (by decide) rfl ?_
        refine ex_aload_n (i := 1) dX0_workOut_6 rfl rfl ?_
        refine ex_iload_n (i := 3) dX0_workOut_7 rfl rfl ?_
        refine ex_cS (ν := m_Evaluator_ruleOf) (as := [.ref (51), .int (nI (c))]) dX0_workOut_8 ln_Evaluator_72 mf_Evaluator_ruleOf np_Evaluator_ruleOf rfl rfl ⟨(Nat.le_of_ble_eq_true rfl), (Nat.le_of_ble_eq_true rfl), (Nat.le_of_ble_eq_true rfl), (Nat.le_of_ble_eq_true rfl)⟩ (by decide) ?_
        refine sp_Evaluator_ruleOf_51 (s := s) (by rw [h]; rfl) sc hF hw hs hb ?_
        refine ⟨_, rfl, ?_⟩
        refine ex_asN (a := rl c) (by rw [h]; rfl) ?_
        refine ex_istore (L' := [some (.ref (41)), some (.ref (51)), some (.int (nI (s))), some (.int (nI (c))), some (.int (nI (rl c))), none, none, none, none, none, none]) dX0_workOut_11 (by decide) rfl ?_
        refine ex_aload_n (i := 1) dX0_workOut_13 rfl rfl ?_
        refine ex_iload_n (i := 2) dX0_workOut_14 rfl rfl ?_
        refine ex_cS (ν := m_Evaluator_placeOf) (as := [.ref (51), .int (nI (s))]) dX0_workOut_15 ln_Evaluator_75 mf_Evaluator_placeOf np_Evaluator_placeOf rfl rfl ⟨(Nat.le_of_ble_eq_true rfl), (Nat.le_of_ble_eq_true rfl), (Nat.le_of_ble_eq_true rfl), (Nat.le_of_ble_eq_true rfl)⟩ (by decide) ?_
        refine sp_Evaluator_placeOf_51 sc hF hw hs ?_
        refine ⟨_, rfl, ?_⟩
        refine ex_asN (a := p) (by rw [h]; rfl) ?_
        refine ex_istore (L' := [some (.ref (41)), some (.ref (51)), some (.int (nI (s))), some (.int (nI (c))), some (.int (nI (rl c))), some (.int (nI (p))), none, none, none, none, none]) dX0_workOut_18 (by decide) rfl ?_
        refine ex_aload_n (i := 0) dX0_workOut_20 rfl rfl ?_
        refine ex_getR (v := .ref (1)) dX0_workOut_21 fl_Evaluator_9 rfl rfl (l56 (by decide)) rfl ?_
        refine ex_iload dX0_workOut_24 rfl ?_
        refine ex_iload dX0_workOut_26 rfl ?_
        refine ex_cV (ν := m_Grammar_operationAt) (a := 1) (ci := 1) (as := [.int (nI (rl c)), .int (nI (p))]) dX0_workOut_28 ln_Evaluator_78 mf_Grammar_operationAt rfl (l56 (by decide)) rfl rfl np_Grammar_operationAt rfl rfl ⟨(Nat.le_of_ble_eq_true rfl), (Nat.le_of_ble_eq_true rfl), (Nat.le_of_ble_eq_true rfl), (Nat.le_of_ble_eq_true rfl)⟩ (by decide) ?_
        refine sp_Grammar_operationAt sc (by omega) hc.2.2 ?_
        refine ⟨_, rfl, ?_⟩
        refine ex_asN (a := 0) (by rw [es.1 _ (by omega), ho]; rfl) ?_
        refine ex_istore (L' := [some (.ref (41)), some (.ref (51)), some (.int (nI (s))), some (.int (nI (c))), some (.int (nI (rl c))), some (.int (nI (p))), some (.int (nI (0))), none, none, none, none]) dX0_workOut_31 (by decide) rfl ?_
        refine ex_iload dX0_workOut_33 rfl ?_
        refine ex_if_geN (tgt := 40) dX0_workOut_35 (by decide) (by omega) ?_
        refine ex_iload dX0_workOut_40 rfl ?_
        refine ex_if_neN (tgt := 58) dX0_workOut_42 (by decide) (by omega) (fun h42 => by exact absurd h42 (by decide)) (fun h42 => ?_)
        refine ex_aload_n (i := 0) dX0_workOut_45 rfl rfl ?_
        refine ex_getR (v := .ref (1)) dX0_workOut_46 fl_Evaluator_9 rfl rfl (l56 (by decide)) rfl ?_
        refine ex_iload dX0_workOut_49 rfl ?_
        refine ex_iload dX0_workOut_51 rfl ?_
        refine ex_cV (ν := m_Grammar_xAt) (a := 1) (ci := 1) (as := [.int (nI (rl c)), .int (nI (p))]) dX0_workOut_53 ln_Evaluator_83 mf_Grammar_xAt rfl (l56 (by decide)) rfl rfl np_Grammar_xAt rfl rfl ⟨(Nat.le_of_ble_eq_true rfl), (Nat.le_of_ble_eq_true rfl), (Nat.le_of_ble_eq_true rfl), (Nat.le_of_ble_eq_true rfl)⟩ (by decide) ?_
        refine sp_Grammar_xAt sc (by omega) (by omega) ?_
        refine ⟨_, rfl, ?_⟩
        refine ex_asN (a := xp (rl c * 15 + p)) (es.2.1 _ (by omega)) ?_
        refine ex_i2l dX0_workOut_56 ?_
        refine ex_lret dX0_workOut_57 rfl ?_
        exact hQ
      · rw [if_neg o1] at hQ
        have hx := ha.1 (by omega)
        have hy := ha.2 (by omega)
        refine ex_aload_n (i := 1) dX0_workOut_0 rfl rfl ?_
        refine ex_iload_n (i := 2) dX0_workOut_1 rfl rfl ?_
        refine ex_cS (ν := m_Evaluator_contextOf) (as := [.ref (51), .int (nI (s))]) dX0_workOut_2 ln_Evaluator_69 mf_Evaluator_contextOf np_Evaluator_contextOf rfl rfl ⟨(Nat.le_of_ble_eq_true rfl), (Nat.le_of_ble_eq_true rfl), (Nat.le_of_ble_eq_true rfl), (Nat.le_of_ble_eq_true rfl)⟩ (by decide) ?_
        refine sp_Evaluator_contextOf_51 sc hF hw hs ?_
        refine ⟨_, rfl, ?_⟩
        refine ex_asN (a := c) (by rw [h]; rfl) ?_
        refine ex_istore_n (L' := [some (.ref (41)), some (.ref (51)), some (.int (nI (s))), some (.int (nI (c))), none, none, none, none, none, none, none]) dX0_workOut_5 (i := 3) rfl (by decide) rfl ?_
        refine ex_aload_n (i := 1) dX0_workOut_6 rfl rfl ?_
        refine ex_iload_n (i := 3) dX0_workOut_7 rfl rfl ?_
        refine ex_cS (ν := m_Evaluator_ruleOf) (as := [.ref (51), .int (nI (c))]) dX0_workOut_8 ln_Evaluator_72 mf_Evaluator_ruleOf np_Evaluator_ruleOf rfl rfl ⟨(Nat.le_of_ble_eq_true rfl), (Nat.le_of_ble_eq_true rfl), (Nat.le_of_ble_eq_true rfl), (Nat.le_of_ble_eq_true rfl)⟩ (by decide) ?_
        refine sp_Evaluator_ruleOf_51 (s := s) (by rw [h]; rfl) sc hF hw hs hb ?_
        refine ⟨_, rfl, ?_⟩
        refine ex_asN (a := rl c) (by rw [h]; rfl) ?_
        refine ex_istore (L' := [some (.ref (41)), some (.ref (51)), some (.int (nI (s))), some (.int (nI (c))), some (.int (nI (rl c))), none, none, none, none, none, none]) dX0_workOut_11 (by decide) rfl ?_
        refine ex_aload_n (i := 1) dX0_workOut_13 rfl rfl ?_
        refine ex_iload_n (i := 2) dX0_workOut_14 rfl rfl ?_
        refine ex_cS (ν := m_Evaluator_placeOf) (as := [.ref (51), .int (nI (s))]) dX0_workOut_15 ln_Evaluator_75 mf_Evaluator_placeOf np_Evaluator_placeOf rfl rfl ⟨(Nat.le_of_ble_eq_true rfl), (Nat.le_of_ble_eq_true rfl), (Nat.le_of_ble_eq_true rfl), (Nat.le_of_ble_eq_true rfl)⟩ (by decide) ?_
        refine sp_Evaluator_placeOf_51 sc hF hw hs ?_
        refine ⟨_, rfl, ?_⟩
        refine ex_asN (a := p) (by rw [h]; rfl) ?_
        refine ex_istore (L' := [some (.ref (41)), some (.ref (51)), some (.int (nI (s))), some (.int (nI (c))), some (.int (nI (rl c))), some (.int (nI (p))), none, none, none, none, none]) dX0_workOut_18 (by decide) rfl ?_
        refine ex_aload_n (i := 0) dX0_workOut_20 rfl rfl ?_
        refine ex_getR (v := .ref (1)) dX0_workOut_21 fl_Evaluator_9 rfl rfl (l56 (by decide)) rfl ?_
        refine ex_iload dX0_workOut_24 rfl ?_
        refine ex_iload dX0_workOut_26 rfl ?_
        refine ex_cV (ν := m_Grammar_operationAt) (a := 1) (ci := 1) (as := [.int (nI (rl c)), .int (nI (p))]) dX0_workOut_28 ln_Evaluator_78 mf_Grammar_operationAt rfl (l56 (by decide)) rfl rfl np_Grammar_operationAt rfl rfl ⟨(Nat.le_of_ble_eq_true rfl), (Nat.le_of_ble_eq_true rfl), (Nat.le_of_ble_eq_true rfl), (Nat.le_of_ble_eq_true rfl)⟩ (by decide) ?_
        refine sp_Grammar_operationAt sc (by omega) hc.2.2 ?_
        refine ⟨_, rfl, ?_⟩
        refine ex_asN (a := o - 1) (by rw [es.1 _ (by omega), ho]; exact nI_m1' (by omega)) ?_
        refine ex_istore (L' := [some (.ref (41)), some (.ref (51)), some (.int (nI (s))), some (.int (nI (c))), some (.int (nI (rl c))), some (.int (nI (p))), some (.int (nI (o - 1))), none, none, none, none]) dX0_workOut_31 (by decide) rfl ?_
        refine ex_iload dX0_workOut_33 rfl ?_
        refine ex_if_geN (tgt := 40) dX0_workOut_35 (by decide) (by omega) ?_
        refine ex_iload dX0_workOut_40 rfl ?_
        refine ex_if_neN (tgt := 58) dX0_workOut_42 (by decide) (by omega) (fun h42 => ?_) (fun h42 => by omega)
        refine ex_aload_n (i := 1) dX0_workOut_58 rfl rfl ?_
        refine ex_aload_n (i := 1) dX0_workOut_59 rfl rfl ?_
        refine ex_iload_n (i := 3) dX0_workOut_60 rfl rfl ?_
        refine ex_aload_n (i := 0) dX0_workOut_61 rfl rfl ?_
        refine ex_getR (v := .ref (1)) dX0_workOut_62 fl_Evaluator_9 rfl rfl (l56 (by decide)) rfl ?_
        refine ex_iload dX0_workOut_65 rfl ?_
        refine ex_iload dX0_workOut_67 rfl ?_
        refine ex_cV (ν := m_Grammar_xAt) (a := 1) (ci := 1) (as := [.int (nI (rl c)), .int (nI (p))]) dX0_workOut_69 ln_Evaluator_83 mf_Grammar_xAt rfl (l56 (by decide)) rfl rfl np_Grammar_xAt rfl rfl ⟨(Nat.le_of_ble_eq_true rfl), (Nat.le_of_ble_eq_true rfl), (Nat.le_of_ble_eq_true rfl), (Nat.le_of_ble_eq_true rfl)⟩ (by decide) ?_
        refine sp_Grammar_xAt sc (by omega) (by omega) ?_
        refine ⟨_, rfl, ?_⟩
        refine ex_asN (a := xp (rl c * 15 + p)) (es.2.1 _ (by omega)) ?_
        refine ex_cS (ν := m_Evaluator_slotOf) (as := [.ref (51), .int (nI (c)), .int (nI (xp (rl c * 15 + p)))]) dX0_workOut_72 ln_Evaluator_86 mf_Evaluator_slotOf np_Evaluator_slotOf rfl rfl ⟨(Nat.le_of_ble_eq_true rfl), (Nat.le_of_ble_eq_true rfl), (Nat.le_of_ble_eq_true rfl), (Nat.le_of_ble_eq_true rfl)⟩ (by decide) ?_
        refine sp_Evaluator_slotOf_51 sc hF hw hc.1 hc.2.1 hx.1 ?_
        refine ⟨_, rfl, ?_⟩
        refine ex_cV (ν := m_Tree_value) (a := 51) (ci := 8) (as := [.int (nI (sSl ch c (xp (rl c * 15 + p))))]) dX0_workOut_75 ln_Evaluator_93 mf_Tree_value rfl (l56 (by decide)) rfl rfl np_Tree_value rfl rfl ⟨(Nat.le_of_ble_eq_true rfl), (Nat.le_of_ble_eq_true rfl), (Nat.le_of_ble_eq_true rfl), (Nat.le_of_ble_eq_true rfl)⟩ (by decide) ?_
        refine sp_Tree_value_51 (by omega) ?_
        refine ⟨_, rfl, ?_⟩
        refine ex_lstore (L' := [some (.ref (41)), some (.ref (51)), some (.int (nI (s))), some (.int (nI (c))), some (.int (nI (rl c))), some (.int (nI (p))), some (.int (nI (o - 1))), some (.long (q 55 (sSl ch c (xp (rl c * 15 + p))))), none, none, none]) dX0_workOut_78 (by decide) rfl ?_
        refine ex_aload_n (i := 1) dX0_workOut_80 rfl rfl ?_
        refine ex_aload_n (i := 1) dX0_workOut_81 rfl rfl ?_
        refine ex_iload_n (i := 3) dX0_workOut_82 rfl rfl ?_
        refine ex_aload_n (i := 0) dX0_workOut_83 rfl rfl ?_
        refine ex_getR (v := .ref (1)) dX0_workOut_84 fl_Evaluator_9 rfl rfl (l56 (by decide)) rfl ?_
        refine ex_iload dX0_workOut_87 rfl ?_
        refine ex_iload dX0_workOut_89 rfl ?_
        refine ex_cV (ν := m_Grammar_yAt) (a := 1) (ci := 1) (as := [.int (nI (rl c)), .int (nI (p))]) dX0_workOut_91 ln_Evaluator_90 mf_Grammar_yAt rfl (l56 (by decide)) rfl rfl np_Grammar_yAt rfl rfl ⟨(Nat.le_of_ble_eq_true rfl), (Nat.le_of_ble_eq_true rfl), (Nat.le_of_ble_eq_true rfl), (Nat.le_of_ble_eq_true rfl)⟩ (by decide) ?_
        refine sp_Grammar_yAt sc (by omega) (by omega) ?_
        refine ⟨_, rfl, ?_⟩
        refine ex_asN (a := yp (rl c * 15 + p)) (es.2.2.1 _ (by omega)) ?_
        refine ex_cS (ν := m_Evaluator_slotOf) (as := [.ref (51), .int (nI (c)), .int (nI (yp (rl c * 15 + p)))]) dX0_workOut_94 ln_Evaluator_86 mf_Evaluator_slotOf np_Evaluator_slotOf rfl rfl ⟨(Nat.le_of_ble_eq_true rfl), (Nat.le_of_ble_eq_true rfl), (Nat.le_of_ble_eq_true rfl), (Nat.le_of_ble_eq_true rfl)⟩ (by decide) ?_
        refine sp_Evaluator_slotOf_51 sc hF hw hc.1 hc.2.1 hy.1 ?_
        refine ⟨_, rfl, ?_⟩
        refine ex_cV (ν := m_Tree_value) (a := 51) (ci := 8) (as := [.int (nI (sSl ch c (yp (rl c * 15 + p))))]) dX0_workOut_97 ln_Evaluator_93 mf_Tree_value rfl (l56 (by decide)) rfl rfl np_Tree_value rfl rfl ⟨(Nat.le_of_ble_eq_true rfl), (Nat.le_of_ble_eq_true rfl), (Nat.le_of_ble_eq_true rfl), (Nat.le_of_ble_eq_true rfl)⟩ (by decide) ?_
        refine sp_Tree_value_51 (by omega) ?_
        refine ⟨_, rfl, ?_⟩
        refine ex_lstore (L' := [some (.ref (41)), some (.ref (51)), some (.int (nI (s))), some (.int (nI (c))), some (.int (nI (rl c))), some (.int (nI (p))), some (.int (nI (o - 1))), some (.long (q 55 (sSl ch c (xp (rl c * 15 + p))))), none, some (.long (q 55 (sSl ch c (yp (rl c * 15 + p))))), none]) dX0_workOut_100 (by decide) rfl ?_
        refine ex_iload dX0_workOut_102 rfl ?_
        refine ex_lload dX0_workOut_104 rfl ?_
        refine ex_lload dX0_workOut_106 rfl ?_
        refine ex_cS (ν := m_Evaluator_operate) (as := [.int (nI (o - 1)), .long (q 55 (sSl ch c (xp (rl c * 15 + p)))), .long (q 55 (sSl ch c (yp (rl c * 15 + p))))]) dX0_workOut_108 ln_Evaluator_97 mf_Evaluator_operate np_Evaluator_operate rfl rfl ⟨(Nat.le_of_ble_eq_true rfl), (Nat.le_of_ble_eq_true rfl), (Nat.le_of_ble_eq_true rfl), (Nat.le_of_ble_eq_true rfl)⟩ (by decide) ?_
        refine sp_Evaluator_operate (o := o) (by omega) ?_
        refine ⟨_, rfl, ?_⟩
        refine ex_lret dX0_workOut_111 rfl ?_
        exact hQ
end S40
