/-! ===== Evaluator.settle, evaluate ===== -/
section S41
variable {ζ g : Nat} {i : Nat → Nat → Int32} {q : Nat → Nat → Int64} {t : Bool} {Q : xRes → xMem → Prop} {n md : Nat} {sy : Nat → Nat → Nat} {nd : Nat → Int32} {tb : Nat → Bool} {rl : Nat → Nat} {pa : Nat → Option (Nat × Nat)} {ch : Nat → Nat → Nat} {op xp yp : Nat → Nat} {val : Nat → Int64} {rk : Nat → Nat}
/-- equations don't go round: rk falls from a slot to those it hangs on -/
def AC (md : Nat) (tb : Nat → Bool) (rl : Nat → Nat) (pa : Nat → Option (Nat × Nat)) (ch : Nat → Nat → Nat) (op xp yp rk : Nat → Nat) : Prop := (∀ s, s < 3 * md → rk s < 450) ∧ ∀ s, s < 3 * md → tb (s / 3) = false → (2 ≤ opS op rl (sCx pa s) → rk (arS xp rl ch (sCx pa s)) < rk s) ∧ (3 ≤ opS op rl (sCx pa s) → rk (arS yp rl ch (sCx pa s)) < rk s)
/-- the values solve the equations -/
def SOL (md : Nat) (tb : Nat → Bool) (rl : Nat → Nat) (pa : Nat → Option (Nat × Nat)) (ch : Nat → Nat → Nat) (op xp yp : Nat → Nat) (val : Nat → Int64) : Prop := ∀ s, s < 3 * md → tb (s / 3) = false → val s = wkS op xp yp rl ch val (sCx pa s)
def evI (V : Nat) (md : Nat) (tb : Nat → Bool) (val : Nat → Int64) (i i1 : Nat → Nat → Int32) (q q1 : Nat → Nat → Int64) (kn : Nat → Nat) : Prop := Fr [43, 45] i i1 ∧ (∀ c, c ≠ V → q1 c = q c) ∧ ∀ j, j < 3 * md → i1 43 j = nI (kn j) ∧ kn j ≤ 1 ∧ (kn j = 1 → q1 V j = val j) ∧ (tb (j / 3) = true → kn j = 1)
theorem wkS_congr {v v' : Nat → Int64} {o : Option (Nat × Nat)} (hx : 2 ≤ opS op rl o → v (arS xp rl ch o) = v' (arS xp rl ch o)) (hy : 3 ≤ opS op rl o → v (arS yp rl ch o) = v' (arS yp rl ch o)) : wkS op xp yp rl ch v o = wkS op xp yp rl ch v' o := by
  unfold wkS
  by_cases h0 : opS op rl o = 0
  · rw [if_pos h0, if_pos h0]
  · rw [if_neg h0, if_neg h0]
    by_cases h1 : opS op rl o = 1
    · rw [if_pos h1, if_pos h1]
    · rw [if_neg h1, if_neg h1, hx (by omega)]
      by_cases h2 : opS op rl o = 2
      · rw [h2]; rfl
      · rw [hy (by omega)]
theorem ms_cases {s : Nat} {kn : Nat → Nat} (ev : EV n sy op xp yp) (hw : TW n sy md nd tb rl pa ch) (ac : AC md tb rl pa ch op xp yp rk) (hs : s < 3 * md) (hb : tb (s / 3) = false) :
    (∃ m, msI op xp yp rl ch kn (sCx pa s) = nI m ∧ m < 3 * md ∧ kn m = 0 ∧ rk m < rk s) ∨ (msI op xp yp rl ch kn (sCx pa s) = -1 ∧ (2 ≤ opS op rl (sCx pa s) → ¬ kn (arS xp rl ch (sCx pa s)) = 0) ∧ (3 ≤ opS op rl (sCx pa s) → ¬ kn (arS yp rl ch (sCx pa s)) = 0)) := by
  have a := ac.2 s hs hb
  have hlt : (2 ≤ opS op rl (sCx pa s) → arS xp rl ch (sCx pa s) < 3 * md) ∧ (2 ≤ opS op rl (sCx pa s) → arS yp rl ch (sCx pa s) < 3 * md) := by
    cases h : sCx pa s with
    | none => exact ⟨fun z => absurd z (show ¬ 2 ≤ 0 by decide), fun z => absurd z (show ¬ 2 ≤ 0 by decide)⟩
    | some v =>
      obtain ⟨c, p⟩ := v
      have := arS_lt ev hw hs hb h
      exact ⟨fun z => (this.1 z).2, fun z => (this.2 z).2⟩
  unfold msI
  by_cases c1 : 2 ≤ opS op rl (sCx pa s) ∧ kn (arS xp rl ch (sCx pa s)) = 0
  · rw [if_pos c1]
    exact Or.inl ⟨_, rfl, hlt.1 c1.1, c1.2, a.1 c1.1⟩
  · rw [if_neg c1]
    by_cases c2 : 3 ≤ opS op rl (sCx pa s) ∧ kn (arS yp rl ch (sCx pa s)) = 0
    · rw [if_pos c2]
      exact Or.inl ⟨_, rfl, hlt.2 (by omega), c2.2, a.2 c2.1⟩
    · rw [if_neg c2]
      exact Or.inr ⟨rfl, fun z y => c1 ⟨z, y⟩, fun z y => c2 ⟨z, y⟩⟩
theorem nI_dec {a : Nat} (h : 1 ≤ a) : nI a + Int32.ofInt (-1) = nI (a - 1) := by
  obtain ⟨b, rfl⟩ : ∃ b, a = b + 1 := ⟨a - 1, by omega⟩
  rw [nI_succ]
  show nI b + 1 + (-1) = nI b
  rw [Int32.add_assoc, show (1 : Int32) + (-1) = 0 by decide, Int32.add_zero]
theorem lp_Evaluator_settle_46 (hn : n ≤ 14) (sc : SC i) (es : ES i op xp yp) (ev : EV n sy op xp yp) (hw : TW n sy md nd tb rl pa ch) (ac : AC md tb rl pa ch op xp yp rk) (sol : SOL md tb rl pa ch op xp yp val) (hF : i 48 = nd) {s0 : Nat} {kn0 : Nat → Nat}
    (hQ : ∀ i1 q1 kn, evI 50 md tb val i i1 q q1 kn → kn s0 = 1 → (∀ j, kn0 j = 1 → kn j = 1) → Q (.ok none) (56 + ζ, g, i1, q1, RT t)) :
    ∀ (m : Nat) (kn w : Nat → Nat) (h st : Nat) (i1 : Nat → Nat → Int32) (q1 : Nat → Nat → Int64), 451 * (3 * md - sumN kn (3 * md)) + (450 - h) ≤ m → h ≤ 450 → st + 2 * (3 * md - sumN kn (3 * md)) ≤ 900 + h → evI 50 md tb val i i1 q q1 kn → (∀ j, kn0 j = 1 → kn j = 1) →
      (∀ a, a < h → i1 45 a = nI (w a) ∧ w a < 3 * md ∧ kn (w a) = 0 ∧ a + rk (w a) < 450) → (∀ a b, a < b → b < h → rk (w b) < rk (w a)) → (h = 0 → kn s0 = 1) → (1 ≤ h → w 0 = s0) →
      Wx m_Evaluator_settle 14 [some (.ref 41), some (.ref 46), some (.int (nI s0)), some (.int (nI h)), some (.int (nI st)), none, none] [] (56 + ζ, g, i1, q1, RT t) (0, 0) Q := by
  intro m
  induction m with
  | zero =>
    intro kn w h st i1 q1 hm hh hst hI hmo hst1 hst2 h0 h1
    have e : h = 450 := by omega
    have := hst1 (h - 1) (by omega)
    have hle := sumN_lt (F := kn) (G := fun _ => 1) (k := w (h - 1)) (N := 3 * md) (fun j hj => (hI.2.2 j hj).2.1) this.2.1 (by show kn _ < 1; omega)
    have hle2 := sumN_le (F := fun _ => 1) (B := 1) (N := 3 * md) (fun j hj => Nat.le_refl 1)
    omega
  | succ m ih =>
    intro kn w h st i1 q1 hm hh hst hI hmo hst1 hst2 h0 h1
    obtain ⟨hfr, hq, hj⟩ := hI
    have h150 := hw.1
    have sc1 : SC i1 := SC_Fr (l := [43, 45]) rfl hfr sc
    have es1 : ES i1 op xp yp := es.fr hfr (by decide) (by decide) (by decide)
    have hF1 : i1 48 = nd := by rw [hfr 48 (by decide)]; exact hF
    by_cases hz : h = 0
    · subst hz
      refine ex_iload dX0_settle_14 rfl ?_
      refine ex_ldc (v := 1000000) dX0_settle_16 ld_Evaluator_49 ?_
      refine ex_asN (a := 1000000) (by decide) ?_
      refine ex_icmp_geN (tgt := 99) dX0_settle_18 (by decide) (by omega) (by omega) (fun h18 => by omega) (fun h18 => ?_)
      refine ex_iload_n (i := 3) dX0_settle_21 rfl rfl ?_
      refine ex_if_leN (tgt := 99) dX0_settle_22 (by decide) (by omega) (fun h22 => ?_) (fun h22 => by exact absurd h22 (by decide))
      refine ex_ret dX0_settle_99 rfl ?_
      exact hQ i1 q1 kn ⟨hfr, hq, hj⟩ (h0 rfl) hmo
    · have ht := hst1 (h - 1) (by omega)
      have hb : tb (w (h - 1) / 3) = false := by
        cases hb : tb (w (h - 1) / 3) with
        | false => rfl
        | true => have := (hj _ ht.2.1).2.2.2 hb; omega
      rcases ms_cases (kn := kn) ev hw ac ht.2.1 hb with ⟨x, e, x1, x2, x3⟩ | ⟨e, a1, a2⟩
      ·
        refine ex_iload dX0_settle_14 rfl ?_
        refine ex_ldc (v := 1000000) dX0_settle_16 ld_Evaluator_49 ?_
        refine ex_asN (a := 1000000) (by decide) ?_
        refine ex_icmp_geN (tgt := 99) dX0_settle_18 (by decide) (by omega) (by omega) (fun h18 => by omega) (fun h18 => ?_)
        refine ex_iload_n (i := 3) dX0_settle_21 rfl rfl ?_
        refine ex_if_leN (tgt := 99) dX0_settle_22 (by decide) (by omega) (fun h22 => by omega) (fun h22 => ?_)
        refine ex_aload_n (i := 0) dX0_settle_25 rfl rfl ?_
        refine ex_getR (v := .ref (44)) dX0_settle_26 fl_Evaluator_24 rfl rfl (l56 (by decide)) rfl ?_
        refine ex_iload_n (i := 3) dX0_settle_29 rfl rfl ?_
        refine ex_iconst (v := nI 1) dX0_settle_30 (by decide) ?_
        refine ex_isubN dX0_settle_31 (by omega) ?_
        refine ex_cV (ν := m_Row_get) (a := 44) (ci := 6) (as := [.int (nI (h - 1))]) dX0_settle_32 ln_Evaluator_41 mf_Row_get rfl (l56 (by decide)) rfl rfl np_Row_get rfl rfl ⟨(Nat.le_of_ble_eq_true rfl), (Nat.le_of_ble_eq_true rfl), (Nat.le_of_ble_eq_true rfl), (Nat.le_of_ble_eq_true rfl)⟩ (by decide) ?_
        refine sp_Row_get (r := 44) (c := 45) rfl rfl rfl (l56 (by decide)) (l56 (by decide)) (by omega) ?_
        refine ⟨_, rfl, ?_⟩
        refine ex_asN (a := w (h - 1)) ht.1 ?_
        refine ex_istore (L' := [some (.ref (41)), some (.ref (46)), some (.int (nI (s0))), some (.int (nI (h))), some (.int (nI (st))), some (.int (nI (w (h - 1)))), none]) dX0_settle_35 (by decide) rfl ?_
        refine ex_aload_n (i := 0) dX0_settle_37 rfl rfl ?_
        refine ex_aload_n (i := 1) dX0_settle_38 rfl rfl ?_
        refine ex_iload dX0_settle_39 rfl ?_
        refine ex_cV (ν := m_Evaluator_missingFor) (a := 41) (ci := 0) (as := [.ref (46), .int (nI (w (h - 1)))]) dX0_settle_41 ln_Evaluator_50 mf_Evaluator_missingFor rfl (l56 (by decide)) rfl rfl np_Evaluator_missingFor rfl rfl ⟨(Nat.le_of_ble_eq_true rfl), (Nat.le_of_ble_eq_true rfl), (Nat.le_of_ble_eq_true rfl), (Nat.le_of_ble_eq_true rfl)⟩ (by decide) ?_
        refine sp_Evaluator_missingFor_46 (kn := kn) hn sc1 es1 ev hF1 hw ht.2.1 hb (fun j hj2 => ⟨(hj j hj2).1, (hj j hj2).2.1⟩) ?_
        refine ⟨_, rfl, ?_⟩
        refine ex_asN (a := x) e ?_
        refine ex_istore (L' := [some (.ref (41)), some (.ref (46)), some (.int (nI (s0))), some (.int (nI (h))), some (.int (nI (st))), some (.int (nI (w (h - 1)))), some (.int (nI (x)))]) dX0_settle_44 (by decide) rfl ?_
        refine ex_iload dX0_settle_46 rfl ?_
        refine ex_if_ltN (tgt := 67) dX0_settle_48 (by decide) (by omega) ?_
        refine ex_aload_n (i := 0) dX0_settle_51 rfl rfl ?_
        refine ex_getR (v := .ref (44)) dX0_settle_52 fl_Evaluator_24 rfl rfl (l56 (by decide)) rfl ?_
        refine ex_iload_n (i := 3) dX0_settle_55 rfl rfl ?_
        refine ex_iload dX0_settle_56 rfl ?_
        refine ex_cV (ν := m_Row_set) (a := 44) (ci := 6) (as := [.int (nI (h)), .int (nI (x))]) dX0_settle_58 ln_Evaluator_37 mf_Row_set rfl (l56 (by decide)) rfl rfl np_Row_set rfl rfl ⟨(Nat.le_of_ble_eq_true rfl), (Nat.le_of_ble_eq_true rfl), (Nat.le_of_ble_eq_true rfl), (Nat.le_of_ble_eq_true rfl)⟩ (by decide) ?_
        refine sp_Row_set (r := 44) (c := 45) rfl rfl rfl (l56 (by decide)) (l56 (by decide)) (by omega) ?_
        refine ⟨_, rfl, ?_⟩
        refine ex_iincN (L' := [some (.ref (41)), some (.ref (46)), some (.int (nI (s0))), some (.int (nI (h + 1))), some (.int (nI (st))), some (.int (nI (w (h - 1)))), some (.int (nI (x)))]) dX0_settle_61 rfl rfl (by decide) rfl ?_
        refine ex_goto (tgt := 93) dX0_settle_64 (by decide) ?_
        refine ex_iincN (L' := [some (.ref (41)), some (.ref (46)), some (.int (nI (s0))), some (.int (nI (h + 1))), some (.int (nI (st + 1))), some (.int (nI (w (h - 1)))), some (.int (nI (x)))]) dX0_settle_93 rfl rfl (by decide) rfl ?_
        refine ex_goto (tgt := 14) dX0_settle_96 (by decide) ?_
        refine ex_less (L' := [some (.ref 41), some (.ref 46), some (.int (nI s0)), some (.int (nI (h + 1))), some (.int (nI (st + 1))), none, none]) (by simp [xSub]) (ih kn (upN w h x) (h + 1) (st + 1) _ q1 (by omega) (by omega) (by omega) ⟨hfr.U (by decide), hq, fun j hj2 => by rw [xU_ne _ _ _ (show (43 : Nat) ≠ 45 by decide)]; exact hj j hj2⟩ hmo ?_ ?_ (fun z => absurd z (by omega)) (fun _ => ?_))
        · intro a ha
          rw [xU_at]
          unfold upd upN
          by_cases ea : a = h
          · rw [if_pos ea, if_pos ea]; exact ⟨rfl, x1, x2, by omega⟩
          · rw [if_neg ea, if_neg ea]; exact hst1 a (by omega)
        · intro a b hab hbh
          unfold upN
          rw [if_neg (show ¬ a = h by omega)]
          by_cases eb : b = h
          · rw [if_pos eb]
            by_cases ea : a = h - 1
            · rw [ea]; exact x3
            · exact Nat.lt_trans x3 (hst2 a (h - 1) (by omega) (by omega))
          · rw [if_neg eb]; exact hst2 a b hab (by omega)
        · unfold upN; rw [if_neg (by omega)]; exact h1 (by omega)
      · have hv : wkS op xp yp rl ch (q1 50) (sCx pa (w (h - 1))) = val (w (h - 1)) := by
          rw [sol _ ht.2.1 hb]
          have hlt : (2 ≤ opS op rl (sCx pa (w (h - 1))) → arS xp rl ch (sCx pa (w (h - 1))) < 3 * md) ∧ (2 ≤ opS op rl (sCx pa (w (h - 1))) → arS yp rl ch (sCx pa (w (h - 1))) < 3 * md) := by
            cases h : sCx pa (w (h - 1)) with
            | none => exact ⟨fun z => absurd z (show ¬ 2 ≤ 0 by decide), fun z => absurd z (show ¬ 2 ≤ 0 by decide)⟩
            | some v =>
              obtain ⟨c, p⟩ := v
              have := arS_lt ev hw ht.2.1 hb h
              exact ⟨fun z => (this.1 z).2, fun z => (this.2 z).2⟩
          refine wkS_congr (fun z => ?_) (fun z => ?_)
          · have a3 := hj _ (hlt.1 z)
            exact a3.2.2.1 (by have := a1 z; omega)
          · have a3 := hj _ (hlt.2 (by omega))
            exact a3.2.2.1 (by have := a2 z; omega)
        have hsu := sumN_up (F := kn) (k := w (h - 1)) (v := 1) ht.2.1
        have hle := sumN_lt (F := kn) (G := fun _ => 1) (k := w (h - 1)) (N := 3 * md) (fun j hj2 => (hj j hj2).2.1) ht.2.1 (by show kn _ < 1; omega)
        have hle2 := sumN_le (F := fun _ => 1) (B := 1) (N := 3 * md) (fun j hj => Nat.le_refl 1)
        refine ex_iload dX0_settle_14 rfl ?_
        refine ex_ldc (v := 1000000) dX0_settle_16 ld_Evaluator_49 ?_
        refine ex_asN (a := 1000000) (by decide) ?_
        refine ex_icmp_geN (tgt := 99) dX0_settle_18 (by decide) (by omega) (by omega) (fun h18 => by omega) (fun h18 => ?_)
        refine ex_iload_n (i := 3) dX0_settle_21 rfl rfl ?_
        refine ex_if_leN (tgt := 99) dX0_settle_22 (by decide) (by omega) (fun h22 => by omega) (fun h22 => ?_)
        refine ex_aload_n (i := 0) dX0_settle_25 rfl rfl ?_
        refine ex_getR (v := .ref (44)) dX0_settle_26 fl_Evaluator_24 rfl rfl (l56 (by decide)) rfl ?_
        refine ex_iload_n (i := 3) dX0_settle_29 rfl rfl ?_
        refine ex_iconst (v := nI 1) dX0_settle_30 (by decide) ?_
        refine ex_isubN dX0_settle_31 (by omega) ?_
        refine ex_cV (ν := m_Row_get) (a := 44) (ci := 6) (as := [.int (nI (h - 1))]) dX0_settle_32 ln_Evaluator_41 mf_Row_get rfl (l56 (by decide)) rfl rfl np_Row_get rfl rfl ⟨(Nat.le_of_ble_eq_true rfl), (Nat.le_of_ble_eq_true rfl), (Nat.le_of_ble_eq_true rfl), (Nat.le_of_ble_eq_true rfl)⟩ (by decide) ?_
        refine sp_Row_get (r := 44) (c := 45) rfl rfl rfl (l56 (by decide)) (l56 (by decide)) (by omega) ?_
        refine ⟨_, rfl, ?_⟩
        refine ex_asN (a := w (h - 1)) ht.1 ?_
        refine ex_istore (L' := [some (.ref (41)), some (.ref (46)), some (.int (nI (s0))), some (.int (nI (h))), some (.int (nI (st))), some (.int (nI (w (h - 1)))), none]) dX0_settle_35 (by decide) rfl ?_
        refine ex_aload_n (i := 0) dX0_settle_37 rfl rfl ?_
        refine ex_aload_n (i := 1) dX0_settle_38 rfl rfl ?_
        refine ex_iload dX0_settle_39 rfl ?_
        refine ex_cV (ν := m_Evaluator_missingFor) (a := 41) (ci := 0) (as := [.ref (46), .int (nI (w (h - 1)))]) dX0_settle_41 ln_Evaluator_50 mf_Evaluator_missingFor rfl (l56 (by decide)) rfl rfl np_Evaluator_missingFor rfl rfl ⟨(Nat.le_of_ble_eq_true rfl), (Nat.le_of_ble_eq_true rfl), (Nat.le_of_ble_eq_true rfl), (Nat.le_of_ble_eq_true rfl)⟩ (by decide) ?_
        refine sp_Evaluator_missingFor_46 (kn := kn) hn sc1 es1 ev hF1 hw ht.2.1 hb (fun j hj2 => ⟨(hj j hj2).1, (hj j hj2).2.1⟩) ?_
        refine ⟨_, rfl, ?_⟩
        refine ex_asI (y := -1) e ?_
        refine ex_istore (L' := [some (.ref (41)), some (.ref (46)), some (.int (nI (s0))), some (.int (nI (h))), some (.int (nI (st))), some (.int (nI (w (h - 1)))), some (.int ((-1)))]) dX0_settle_44 (by decide) rfl ?_
        refine ex_iload dX0_settle_46 rfl ?_
        refine ex_if_lt (tgt := 67) dX0_settle_48 (by decide) (fun h48 => ?_) (fun h48 => by exact absurd (by decide) h48)
        refine ex_aload_n (i := 1) dX0_settle_67 rfl rfl ?_
        refine ex_iload dX0_settle_68 rfl ?_
        refine ex_aload_n (i := 0) dX0_settle_70 rfl rfl ?_
        refine ex_aload_n (i := 1) dX0_settle_71 rfl rfl ?_
        refine ex_iload dX0_settle_72 rfl ?_
        refine ex_cV (ν := m_Evaluator_workOut) (a := 41) (ci := 0) (as := [.ref (46), .int (nI (w (h - 1)))]) dX0_settle_74 ln_Evaluator_54 mf_Evaluator_workOut rfl (l56 (by decide)) rfl rfl np_Evaluator_workOut rfl rfl ⟨(Nat.le_of_ble_eq_true rfl), (Nat.le_of_ble_eq_true rfl), (Nat.le_of_ble_eq_true rfl), (Nat.le_of_ble_eq_true rfl)⟩ (by decide) ?_
        refine sp_Evaluator_workOut_46 hn sc1 es1 ev hF1 hw ht.2.1 hb ?_
        refine ⟨_, rfl, ?_⟩
        refine ex_asJ (y := val (w (h - 1))) hv ?_
        refine ex_cV (ν := m_Tree_setValue) (a := 46) (ci := 8) (as := [.int (nI (w (h - 1))), .long (val (w (h - 1)))]) dX0_settle_77 ln_Evaluator_58 mf_Tree_setValue rfl (l56 (by decide)) rfl rfl np_Tree_setValue rfl rfl ⟨(Nat.le_of_ble_eq_true rfl), (Nat.le_of_ble_eq_true rfl), (Nat.le_of_ble_eq_true rfl), (Nat.le_of_ble_eq_true rfl)⟩ (by decide) ?_
        refine sp_Tree_setValue_46 (by omega) ?_
        refine ⟨_, rfl, ?_⟩
        refine ex_aload_n (i := 0) dX0_settle_80 rfl rfl ?_
        refine ex_getR (v := .ref (42)) dX0_settle_81 fl_Evaluator_20 rfl rfl (l56 (by decide)) rfl ?_
        refine ex_iload dX0_settle_84 rfl ?_
        refine ex_iconst (v := nI 1) dX0_settle_86 (by decide) ?_
        refine ex_cV (ν := m_Row_set) (a := 42) (ci := 6) (as := [.int (nI (w (h - 1))), .int (nI (1))]) dX0_settle_87 ln_Evaluator_37 mf_Row_set rfl (l56 (by decide)) rfl rfl np_Row_set rfl rfl ⟨(Nat.le_of_ble_eq_true rfl), (Nat.le_of_ble_eq_true rfl), (Nat.le_of_ble_eq_true rfl), (Nat.le_of_ble_eq_true rfl)⟩ (by decide) ?_
        refine sp_Row_set (r := 42) (c := 43) rfl rfl rfl (l56 (by decide)) (l56 (by decide)) (by omega) ?_
        refine ⟨_, rfl, ?_⟩
        obtain ⟨v1, hv1⟩ : ∃ y : Int32, y = nI (h) + Int32.ofInt (-1) := ⟨_, rfl⟩
        refine ex_iinc (v := v1) (L' := [some (.ref (41)), some (.ref (46)), some (.int (nI (s0))), some (.int (v1)), some (.int (nI (st))), some (.int (nI (w (h - 1)))), some (.int ((-1)))]) dX0_settle_90 rfl hv1.symm (by decide) rfl ?_
        refine ex_iincN (L' := [some (.ref (41)), some (.ref (46)), some (.int (nI (s0))), some (.int (v1)), some (.int (nI (st + 1))), some (.int (nI (w (h - 1)))), some (.int ((-1)))]) dX0_settle_93 rfl rfl (by decide) rfl ?_
        refine ex_goto (tgt := 14) dX0_settle_96 (by decide) ?_
        have e3 : v1 = nI (h - 1) := by rw [hv1]; exact nI_dec (by omega)
        rw [e3]
        refine ex_less (L' := [some (.ref 41), some (.ref 46), some (.int (nI s0)), some (.int (nI (h - 1))), some (.int (nI (st + 1))), none, none]) (by simp [xSub]) (ih (upN kn (w (h - 1)) 1) w (h - 1) (st + 1) _ _ (by omega) (by omega) (by omega) ⟨hfr.U (by decide), ?_, ?_⟩ ?_ ?_ (fun a b hab hbh => hst2 a b hab (by omega)) (fun z => ?_) (fun z => h1 (by omega)))
        · intro c hc
          rw [xUL_ne _ _ _ hc]; exact hq c hc
        · intro j hj2
          have b := hj j hj2
          rw [xU_at, xUL_at]
          unfold upd upN vp_updL
          by_cases ej : j = w (h - 1)
          · rw [if_pos ej, if_pos ej, if_pos ej]; exact ⟨rfl, by decide, fun _ => by rw [ej], fun _ => rfl⟩
          · rw [if_neg ej, if_neg ej, if_neg ej]; exact b
        · intro j h2
          unfold upN
          split
          · rfl
          · exact hmo j h2
        · intro a ha
          have b := hst1 a (by omega)
          have c := hst2 a (h - 1) (by omega) (by omega)
          rw [xU_ne _ _ _ (show (45 : Nat) ≠ 43 by decide)]
          refine ⟨b.1, b.2.1, ?_, b.2.2.2⟩
          unfold upN
          rw [if_neg (fun z => by rw [z] at c; omega)]
          exact b.2.2.1
        · have e0 := h1 (by omega)
          have e1 : h - 1 = 0 := z
          unfold upN
          rw [e1, e0, if_pos rfl]
theorem sp_Evaluator_settle_46 (hn : n ≤ 14) (sc : SC i) (es : ES i op xp yp) (ev : EV n sy op xp yp) (hw : TW n sy md nd tb rl pa ch) (ac : AC md tb rl pa ch op xp yp rk) (sol : SOL md tb rl pa ch op xp yp val) (hF : i 48 = nd) {s0 : Nat} {kn0 : Nat → Nat} (hs0 : s0 < 3 * md) (hk0 : kn0 s0 = 0) {i0 : Nat → Nat → Int32} {q0 : Nat → Nat → Int64} (hf0 : Fr [43, 45] i0 i) (hI : ∀ j, j < 3 * md → i 43 j = nI (kn0 j) ∧ kn0 j ≤ 1 ∧ (kn0 j = 1 → q 50 j = val j) ∧ (tb (j / 3) = true → kn0 j = 1))
    (hQ : ∀ i1 q1 kn, evI 50 md tb val i i1 q q1 kn → kn s0 = 1 → (∀ j, kn0 j = 1 → kn j = 1) → Q (.ok none) (56 + ζ, g, i1, q1, RT t)) :
    Wx m_Evaluator_settle 0 [some (.ref 41), some (.ref 46), some (.int (nI s0)), none, none, none, none] [] (56 + ζ, g, i, q, RT t) (0, 0) Q := by
  have h150 := hw.1
  refine ex_aload_n (i := 0) dX0_settle_0 rfl rfl ?_
  refine ex_getR (v := .ref (44)) dX0_settle_1 fl_Evaluator_24 rfl rfl (l56 (by decide)) rfl ?_
  refine ex_iconst (v := nI 0) dX0_settle_4 (by decide) ?_
  refine ex_iload_n (i := 2) dX0_settle_5 rfl rfl ?_
  refine ex_cV (ν := m_Row_set) (a := 44) (ci := 6) (as := [.int (nI (0)), .int (nI (s0))]) dX0_settle_6 ln_Evaluator_37 mf_Row_set rfl (l56 (by decide)) rfl rfl np_Row_set rfl rfl ⟨(Nat.le_of_ble_eq_true rfl), (Nat.le_of_ble_eq_true rfl), (Nat.le_of_ble_eq_true rfl), (Nat.le_of_ble_eq_true rfl)⟩ (by decide) ?_
  refine sp_Row_set (r := 44) (c := 45) rfl rfl rfl (l56 (by decide)) (l56 (by decide)) (by decide) ?_
  refine ⟨_, rfl, ?_⟩
  refine ex_iconst (v := nI 1) dX0_settle_9 (by decide) ?_
  refine ex_istore_n (L' := [some (.ref (41)), some (.ref (46)), some (.int (nI (s0))), some (.int (nI (1))), none, none, none]) dX0_settle_10 (i := 3) rfl (by decide) rfl ?_
  refine ex_iconst (v := nI 0) dX0_settle_11 (by decide) ?_
  refine ex_istore (L' := [some (.ref (41)), some (.ref (46)), some (.int (nI (s0))), some (.int (nI (1))), some (.int (nI (0))), none, none]) dX0_settle_12 (by decide) rfl ?_
  refine lp_Evaluator_settle_46 (kn0 := kn0) hn sc es ev hw ac sol hF hQ _ kn0 (fun _ => s0) 1 0 _ q (Nat.le_refl _) (by decide) (by omega) ⟨Fr.rf.U (by decide), fun _ _ => rfl, fun j hj => by rw [xU_ne _ _ _ (show (43 : Nat) ≠ 45 by decide)]; exact hI j hj⟩ (fun _ z => z) ?_ (fun a b h1 h2 => by omega) (fun z => absurd z (by decide)) (fun _ => rfl)
  intro a ha
  have e : a = 0 := by omega
  subst e
  rw [xU_at]
  exact ⟨by simp [upd], hs0, hk0, by have := ac.1 s0 hs0; omega⟩
theorem lp_Evaluator_evaluate2_46 (hn : n ≤ 14) (sc : SC i) (es : ES i op xp yp) (ev : EV n sy op xp yp) (hw : TW n sy md nd tb rl pa ch) (ac : AC md tb rl pa ch op xp yp rk) (sol : SOL md tb rl pa ch op xp yp val) (hF : i 48 = nd)
    (hQ : ∀ i1 q1, Fr [43, 45] i i1 → (∀ c, c ≠ 50 → q1 c = q c) → (∀ s, s < 3 * md → q1 50 s = val s) → Q (.ok none) (56 + ζ, g, i1, q1, RT t)) :
    ∀ (d s : Nat) (kn : Nat → Nat) (i1 : Nat → Nat → Int32) (q1 : Nat → Nat → Int64), s + d = 3 * md → evI 50 md tb val i i1 q q1 kn → (∀ j, j < s → kn j = 1) → Wx m_Evaluator_evaluate 45 [some (.ref 41), some (.ref 46), some (.int (nI (md * 3))), some (.int (nI s))] [] (56 + ζ, g, i1, q1, RT t) (0, 0) Q := by
  intro d
  induction d with
  | zero =>
    intro s kn i1 q1 hs hI hk
    have h150 := hw.1
    refine ex_iload_n (i := 3) dX0_evaluate_45 rfl rfl ?_
    refine ex_iload_n (i := 2) dX0_evaluate_46 rfl rfl ?_
    refine ex_icmp_geN (tgt := 73) dX0_evaluate_47 (by decide) (by omega) (by omega) (fun h47 => ?_) (fun h47 => by omega)
    refine ex_ret dX0_evaluate_73 rfl ?_
    exact hQ i1 q1 hI.1 hI.2.1 (fun j hj => (hI.2.2 j hj).2.2.1 (hk j (by omega)))
  | succ d ih =>
    intro s kn i1 q1 hs hI hk
    have h150 := hw.1
    have hs2 := hI.2.2 s (by omega)
    by_cases c : kn s = 0
    ·
      refine ex_iload_n (i := 3) dX0_evaluate_45 rfl rfl ?_
      refine ex_iload_n (i := 2) dX0_evaluate_46 rfl rfl ?_
      refine ex_icmp_geN (tgt := 73) dX0_evaluate_47 (by decide) (by omega) (by omega) (fun h47 => by omega) (fun h47 => ?_)
      refine ex_aload_n (i := 0) dX0_evaluate_50 rfl rfl ?_
      refine ex_getR (v := .ref (42)) dX0_evaluate_51 fl_Evaluator_20 rfl rfl (l56 (by decide)) rfl ?_
      refine ex_iload_n (i := 3) dX0_evaluate_54 rfl rfl ?_
      refine ex_cV (ν := m_Row_get) (a := 42) (ci := 6) (as := [.int (nI (s))]) dX0_evaluate_55 ln_Evaluator_41 mf_Row_get rfl (l56 (by decide)) rfl rfl np_Row_get rfl rfl ⟨(Nat.le_of_ble_eq_true rfl), (Nat.le_of_ble_eq_true rfl), (Nat.le_of_ble_eq_true rfl), (Nat.le_of_ble_eq_true rfl)⟩ (by decide) ?_
      refine sp_Row_get (r := 42) (c := 43) rfl rfl rfl (l56 (by decide)) (l56 (by decide)) (by omega) ?_
      refine ⟨_, rfl, ?_⟩
      refine ex_asN (a := kn s) hs2.1 ?_
      refine ex_if_neN (tgt := 67) dX0_evaluate_58 (by decide) (by omega) (fun h58 => by exact absurd c h58) (fun h58 => ?_)
      refine ex_aload_n (i := 0) dX0_evaluate_61 rfl rfl ?_
      refine ex_aload_n (i := 1) dX0_evaluate_62 rfl rfl ?_
      refine ex_iload_n (i := 3) dX0_evaluate_63 rfl rfl ?_
      refine ex_cV (ν := m_Evaluator_settle) (a := 41) (ci := 0) (as := [.ref (46), .int (nI (s))]) dX0_evaluate_64 ln_Evaluator_45 mf_Evaluator_settle rfl (l56 (by decide)) rfl rfl np_Evaluator_settle rfl rfl ⟨(Nat.le_of_ble_eq_true rfl), (Nat.le_of_ble_eq_true rfl), (Nat.le_of_ble_eq_true rfl), (Nat.le_of_ble_eq_true rfl)⟩ (by decide) ?_
      refine sp_Evaluator_settle_46 (kn0 := kn) (i0 := i) (q0 := q) hn (SC_Fr (l := [43, 45]) rfl hI.1 sc) (es.fr hI.1 (by decide) (by decide) (by decide)) ev hw ac sol (by rw [hI.1 48 (by decide)]; exact hF) (by omega) c hI.1 hI.2.2 (fun i2 q2 kn2 g1 g2 g3 => ?_)
      refine ⟨_, rfl, ?_⟩
      refine ex_iincN (L' := [some (.ref (41)), some (.ref (46)), some (.int (nI (md * 3))), some (.int (nI (s + 1)))]) dX0_evaluate_67 rfl rfl (by decide) rfl ?_
      refine ex_goto (tgt := 45) dX0_evaluate_70 (by decide) ?_
      refine ih (s + 1) kn2 i2 q2 (by omega) ⟨hI.1.tr g1.1, fun c hc => (g1.2.1 c hc).trans (hI.2.1 c hc), g1.2.2⟩ (fun j hj => ?_)
      by_cases e : j = s
      · rw [e]; exact g2
      · exact g3 j (hk j (by omega))
    ·
      refine ex_iload_n (i := 3) dX0_evaluate_45 rfl rfl ?_
      refine ex_iload_n (i := 2) dX0_evaluate_46 rfl rfl ?_
      refine ex_icmp_geN (tgt := 73) dX0_evaluate_47 (by decide) (by omega) (by omega) (fun h47 => by omega) (fun h47 => ?_)
      refine ex_aload_n (i := 0) dX0_evaluate_50 rfl rfl ?_
      refine ex_getR (v := .ref (42)) dX0_evaluate_51 fl_Evaluator_20 rfl rfl (l56 (by decide)) rfl ?_
      refine ex_iload_n (i := 3) dX0_evaluate_54 rfl rfl ?_
      refine ex_cV (ν := m_Row_get) (a := 42) (ci := 6) (as := [.int (nI (s))]) dX0_evaluate_55 ln_Evaluator_41 mf_Row_get rfl (l56 (by decide)) rfl rfl np_Row_get rfl rfl ⟨(Nat.le_of_ble_eq_true rfl), (Nat.le_of_ble_eq_true rfl), (Nat.le_of_ble_eq_true rfl), (Nat.le_of_ble_eq_true rfl)⟩ (by decide) ?_
      refine sp_Row_get (r := 42) (c := 43) rfl rfl rfl (l56 (by decide)) (l56 (by decide)) (by omega) ?_
      refine ⟨_, rfl, ?_⟩
      refine ex_asN (a := kn s) hs2.1 ?_
      refine ex_if_neN (tgt := 67) dX0_evaluate_58 (by decide) (by omega) (fun h58 => ?_) (fun h58 => by exact absurd h58 c)
      refine ex_iincN (L' := [some (.ref (41)), some (.ref (46)), some (.int (nI (md * 3))), some (.int (nI (s + 1)))]) dX0_evaluate_67 rfl rfl (by decide) rfl ?_
      refine ex_goto (tgt := 45) dX0_evaluate_70 (by decide) ?_
      refine ih (s + 1) kn i1 q1 (by omega) hI (fun j hj => ?_)
      by_cases e : j = s
      · rw [e]; omega
      · exact hk j (by omega)
theorem sp_Evaluator_evaluate_46 (hn : n ≤ 14) (sc : SC i) (es : ES i op xp yp) (ev : EV n sy op xp yp) (hw : TW n sy md nd tb rl pa ch) (ac : AC md tb rl pa ch op xp yp rk) (sol : SOL md tb rl pa ch op xp yp val) (hF : i 48 = nd) (h2 : i 46 2 = nI md) (htok : ∀ s, s < 3 * md → tb (s / 3) = true → q 50 s = val s)
    (hQ : ∀ i1 q1, Fr [43, 45] i i1 → (∀ c, c ≠ 50 → q1 c = q c) → (∀ s, s < 3 * md → q1 50 s = val s) → Q (.ok none) (56 + ζ, g, i1, q1, RT t)) :
    Wx m_Evaluator_evaluate 0 [some (.ref 41), some (.ref 46), none, none] [] (56 + ζ, g, i, q, RT t) (0, 0) Q := by
  have h150 := hw.1
  have loop : ∀ d s i1, s + d = 3 * md → Fr [43] i i1 → (∀ j, j < s → i1 43 j = nI (if tb (j / 3) = true then 1 else 0)) → Wx m_Evaluator_evaluate 9 [some (.ref 41), some (.ref 46), some (.int (nI (md * 3))), some (.int (nI s))] [] (56 + ζ, g, i1, q, RT t) (0, 0) Q := by
    intro d
    induction d with
    | zero =>
      intro s i1 hs hf hk
      refine ex_iload_n (i := 3) dX0_evaluate_9 rfl rfl ?_
      refine ex_iload_n (i := 2) dX0_evaluate_10 rfl rfl ?_
      refine ex_icmp_geN (tgt := 43) dX0_evaluate_11 (by decide) (by omega) (by omega) (fun h11 => ?_) (fun h11 => by omega)
      refine ex_iconst (v := nI 0) dX0_evaluate_43 (by decide) ?_
      refine ex_istore_n (L' := [some (.ref (41)), some (.ref (46)), some (.int (nI (md * 3))), some (.int (nI (0)))]) dX0_evaluate_44 (i := 3) rfl (by decide) rfl ?_
      refine lp_Evaluator_evaluate2_46 hn sc es ev hw ac sol hF hQ (3 * md) 0 (fun j => if tb (j / 3) = true then 1 else 0) i1 q (by omega) ⟨hf.mono (by decide), fun _ _ => rfl, fun j hj => ⟨hk j (by omega), by show (if tb (j / 3) = true then 1 else 0) ≤ 1; split <;> decide, fun z => htok j hj ?_, fun z => if_pos z⟩⟩ (fun j hj => by omega)
      by_cases e : tb (j / 3) = true
      · exact e
      · have z2 : (if tb (j / 3) = true then 1 else 0) = 1 := z
        rw [if_neg e] at z2; exact absurd z2 (by decide)
    | succ d ih =>
      intro s i1 hs hf hk
      have sc1 : SC i1 := SC_Fr (l := [43]) rfl hf sc
      have hF1 : i1 48 = nd := by rw [hf 48 (by decide)]; exact hF
      have hn2 := hw.2 (s / 3) (by omega)
      by_cases c : tb (s / 3) = true
      · have e := hn2.1 c
        refine ex_iload_n (i := 3) dX0_evaluate_9 rfl rfl ?_
        refine ex_iload_n (i := 2) dX0_evaluate_10 rfl rfl ?_
        refine ex_icmp_geN (tgt := 43) dX0_evaluate_11 (by decide) (by omega) (by omega) (fun h11 => by omega) (fun h11 => ?_)
        refine ex_aload_n (i := 0) dX0_evaluate_14 rfl rfl ?_
        refine ex_getR (v := .ref (42)) dX0_evaluate_15 fl_Evaluator_20 rfl rfl (l56 (by decide)) rfl ?_
        refine ex_iload_n (i := 3) dX0_evaluate_18 rfl rfl ?_
        refine ex_aload_n (i := 1) dX0_evaluate_19 rfl rfl ?_
        refine ex_iload_n (i := 3) dX0_evaluate_20 rfl rfl ?_
        refine ex_iconst (v := nI 3) dX0_evaluate_21 (by decide) ?_
        refine ex_idivN dX0_evaluate_22 (by omega) (by decide) (by decide) ?_
        refine ex_cV (ν := m_Tree_isToken) (a := 46) (ci := 8) (as := [.int (nI (s / 3))]) dX0_evaluate_23 ln_Evaluator_33 mf_Tree_isToken rfl (l56 (by decide)) rfl rfl np_Tree_isToken rfl rfl ⟨(Nat.le_of_ble_eq_true rfl), (Nat.le_of_ble_eq_true rfl), (Nat.le_of_ble_eq_true rfl), (Nat.le_of_ble_eq_true rfl)⟩ (by decide) ?_
        refine sp_Tree_isToken_46 sc1 (by omega) ?_
        refine ⟨_, rfl, ?_⟩
        refine ex_asN (a := 1) (by rw [hF1, e, if_pos (by decide)]) ?_
        refine ex_if_eqN (tgt := 33) dX0_evaluate_26 (by decide) (by omega) (fun h26 => by exact absurd h26 (by decide)) (fun h26 => ?_)
        refine ex_iconst (v := nI 1) dX0_evaluate_29 (by decide) ?_
        refine ex_goto (tgt := 34) dX0_evaluate_30 (by decide) ?_
        refine ex_cV (ν := m_Row_set) (a := 42) (ci := 6) (as := [.int (nI (s)), .int (nI (1))]) dX0_evaluate_34 ln_Evaluator_37 mf_Row_set rfl (l56 (by decide)) rfl rfl np_Row_set rfl rfl ⟨(Nat.le_of_ble_eq_true rfl), (Nat.le_of_ble_eq_true rfl), (Nat.le_of_ble_eq_true rfl), (Nat.le_of_ble_eq_true rfl)⟩ (by decide) ?_
        refine sp_Row_set (r := 42) (c := 43) rfl rfl rfl (l56 (by decide)) (l56 (by decide)) (by omega) ?_
        refine ⟨_, rfl, ?_⟩
        refine ex_iincN (L' := [some (.ref (41)), some (.ref (46)), some (.int (nI (md * 3))), some (.int (nI (s + 1)))]) dX0_evaluate_37 rfl rfl (by decide) rfl ?_
        refine ex_goto (tgt := 9) dX0_evaluate_40 (by decide) ?_
        refine ih (s + 1) _ (by omega) (hf.U (by decide)) (fun j hj => ?_)
        rw [xU_at]
        unfold upd
        by_cases ej : j = s
        · rw [if_pos ej, ej, if_pos c]
        · rw [if_neg ej]; exact hk j (by omega)
      · have c' : tb (s / 3) = false := by cases h : tb (s / 3) with
          | false => rfl
          | true => exact absurd h c
        have e := (hn2.2.1 c').1
        have e2 : rl (s / 3) < 2 ^ 31 := by have := (hn2.2.1 c').2.1; omega
        refine ex_iload_n (i := 3) dX0_evaluate_9 rfl rfl ?_
        refine ex_iload_n (i := 2) dX0_evaluate_10 rfl rfl ?_
        refine ex_icmp_geN (tgt := 43) dX0_evaluate_11 (by decide) (by omega) (by omega) (fun h11 => by omega) (fun h11 => ?_)
        refine ex_aload_n (i := 0) dX0_evaluate_14 rfl rfl ?_
        refine ex_getR (v := .ref (42)) dX0_evaluate_15 fl_Evaluator_20 rfl rfl (l56 (by decide)) rfl ?_
        refine ex_iload_n (i := 3) dX0_evaluate_18 rfl rfl ?_
        refine ex_aload_n (i := 1) dX0_evaluate_19 rfl rfl ?_
        refine ex_iload_n (i := 3) dX0_evaluate_20 rfl rfl ?_
        refine ex_iconst (v := nI 3) dX0_evaluate_21 (by decide) ?_
        refine ex_idivN dX0_evaluate_22 (by omega) (by decide) (by decide) ?_
        refine ex_cV (ν := m_Tree_isToken) (a := 46) (ci := 8) (as := [.int (nI (s / 3))]) dX0_evaluate_23 ln_Evaluator_33 mf_Tree_isToken rfl (l56 (by decide)) rfl rfl np_Tree_isToken rfl rfl ⟨(Nat.le_of_ble_eq_true rfl), (Nat.le_of_ble_eq_true rfl), (Nat.le_of_ble_eq_true rfl), (Nat.le_of_ble_eq_true rfl)⟩ (by decide) ?_
        refine sp_Tree_isToken_46 sc1 (by omega) ?_
        refine ⟨_, rfl, ?_⟩
        refine ex_asN (a := 0) (by rw [hF1, e, if_neg (nI_pos e2)]) ?_
        refine ex_if_eqN (tgt := 33) dX0_evaluate_26 (by decide) (by omega) (fun h26 => ?_) (fun h26 => by exact absurd h26 (by decide))
        refine ex_iconst (v := nI 0) dX0_evaluate_33 (by decide) ?_
        refine ex_cV (ν := m_Row_set) (a := 42) (ci := 6) (as := [.int (nI (s)), .int (nI (0))]) dX0_evaluate_34 ln_Evaluator_37 mf_Row_set rfl (l56 (by decide)) rfl rfl np_Row_set rfl rfl ⟨(Nat.le_of_ble_eq_true rfl), (Nat.le_of_ble_eq_true rfl), (Nat.le_of_ble_eq_true rfl), (Nat.le_of_ble_eq_true rfl)⟩ (by decide) ?_
        refine sp_Row_set (r := 42) (c := 43) rfl rfl rfl (l56 (by decide)) (l56 (by decide)) (by omega) ?_
        refine ⟨_, rfl, ?_⟩
        refine ex_iincN (L' := [some (.ref (41)), some (.ref (46)), some (.int (nI (md * 3))), some (.int (nI (s + 1)))]) dX0_evaluate_37 rfl rfl (by decide) rfl ?_
        refine ex_goto (tgt := 9) dX0_evaluate_40 (by decide) ?_
        refine ih (s + 1) _ (by omega) (hf.U (by decide)) (fun j hj => ?_)
        rw [xU_at]
        unfold upd
        by_cases ej : j = s
        · rw [if_pos ej, ej, if_neg c]
        · rw [if_neg ej]; exact hk j (by omega)
  refine ex_aload_n (i := 1) dX0_evaluate_0 rfl rfl ?_
  refine ex_cV (ν := m_Tree_size) (a := 46) (ci := 8) (as := []) dX0_evaluate_1 ln_Evaluator_27 mf_Tree_size rfl (l56 (by decide)) rfl rfl np_Tree_size rfl rfl ⟨(Nat.le_of_ble_eq_true rfl), (Nat.le_of_ble_eq_true rfl), (Nat.le_of_ble_eq_true rfl), (Nat.le_of_ble_eq_true rfl)⟩ (by decide) ?_
  refine sp_Tree_size_46 ?_
  refine ⟨_, rfl, ?_⟩
  refine ex_asN (a := md) h2 ?_
  refine ex_iconst (v := nI 3) dX0_evaluate_4 (by decide) ?_
  refine ex_imulN dX0_evaluate_5 ?_
  refine ex_istore_n (L' := [some (.ref (41)), some (.ref (46)), some (.int (nI (md * 3))), none]) dX0_evaluate_6 (i := 2) rfl (by decide) rfl ?_
  refine ex_iconst (v := nI 0) dX0_evaluate_7 (by decide) ?_
  refine ex_istore_n (L' := [some (.ref (41)), some (.ref (46)), some (.int (nI (md * 3))), some (.int (nI (0)))]) dX0_evaluate_8 (i := 3) rfl (by decide) rfl ?_
  exact loop (3 * md) 0 i (by omega) Fr.rf (fun j hj => by omega)
theorem lp_Evaluator_settle_51 (hn : n ≤ 14) (sc : SC i) (es : ES i op xp yp) (ev : EV n sy op xp yp) (hw : TW n sy md nd tb rl pa ch) (ac : AC md tb rl pa ch op xp yp rk) (sol : SOL md tb rl pa ch op xp yp val) (hF : i 53 = nd) {s0 : Nat} {kn0 : Nat → Nat}
    (hQ : ∀ i1 q1 kn, evI 55 md tb val i i1 q q1 kn → kn s0 = 1 → (∀ j, kn0 j = 1 → kn j = 1) → Q (.ok none) (56 + ζ, g, i1, q1, RT t)) :
    ∀ (m : Nat) (kn w : Nat → Nat) (h st : Nat) (i1 : Nat → Nat → Int32) (q1 : Nat → Nat → Int64), 451 * (3 * md - sumN kn (3 * md)) + (450 - h) ≤ m → h ≤ 450 → st + 2 * (3 * md - sumN kn (3 * md)) ≤ 900 + h → evI 55 md tb val i i1 q q1 kn → (∀ j, kn0 j = 1 → kn j = 1) →
      (∀ a, a < h → i1 45 a = nI (w a) ∧ w a < 3 * md ∧ kn (w a) = 0 ∧ a + rk (w a) < 450) → (∀ a b, a < b → b < h → rk (w b) < rk (w a)) → (h = 0 → kn s0 = 1) → (1 ≤ h → w 0 = s0) →
      Wx m_Evaluator_settle 14 [some (.ref 41), some (.ref 51), some (.int (nI s0)), some (.int (nI h)), some (.int (nI st)), none, none] [] (56 + ζ, g, i1, q1, RT t) (0, 0) Q := by
  intro m
  induction m with
  | zero =>
    intro kn w h st i1 q1 hm hh hst hI hmo hst1 hst2 h0 h1
    have e : h = 450 := by omega
    have := hst1 (h - 1) (by omega)
    have hle := sumN_lt (F := kn) (G := fun _ => 1) (k := w (h - 1)) (N := 3 * md) (fun j hj => (hI.2.2 j hj).2.1) this.2.1 (by show kn _ < 1; omega)
    have hle2 := sumN_le (F := fun _ => 1) (B := 1) (N := 3 * md) (fun j hj => Nat.le_refl 1)
    omega
  | succ m ih =>
    intro kn w h st i1 q1 hm hh hst hI hmo hst1 hst2 h0 h1
    obtain ⟨hfr, hq, hj⟩ := hI
    have h150 := hw.1
    have sc1 : SC i1 := SC_Fr (l := [43, 45]) rfl hfr sc
    have es1 : ES i1 op xp yp := es.fr hfr (by decide) (by decide) (by decide)
    have hF1 : i1 53 = nd := by rw [hfr 53 (by decide)]; exact hF
    by_cases hz : h = 0
    · subst hz
      refine ex_iload dX0_settle_14 rfl ?_
      refine ex_ldc (v := 1000000) dX0_settle_16 ld_Evaluator_49 ?_
      refine ex_asN (a := 1000000) (by decide) ?_
      refine ex_icmp_geN (tgt := 99) dX0_settle_18 (by decide) (by omega) (by omega) (fun h18 => by omega) (fun h18 => ?_)
      refine ex_iload_n (i := 3) dX0_settle_21 rfl rfl ?_
      refine ex_if_leN (tgt := 99) dX0_settle_22 (by decide) (by omega) (fun h22 => ?_) (fun h22 => by exact absurd h22 (by decide))
      refine ex_ret dX0_settle_99 rfl ?_
      exact hQ i1 q1 kn ⟨hfr, hq, hj⟩ (h0 rfl) hmo
    · have ht := hst1 (h - 1) (by omega)
      have hb : tb (w (h - 1) / 3) = false := by
        cases hb : tb (w (h - 1) / 3) with
        | false => rfl
        | true => have := (hj _ ht.2.1).2.2.2 hb; omega
      rcases ms_cases (kn := kn) ev hw ac ht.2.1 hb with ⟨x, e, x1, x2, x3⟩ | ⟨e, a1, a2⟩
      ·
        refine ex_iload dX0_settle_14 rfl ?_
        refine ex_ldc (v := 1000000) dX0_settle_16 ld_Evaluator_49 ?_
        refine ex_asN (a := 1000000) (by decide) ?_
        refine ex_icmp_geN (tgt := 99) dX0_settle_18 (by decide) (by omega) (by omega) (fun h18 => by omega) (fun h18 => ?_)
        refine ex_iload_n (i := 3) dX0_settle_21 rfl rfl ?_
        refine ex_if_leN (tgt := 99) dX0_settle_22 (by decide) (by omega) (fun h22 => by omega) (fun h22 => ?_)
        refine ex_aload_n (i := 0) dX0_settle_25 rfl rfl ?_
        refine ex_getR (v := .ref (44)) dX0_settle_26 fl_Evaluator_24 rfl rfl (l56 (by decide)) rfl ?_
        refine ex_iload_n (i := 3) dX0_settle_29 rfl rfl ?_
        refine ex_iconst (v := nI 1) dX0_settle_30 (by decide) ?_
        refine ex_isubN dX0_settle_31 (by omega) ?_
        refine ex_cV (ν := m_Row_get) (a := 44) (ci := 6) (as := [.int (nI (h - 1))]) dX0_settle_32 ln_Evaluator_41 mf_Row_get rfl (l56 (by decide)) rfl rfl np_Row_get rfl rfl ⟨(Nat.le_of_ble_eq_true rfl), (Nat.le_of_ble_eq_true rfl), (Nat.le_of_ble_eq_true rfl), (Nat.le_of_ble_eq_true rfl)⟩ (by decide) ?_
        refine sp_Row_get (r := 44) (c := 45) rfl rfl rfl (l56 (by decide)) (l56 (by decide)) (by omega) ?_
        refine ⟨_, rfl, ?_⟩
        refine ex_asN (a := w (h - 1)) ht.1 ?_
        refine ex_istore (L' := [some (.ref (41)), some (.ref (51)), some (.int (nI (s0))), some (.int (nI (h))), some (.int (nI (st))), some (.int (nI (w (h - 1)))), none]) dX0_settle_35 (by decide) rfl ?_
        refine ex_aload_n (i := 0) dX0_settle_37 rfl rfl ?_
        refine ex_aload_n (i := 1) dX0_settle_38 rfl rfl ?_
        refine ex_iload dX0_settle_39 rfl ?_
        refine ex_cV (ν := m_Evaluator_missingFor) (a := 41) (ci := 0) (as := [.ref (51), .int (nI (w (h - 1)))]) dX0_settle_41 ln_Evaluator_50 mf_Evaluator_missingFor rfl (l56 (by decide)) rfl rfl np_Evaluator_missingFor rfl rfl ⟨(Nat.le_of_ble_eq_true rfl), (Nat.le_of_ble_eq_true rfl), (Nat.le_of_ble_eq_true rfl), (Nat.le_of_ble_eq_true rfl)⟩ (by decide) ?_
        refine sp_Evaluator_missingFor_51 (kn := kn) hn sc1 es1 ev hF1 hw ht.2.1 hb (fun j hj2 => ⟨(hj j hj2).1, (hj j hj2).2.1⟩) ?_
        refine ⟨_, rfl, ?_⟩
        refine ex_asN (a := x) e ?_
        refine ex_istore (L' := [some (.ref (41)), some (.ref (51)), some (.int (nI (s0))), some (.int (nI (h))), some (.int (nI (st))), some (.int (nI (w (h - 1)))), some (.int (nI (x)))]) dX0_settle_44 (by decide) rfl ?_
        refine ex_iload dX0_settle_46 rfl ?_
        refine ex_if_ltN (tgt := 67) dX0_settle_48 (by decide) (by omega) ?_
        refine ex_aload_n (i := 0) dX0_settle_51 rfl rfl ?_
        refine ex_getR (v := .ref (44)) dX0_settle_52 fl_Evaluator_24 rfl rfl (l56 (by decide)) rfl ?_
        refine ex_iload_n (i := 3) dX0_settle_55 rfl rfl ?_
        refine ex_iload dX0_settle_56 rfl ?_
        refine ex_cV (ν := m_Row_set) (a := 44) (ci := 6) (as := [.int (nI (h)), .int (nI (x))]) dX0_settle_58 ln_Evaluator_37 mf_Row_set rfl (l56 (by decide)) rfl rfl np_Row_set rfl rfl ⟨(Nat.le_of_ble_eq_true rfl), (Nat.le_of_ble_eq_true rfl), (Nat.le_of_ble_eq_true rfl), (Nat.le_of_ble_eq_true rfl)⟩ (by decide) ?_
        refine sp_Row_set (r := 44) (c := 45) rfl rfl rfl (l56 (by decide)) (l56 (by decide)) (by omega) ?_
        refine ⟨_, rfl, ?_⟩
        refine ex_iincN (L' := [some (.ref (41)), some (.ref (51)), some (.int (nI (s0))), some (.int (nI (h + 1))), some (.int (nI (st))), some (.int (nI (w (h - 1)))), some (.int (nI (x)))]) dX0_settle_61 rfl rfl (by decide) rfl ?_
        refine ex_goto (tgt := 93) dX0_settle_64 (by decide) ?_
        refine ex_iincN (L' := [some (.ref (41)), some (.ref (51)), some (.int (nI (s0))), some (.int (nI (h + 1))), some (.int (nI (st + 1))), some (.int (nI (w (h - 1)))), some (.int (nI (x)))]) dX0_settle_93 rfl rfl (by decide) rfl ?_
        refine ex_goto (tgt := 14) dX0_settle_96 (by decide) ?_
        refine ex_less (L' := [some (.ref 41), some (.ref 51), some (.int (nI s0)), some (.int (nI (h + 1))), some (.int (nI (st + 1))), none, none]) (by simp [xSub]) (ih kn (upN w h x) (h + 1) (st + 1) _ q1 (by omega) (by omega) (by omega) ⟨hfr.U (by decide), hq, fun j hj2 => by rw [xU_ne _ _ _ (show (43 : Nat) ≠ 45 by decide)]; exact hj j hj2⟩ hmo ?_ ?_ (fun z => absurd z (by omega)) (fun _ => ?_))
        · intro a ha
          rw [xU_at]
          unfold upd upN
          by_cases ea : a = h
          · rw [if_pos ea, if_pos ea]; exact ⟨rfl, x1, x2, by omega⟩
          · rw [if_neg ea, if_neg ea]; exact hst1 a (by omega)
        · intro a b hab hbh
          unfold upN
          rw [if_neg (show ¬ a = h by omega)]
          by_cases eb : b = h
          · rw [if_pos eb]
            by_cases ea : a = h - 1
            · rw [ea]; exact x3
            · exact Nat.lt_trans x3 (hst2 a (h - 1) (by omega) (by omega))
          · rw [if_neg eb]; exact hst2 a b hab (by omega)
        · unfold upN; rw [if_neg (by omega)]; exact h1 (by omega)
      · have hv : wkS op xp yp rl ch (q1 55) (sCx pa (w (h - 1))) = val (w (h - 1)) := by
          rw [sol _ ht.2.1 hb]
          have hlt : (2 ≤ opS op rl (sCx pa (w (h - 1))) → arS xp rl ch (sCx pa (w (h - 1))) < 3 * md) ∧ (2 ≤ opS op rl (sCx pa (w (h - 1))) → arS yp rl ch (sCx pa (w (h - 1))) < 3 * md) := by
            cases h : sCx pa (w (h - 1)) with
            | none => exact ⟨fun z => absurd z (show ¬ 2 ≤ 0 by decide), fun z => absurd z (show ¬ 2 ≤ 0 by decide)⟩
            | some v =>
              obtain ⟨c, p⟩ := v
              have := arS_lt ev hw ht.2.1 hb h
              exact ⟨fun z => (this.1 z).2, fun z => (this.2 z).2⟩
          refine wkS_congr (fun z => ?_) (fun z => ?_)
          · have a3 := hj _ (hlt.1 z)
            exact a3.2.2.1 (by have := a1 z; omega)
          · have a3 := hj _ (hlt.2 (by omega))
            exact a3.2.2.1 (by have := a2 z; omega)
        have hsu := sumN_up (F := kn) (k := w (h - 1)) (v := 1) ht.2.1
        have hle := sumN_lt (F := kn) (G := fun _ => 1) (k := w (h - 1)) (N := 3 * md) (fun j hj2 => (hj j hj2).2.1) ht.2.1 (by show kn _ < 1; omega)
        have hle2 := sumN_le (F := fun _ => 1) (B := 1) (N := 3 * md) (fun j hj => Nat.le_refl 1)
        refine ex_iload dX0_settle_14 rfl ?_
        refine ex_ldc (v := 1000000) dX0_settle_16 ld_Evaluator_49 ?_
        refine ex_asN (a := 1000000) (by decide) ?_
        refine ex_icmp_geN (tgt := 99) dX0_settle_18 (by decide) (by omega) (by omega) (fun h18 => by omega) (fun h18 => ?_)
        refine ex_iload_n (i := 3) dX0_settle_21 rfl rfl ?_
        refine ex_if_leN (tgt := 99) dX0_settle_22 (by decide) (by omega) (fun h22 => by omega) (fun h22 => ?_)
        refine ex_aload_n (i := 0) dX0_settle_25 rfl rfl ?_
        refine ex_getR (v := .ref (44)) dX0_settle_26 fl_Evaluator_24 rfl rfl (l56 (by decide)) rfl ?_
        refine ex_iload_n (i := 3) dX0_settle_29 rfl rfl ?_
        refine ex_iconst (v := nI 1) dX0_settle_30 (by decide) ?_
        refine ex_isubN dX0_settle_31 (by omega) ?_
        refine ex_cV (ν := m_Row_get) (a := 44) (ci := 6) (as := [.int (nI (h - 1))]) dX0_settle_32 ln_Evaluator_41 mf_Row_get rfl (l56 (by decide)) rfl rfl np_Row_get rfl rfl ⟨(Nat.le_of_ble_eq_true rfl), (Nat.le_of_ble_eq_true rfl), (Nat.le_of_ble_eq_true rfl), (Nat.le_of_ble_eq_true rfl)⟩ (by decide) ?_
        refine sp_Row_get (r := 44) (c := 45) rfl rfl rfl (l56 (by decide)) (l56 (by decide)) (by omega) ?_
        refine ⟨_, rfl, ?_⟩
        refine ex_asN (a := w (h - 1)) ht.1 ?_
        refine ex_istore (L' := [some (.ref (41)), some (.ref (51)), some (.int (nI (s0))), some (.int (nI (h))), some (.int (nI (st))), some (.int (nI (w (h - 1)))), none]) dX0_settle_35 (by decide) rfl ?_
        refine ex_aload_n (i := 0) dX0_settle_37 rfl rfl ?_
        refine ex_aload_n (i := 1) dX0_settle_38 rfl rfl ?_
        refine ex_iload dX0_settle_39 rfl ?_
        refine ex_cV (ν := m_Evaluator_missingFor) (a := 41) (ci := 0) (as := [.ref (51), .int (nI (w (h - 1)))]) dX0_settle_41 ln_Evaluator_50 mf_Evaluator_missingFor rfl (l56 (by decide)) rfl rfl np_Evaluator_missingFor rfl rfl ⟨(Nat.le_of_ble_eq_true rfl), (Nat.le_of_ble_eq_true rfl), (Nat.le_of_ble_eq_true rfl), (Nat.le_of_ble_eq_true rfl)⟩ (by decide) ?_
        refine sp_Evaluator_missingFor_51 (kn := kn) hn sc1 es1 ev hF1 hw ht.2.1 hb (fun j hj2 => ⟨(hj j hj2).1, (hj j hj2).2.1⟩) ?_
        refine ⟨_, rfl, ?_⟩
        refine ex_asI (y := -1) e ?_
        refine ex_istore (L' := [some (.ref (41)), some (.ref (51)), some (.int (nI (s0))), some (.int (nI (h))), some (.int (nI (st))), some (.int (nI (w (h - 1)))), some (.int ((-1)))]) dX0_settle_44 (by decide) rfl ?_
        refine ex_iload dX0_settle_46 rfl ?_
        refine ex_if_lt (tgt := 67) dX0_settle_48 (by decide) (fun h48 => ?_) (fun h48 => by exact absurd (by decide) h48)
        refine ex_aload_n (i := 1) dX0_settle_67 rfl rfl ?_
        refine ex_iload dX0_settle_68 rfl ?_
        refine ex_aload_n (i := 0) dX0_settle_70 rfl rfl ?_
        refine ex_aload_n (i := 1) dX0_settle_71 rfl rfl ?_
        refine ex_iload dX0_settle_72 rfl ?_
        refine ex_cV (ν := m_Evaluator_workOut) (a := 41) (ci := 0) (as := [.ref (51), .int (nI (w (h - 1)))]) dX0_settle_74 ln_Evaluator_54 mf_Evaluator_workOut rfl (l56 (by decide)) rfl rfl np_Evaluator_workOut rfl rfl ⟨(Nat.le_of_ble_eq_true rfl), (Nat.le_of_ble_eq_true rfl), (Nat.le_of_ble_eq_true rfl), (Nat.le_of_ble_eq_true rfl)⟩ (by decide) ?_
        refine sp_Evaluator_workOut_51 hn sc1 es1 ev hF1 hw ht.2.1 hb ?_
        refine ⟨_, rfl, ?_⟩
        refine ex_asJ (y := val (w (h - 1))) hv ?_
        refine ex_cV (ν := m_Tree_setValue) (a := 51) (ci := 8) (as := [.int (nI (w (h - 1))), .long (val (w (h - 1)))]) dX0_settle_77 ln_Evaluator_58 mf_Tree_setValue rfl (l56 (by decide)) rfl rfl np_Tree_setValue rfl rfl ⟨(Nat.le_of_ble_eq_true rfl), (Nat.le_of_ble_eq_true rfl), (Nat.le_of_ble_eq_true rfl), (Nat.le_of_ble_eq_true rfl)⟩ (by decide) ?_
        refine sp_Tree_setValue_51 (by omega) ?_
        refine ⟨_, rfl, ?_⟩
        refine ex_aload_n (i := 0) dX0_settle_80 rfl rfl ?_
        refine ex_getR (v := .ref (42)) dX0_settle_81 fl_Evaluator_20 rfl rfl (l56 (by decide)) rfl ?_
        refine ex_iload dX0_settle_84 rfl ?_
        refine ex_iconst (v := nI 1) dX0_settle_86 (by decide) ?_
        refine ex_cV (ν := m_Row_set) (a := 42) (ci := 6) (as := [.int (nI (w (h - 1))), .int (nI (1))]) dX0_settle_87 ln_Evaluator_37 mf_Row_set rfl (l56 (by decide)) rfl rfl np_Row_set rfl rfl ⟨(Nat.le_of_ble_eq_true rfl), (Nat.le_of_ble_eq_true rfl), (Nat.le_of_ble_eq_true rfl), (Nat.le_of_ble_eq_true rfl)⟩ (by decide) ?_
        refine sp_Row_set (r := 42) (c := 43) rfl rfl rfl (l56 (by decide)) (l56 (by decide)) (by omega) ?_
        refine ⟨_, rfl, ?_⟩
        obtain ⟨v1, hv1⟩ : ∃ y : Int32, y = nI (h) + Int32.ofInt (-1) := ⟨_, rfl⟩
        refine ex_iinc (v := v1) (L' := [some (.ref (41)), some (.ref (51)), some (.int (nI (s0))), some (.int (v1)), some (.int (nI (st))), some (.int (nI (w (h - 1)))), some (.int ((-1)))]) dX0_settle_90 rfl hv1.symm (by decide) rfl ?_
        refine ex_iincN (L' := [some (.ref (41)), some (.ref (51)), some (.int (nI (s0))), some (.int (v1)), some (.int (nI (st + 1))), some (.int (nI (w (h - 1)))), some (.int ((-1)))]) dX0_settle_93 rfl rfl (by decide) rfl ?_
        refine ex_goto (tgt := 14) dX0_settle_96 (by decide) ?_
        have e3 : v1 = nI (h - 1) := by rw [hv1]; exact nI_dec (by omega)
        rw [e3]
        refine ex_less (L' := [some (.ref 41), some (.ref 51), some (.int (nI s0)), some (.int (nI (h - 1))), some (.int (nI (st + 1))), none, none]) (by simp [xSub]) (ih (upN kn (w (h - 1)) 1) w (h - 1) (st + 1) _ _ (by omega) (by omega) (by omega) ⟨hfr.U (by decide), ?_, ?_⟩ ?_ ?_ (fun a b hab hbh => hst2 a b hab (by omega)) (fun z => ?_) (fun z => h1 (by omega)))
        · intro c hc
          rw [xUL_ne _ _ _ hc]; exact hq c hc
        · intro j hj2
          have b := hj j hj2
          rw [xU_at, xUL_at]
          unfold upd upN vp_updL
          by_cases ej : j = w (h - 1)
          · rw [if_pos ej, if_pos ej, if_pos ej]; exact ⟨rfl, by decide, fun _ => by rw [ej], fun _ => rfl⟩
          · rw [if_neg ej, if_neg ej, if_neg ej]; exact b
        · intro j h2
          unfold upN
          split
          · rfl
          · exact hmo j h2
        · intro a ha
          have b := hst1 a (by omega)
          have c := hst2 a (h - 1) (by omega) (by omega)
          rw [xU_ne _ _ _ (show (45 : Nat) ≠ 43 by decide)]
          refine ⟨b.1, b.2.1, ?_, b.2.2.2⟩
          unfold upN
          rw [if_neg (fun z => by rw [z] at c; omega)]
          exact b.2.2.1
        · have e0 := h1 (by omega)
          have e1 : h - 1 = 0 := z
          unfold upN
          rw [e1, e0, if_pos rfl]
theorem sp_Evaluator_settle_51 (hn : n ≤ 14) (sc : SC i) (es : ES i op xp yp) (ev : EV n sy op xp yp) (hw : TW n sy md nd tb rl pa ch) (ac : AC md tb rl pa ch op xp yp rk) (sol : SOL md tb rl pa ch op xp yp val) (hF : i 53 = nd) {s0 : Nat} {kn0 : Nat → Nat} (hs0 : s0 < 3 * md) (hk0 : kn0 s0 = 0) {i0 : Nat → Nat → Int32} {q0 : Nat → Nat → Int64} (hf0 : Fr [43, 45] i0 i) (hI : ∀ j, j < 3 * md → i 43 j = nI (kn0 j) ∧ kn0 j ≤ 1 ∧ (kn0 j = 1 → q 55 j = val j) ∧ (tb (j / 3) = true → kn0 j = 1))
    (hQ : ∀ i1 q1 kn, evI 55 md tb val i i1 q q1 kn → kn s0 = 1 → (∀ j, kn0 j = 1 → kn j = 1) → Q (.ok none) (56 + ζ, g, i1, q1, RT t)) :
    Wx m_Evaluator_settle 0 [some (.ref 41), some (.ref 51), some (.int (nI s0)), none, none, none, none] [] (56 + ζ, g, i, q, RT t) (0, 0) Q := by
  have h150 := hw.1
  refine ex_aload_n (i := 0) dX0_settle_0 rfl rfl ?_
  refine ex_getR (v := .ref (44)) dX0_settle_1 fl_Evaluator_24 rfl rfl (l56 (by decide)) rfl ?_
  refine ex_iconst (v := nI 0) dX0_settle_4 (by decide) ?_
  refine ex_iload_n (i := 2) dX0_settle_5 rfl rfl ?_
  refine ex_cV (ν := m_Row_set) (a := 44) (ci := 6) (as := [.int (nI (0)), .int (nI (s0))]) dX0_settle_6 ln_Evaluator_37 mf_Row_set rfl (l56 (by decide)) rfl rfl np_Row_set rfl rfl ⟨(Nat.le_of_ble_eq_true rfl), (Nat.le_of_ble_eq_true rfl), (Nat.le_of_ble_eq_true rfl), (Nat.le_of_ble_eq_true rfl)⟩ (by decide) ?_
  refine sp_Row_set (r := 44) (c := 45) rfl rfl rfl (l56 (by decide)) (l56 (by decide)) (by decide) ?_
  refine ⟨_, rfl, ?_⟩
  refine ex_iconst (v := nI 1) dX0_settle_9 (by decide) ?_
  refine ex_istore_n (L' := [some (.ref (41)), some (.ref (51)), some (.int (nI (s0))), some (.int (nI (1))), none, none, none]) dX0_settle_10 (i := 3) rfl (by decide) rfl ?_
  refine ex_iconst (v := nI 0) dX0_settle_11 (by decide) ?_
  refine ex_istore (L' := [some (.ref (41)), some (.ref (51)), some (.int (nI (s0))), some (.int (nI (1))), some (.int (nI (0))), none, none]) dX0_settle_12 (by decide) rfl ?_
  refine lp_Evaluator_settle_51 (kn0 := kn0) hn sc es ev hw ac sol hF hQ _ kn0 (fun _ => s0) 1 0 _ q (Nat.le_refl _) (by decide) (by omega) ⟨Fr.rf.U (by decide), fun _ _ => rfl, fun j hj => by rw [xU_ne _ _ _ (show (43 : Nat) ≠ 45 by decide)]; exact hI j hj⟩ (fun _ z => z) ?_ (fun a b h1 h2 => by omega) (fun z => absurd z (by decide)) (fun _ => rfl)
  intro a ha
  have e : a = 0 := by omega
  subst e
  rw [xU_at]
  exact ⟨by simp [upd], hs0, hk0, by have := ac.1 s0 hs0; omega⟩
theorem lp_Evaluator_evaluate2_51 (hn : n ≤ 14) (sc : SC i) (es : ES i op xp yp) (ev : EV n sy op xp yp) (hw : TW n sy md nd tb rl pa ch) (ac : AC md tb rl pa ch op xp yp rk) (sol : SOL md tb rl pa ch op xp yp val) (hF : i 53 = nd)
    (hQ : ∀ i1 q1, Fr [43, 45] i i1 → (∀ c, c ≠ 55 → q1 c = q c) → (∀ s, s < 3 * md → q1 55 s = val s) → Q (.ok none) (56 + ζ, g, i1, q1, RT t)) :
    ∀ (d s : Nat) (kn : Nat → Nat) (i1 : Nat → Nat → Int32) (q1 : Nat → Nat → Int64), s + d = 3 * md → evI 55 md tb val i i1 q q1 kn → (∀ j, j < s → kn j = 1) → Wx m_Evaluator_evaluate 45 [some (.ref 41), some (.ref 51), some (.int (nI (md * 3))), some (.int (nI s))] [] (56 + ζ, g, i1, q1, RT t) (0, 0) Q := by
  intro d
  induction d with
  | zero =>
    intro s kn i1 q1 hs hI hk
    have h150 := hw.1
    refine ex_iload_n (i := 3) dX0_evaluate_45 rfl rfl ?_
    refine ex_iload_n (i := 2) dX0_evaluate_46 rfl rfl ?_
    refine ex_icmp_geN (tgt := 73) dX0_evaluate_47 (by decide) (by omega) (by omega) (fun h47 => ?_) (fun h47 => by omega)
    refine ex_ret dX0_evaluate_73 rfl ?_
    exact hQ i1 q1 hI.1 hI.2.1 (fun j hj => (hI.2.2 j hj).2.2.1 (hk j (by omega)))
  | succ d ih =>
    intro s kn i1 q1 hs hI hk
    have h150 := hw.1
    have hs2 := hI.2.2 s (by omega)
    by_cases c : kn s = 0
    ·
      refine ex_iload_n (i := 3) dX0_evaluate_45 rfl rfl ?_
      refine ex_iload_n (i := 2) dX0_evaluate_46 rfl rfl ?_
      refine ex_icmp_geN (tgt := 73) dX0_evaluate_47 (by decide) (by omega) (by omega) (fun h47 => by omega) (fun h47 => ?_)
      refine ex_aload_n (i := 0) dX0_evaluate_50 rfl rfl ?_
      refine ex_getR (v := .ref (42)) dX0_evaluate_51 fl_Evaluator_20 rfl rfl (l56 (by decide)) rfl ?_
      refine ex_iload_n (i := 3) dX0_evaluate_54 rfl rfl ?_
      refine ex_cV (ν := m_Row_get) (a := 42) (ci := 6) (as := [.int (nI (s))]) dX0_evaluate_55 ln_Evaluator_41 mf_Row_get rfl (l56 (by decide)) rfl rfl np_Row_get rfl rfl ⟨(Nat.le_of_ble_eq_true rfl), (Nat.le_of_ble_eq_true rfl), (Nat.le_of_ble_eq_true rfl), (Nat.le_of_ble_eq_true rfl)⟩ (by decide) ?_
      refine sp_Row_get (r := 42) (c := 43) rfl rfl rfl (l56 (by decide)) (l56 (by decide)) (by omega) ?_
      refine ⟨_, rfl, ?_⟩
      refine ex_asN (a := kn s) hs2.1 ?_
      refine ex_if_neN (tgt := 67) dX0_evaluate_58 (by decide) (by omega) (fun h58 => by exact absurd c h58) (fun h58 => ?_)
      refine ex_aload_n (i := 0) dX0_evaluate_61 rfl rfl ?_
      refine ex_aload_n (i := 1) dX0_evaluate_62 rfl rfl ?_
      refine ex_iload_n (i := 3) dX0_evaluate_63 rfl rfl ?_
      refine ex_cV (ν := m_Evaluator_settle) (a := 41) (ci := 0) (as := [.ref (51), .int (nI (s))]) dX0_evaluate_64 ln_Evaluator_45 mf_Evaluator_settle rfl (l56 (by decide)) rfl rfl np_Evaluator_settle rfl rfl ⟨(Nat.le_of_ble_eq_true rfl), (Nat.le_of_ble_eq_true rfl), (Nat.le_of_ble_eq_true rfl), (Nat.le_of_ble_eq_true rfl)⟩ (by decide) ?_
      refine sp_Evaluator_settle_51 (kn0 := kn) (i0 := i) (q0 := q) hn (SC_Fr (l := [43, 45]) rfl hI.1 sc) (es.fr hI.1 (by decide) (by decide) (by decide)) ev hw ac sol (by rw [hI.1 53 (by decide)]; exact hF) (by omega) c hI.1 hI.2.2 (fun i2 q2 kn2 g1 g2 g3 => ?_)
      refine ⟨_, rfl, ?_⟩
      refine ex_iincN (L' := [some (.ref (41)), some (.ref (51)), some (.int (nI (md * 3))), some (.int (nI (s + 1)))]) dX0_evaluate_67 rfl rfl (by decide) rfl ?_
      refine ex_goto (tgt := 45) dX0_evaluate_70 (by decide) ?_
      refine ih (s + 1) kn2 i2 q2 (by omega) ⟨hI.1.tr g1.1, fun c hc => (g1.2.1 c hc).trans (hI.2.1 c hc), g1.2.2⟩ (fun j hj => ?_)
      by_cases e : j = s
      · rw [e]; exact g2
      · exact g3 j (hk j (by omega))
    ·
      refine ex_iload_n (i := 3) dX0_evaluate_45 rfl rfl ?_
      refine ex_iload_n (i := 2) dX0_evaluate_46 rfl rfl ?_
      refine ex_icmp_geN (tgt := 73) dX0_evaluate_47 (by decide) (by omega) (by omega) (fun h47 => by omega) (fun h47 => ?_)
      refine ex_aload_n (i := 0) dX0_evaluate_50 rfl rfl ?_
      refine ex_getR (v := .ref (42)) dX0_evaluate_51 fl_Evaluator_20 rfl rfl (l56 (by decide)) rfl ?_
      refine ex_iload_n (i := 3) dX0_evaluate_54 rfl rfl ?_
      refine ex_cV (ν := m_Row_get) (a := 42) (ci := 6) (as := [.int (nI (s))]) dX0_evaluate_55 ln_Evaluator_41 mf_Row_get rfl (l56 (by decide)) rfl rfl np_Row_get rfl rfl ⟨(Nat.le_of_ble_eq_true rfl), (Nat.le_of_ble_eq_true rfl), (Nat.le_of_ble_eq_true rfl), (Nat.le_of_ble_eq_true rfl)⟩ (by decide) ?_
      refine sp_Row_get (r := 42) (c := 43) rfl rfl rfl (l56 (by decide)) (l56 (by decide)) (by omega) ?_
      refine ⟨_, rfl, ?_⟩
      refine ex_asN (a := kn s) hs2.1 ?_
      refine ex_if_neN (tgt := 67) dX0_evaluate_58 (by decide) (by omega) (fun h58 => ?_) (fun h58 => by exact absurd h58 c)
      refine ex_iincN (L' := [some (.ref (41)), some (.ref (51)), some (.int (nI (md * 3))), some (.int (nI (s + 1)))]) dX0_evaluate_67 rfl rfl (by decide) rfl ?_
      refine ex_goto (tgt := 45) dX0_evaluate_70 (by decide) ?_
      refine ih (s + 1) kn i1 q1 (by omega) hI (fun j hj => ?_)
      by_cases e : j = s
      · rw [e]; omega
      · exact hk j (by omega)
theorem sp_Evaluator_evaluate_51 (hn : n ≤ 14) (sc : SC i) (es : ES i op xp yp) (ev : EV n sy op xp yp) (hw : TW n sy md nd tb rl pa ch) (ac : AC md tb rl pa ch op xp yp rk) (sol : SOL md tb rl pa ch op xp yp val) (hF : i 53 = nd) (h2 : i 51 2 = nI md) (htok : ∀ s, s < 3 * md → tb (s / 3) = true → q 55 s = val s)
    (hQ : ∀ i1 q1, Fr [43, 45] i i1 → (∀ c, c ≠ 55 → q1 c = q c) → (∀ s, s < 3 * md → q1 55 s = val s) → Q (.ok none) (56 + ζ, g, i1, q1, RT t)) :
    Wx m_Evaluator_evaluate 0 [some (.ref 41), some (.ref 51), none, none] [] (56 + ζ, g, i, q, RT t) (0, 0) Q := by
  have h150 := hw.1
  have loop : ∀ d s i1, s + d = 3 * md → Fr [43] i i1 → (∀ j, j < s → i1 43 j = nI (if tb (j / 3) = true then 1 else 0)) → Wx m_Evaluator_evaluate 9 [some (.ref 41), some (.ref 51), some (.int (nI (md * 3))), some (.int (nI s))] [] (56 + ζ, g, i1, q, RT t) (0, 0) Q := by
    intro d
    induction d with
    | zero =>
      intro s i1 hs hf hk
      refine ex_iload_n (i := 3) dX0_evaluate_9 rfl rfl ?_
      refine ex_iload_n (i := 2) dX0_evaluate_10 rfl rfl ?_
      refine ex_icmp_geN (tgt := 43) dX0_evaluate_11 (by decide) (by omega) (by omega) (fun h11 => ?_) (fun h11 => by omega)
      refine ex_iconst (v := nI 0) dX0_evaluate_43 (by decide) ?_
      refine ex_istore_n (L' := [some (.ref (41)), some (.ref (51)), some (.int (nI (md * 3))), some (.int (nI (0)))]) dX0_evaluate_44 (i := 3) rfl (by decide) rfl ?_
      refine lp_Evaluator_evaluate2_51 hn sc es ev hw ac sol hF hQ (3 * md) 0 (fun j => if tb (j / 3) = true then 1 else 0) i1 q (by omega) ⟨hf.mono (by decide), fun _ _ => rfl, fun j hj => ⟨hk j (by omega), by show (if tb (j / 3) = true then 1 else 0) ≤ 1; split <;> decide, fun z => htok j hj ?_, fun z => if_pos z⟩⟩ (fun j hj => by omega)
      by_cases e : tb (j / 3) = true
      · exact e
      · have z2 : (if tb (j / 3) = true then 1 else 0) = 1 := z
        rw [if_neg e] at z2; exact absurd z2 (by decide)
    | succ d ih =>
      intro s i1 hs hf hk
      have sc1 : SC i1 := SC_Fr (l := [43]) rfl hf sc
      have hF1 : i1 53 = nd := by rw [hf 53 (by decide)]; exact hF
      have hn2 := hw.2 (s / 3) (by omega)
      by_cases c : tb (s / 3) = true
      · have e := hn2.1 c
        refine ex_iload_n (i := 3) dX0_evaluate_9 rfl rfl ?_
        refine ex_iload_n (i := 2) dX0_evaluate_10 rfl rfl ?_
        refine ex_icmp_geN (tgt := 43) dX0_evaluate_11 (by decide) (by omega) (by omega) (fun h11 => by omega) (fun h11 => ?_)
        refine ex_aload_n (i := 0) dX0_evaluate_14 rfl rfl ?_
        refine ex_getR (v := .ref (42)) dX0_evaluate_15 fl_Evaluator_20 rfl rfl (l56 (by decide)) rfl ?_
        refine ex_iload_n (i := 3) dX0_evaluate_18 rfl rfl ?_
        refine ex_aload_n (i := 1) dX0_evaluate_19 rfl rfl ?_
        refine ex_iload_n (i := 3) dX0_evaluate_20 rfl rfl ?_
        refine ex_iconst (v := nI 3) dX0_evaluate_21 (by decide) ?_
        refine ex_idivN dX0_evaluate_22 (by omega) (by decide) (by decide) ?_
        refine ex_cV (ν := m_Tree_isToken) (a := 51) (ci := 8) (as := [.int (nI (s / 3))]) dX0_evaluate_23 ln_Evaluator_33 mf_Tree_isToken rfl (l56 (by decide)) rfl rfl np_Tree_isToken rfl rfl ⟨(Nat.le_of_ble_eq_true rfl), (Nat.le_of_ble_eq_true rfl), (Nat.le_of_ble_eq_true rfl), (Nat.le_of_ble_eq_true rfl)⟩ (by decide) ?_
        refine sp_Tree_isToken_51 sc1 (by omega) ?_
        refine ⟨_, rfl, ?_⟩
        refine ex_asN (a := 1) (by rw [hF1, e, if_pos (by decide)]) ?_
        refine ex_if_eqN (tgt := 33) dX0_evaluate_26 (by decide) (by omega) (fun h26 => by exact absurd h26 (by decide)) (fun h26 => ?_)
        refine ex_iconst (v := nI 1) dX0_evaluate_29 (by decide) ?_
        refine ex_goto (tgt := 34) dX0_evaluate_30 (by decide) ?_
        refine ex_cV (ν := m_Row_set) (a := 42) (ci := 6) (as := [.int (nI (s)), .int (nI (1))]) dX0_evaluate_34 ln_Evaluator_37 mf_Row_set rfl (l56 (by decide)) rfl rfl np_Row_set rfl rfl ⟨(Nat.le_of_ble_eq_true rfl), (Nat.le_of_ble_eq_true rfl), (Nat.le_of_ble_eq_true rfl), (Nat.le_of_ble_eq_true rfl)⟩ (by decide) ?_
        refine sp_Row_set (r := 42) (c := 43) rfl rfl rfl (l56 (by decide)) (l56 (by decide)) (by omega) ?_
        refine ⟨_, rfl, ?_⟩
        refine ex_iincN (L' := [some (.ref (41)), some (.ref (51)), some (.int (nI (md * 3))), some (.int (nI (s + 1)))]) dX0_evaluate_37 rfl rfl (by decide) rfl ?_
        refine ex_goto (tgt := 9) dX0_evaluate_40 (by decide) ?_
        refine ih (s + 1) _ (by omega) (hf.U (by decide)) (fun j hj => ?_)
        rw [xU_at]
        unfold upd
        by_cases ej : j = s
        · rw [if_pos ej, ej, if_pos c]
        · rw [if_neg ej]; exact hk j (by omega)
      · have c' : tb (s / 3) = false := by cases h : tb (s / 3) with
          | false => rfl
          | true => exact absurd h c
        have e := (hn2.2.1 c').1
        have e2 : rl (s / 3) < 2 ^ 31 := by have := (hn2.2.1 c').2.1; omega
        refine ex_iload_n (i := 3) dX0_evaluate_9 rfl rfl ?_
        refine ex_iload_n (i := 2) dX0_evaluate_10 rfl rfl ?_
        refine ex_icmp_geN (tgt := 43) dX0_evaluate_11 (by decide) (by omega) (by omega) (fun h11 => by omega) (fun h11 => ?_)
        refine ex_aload_n (i := 0) dX0_evaluate_14 rfl rfl ?_
        refine ex_getR (v := .ref (42)) dX0_evaluate_15 fl_Evaluator_20 rfl rfl (l56 (by decide)) rfl ?_
        refine ex_iload_n (i := 3) dX0_evaluate_18 rfl rfl ?_
        refine ex_aload_n (i := 1) dX0_evaluate_19 rfl rfl ?_
        refine ex_iload_n (i := 3) dX0_evaluate_20 rfl rfl ?_
        refine ex_iconst (v := nI 3) dX0_evaluate_21 (by decide) ?_
        refine ex_idivN dX0_evaluate_22 (by omega) (by decide) (by decide) ?_
        refine ex_cV (ν := m_Tree_isToken) (a := 51) (ci := 8) (as := [.int (nI (s / 3))]) dX0_evaluate_23 ln_Evaluator_33 mf_Tree_isToken rfl (l56 (by decide)) rfl rfl np_Tree_isToken rfl rfl ⟨(Nat.le_of_ble_eq_true rfl), (Nat.le_of_ble_eq_true rfl), (Nat.le_of_ble_eq_true rfl), (Nat.le_of_ble_eq_true rfl)⟩ (by decide) ?_
        refine sp_Tree_isToken_51 sc1 (by omega) ?_
        refine ⟨_, rfl, ?_⟩
        refine ex_asN (a := 0) (by rw [hF1, e, if_neg (nI_pos e2)]) ?_
        refine ex_if_eqN (tgt := 33) dX0_evaluate_26 (by decide) (by omega) (fun h26 => ?_) (fun h26 => by exact absurd h26 (by decide))
        refine ex_iconst (v := nI 0) dX0_evaluate_33 (by decide) ?_
        refine ex_cV (ν := m_Row_set) (a := 42) (ci := 6) (as := [.int (nI (s)), .int (nI (0))]) dX0_evaluate_34 ln_Evaluator_37 mf_Row_set rfl (l56 (by decide)) rfl rfl np_Row_set rfl rfl ⟨(Nat.le_of_ble_eq_true rfl), (Nat.le_of_ble_eq_true rfl), (Nat.le_of_ble_eq_true rfl), (Nat.le_of_ble_eq_true rfl)⟩ (by decide) ?_
        refine sp_Row_set (r := 42) (c := 43) rfl rfl rfl (l56 (by decide)) (l56 (by decide)) (by omega) ?_
        refine ⟨_, rfl, ?_⟩
        refine ex_iincN (L' := [some (.ref (41)), some (.ref (51)), some (.int (nI (md * 3))), some (.int (nI (s + 1)))]) dX0_evaluate_37 rfl rfl (by decide) rfl ?_
        refine ex_goto (tgt := 9) dX0_evaluate_40 (by decide) ?_
        refine ih (s + 1) _ (by omega) (hf.U (by decide)) (fun j hj => ?_)
        rw [xU_at]
        unfold upd
        by_cases ej : j = s
        · rw [if_pos ej, ej, if_neg c]
        · rw [if_neg ej]; exact hk j (by omega)
  refine ex_aload_n (i := 1) dX0_evaluate_0 rfl rfl ?_
  refine ex_cV (ν := m_Tree_size) (a := 51) (ci := 8) (as := []) dX0_evaluate_1 ln_Evaluator_27 mf_Tree_size rfl (l56 (by decide)) rfl rfl np_Tree_size rfl rfl ⟨(Nat.le_of_ble_eq_true rfl), (Nat.le_of_ble_eq_true rfl), (Nat.le_of_ble_eq_true rfl), (Nat.le_of_ble_eq_true rfl)⟩ (by decide) ?_
  refine sp_Tree_size_51 ?_
  refine ⟨_, rfl, ?_⟩
  refine ex_asN (a := md) h2 ?_
  refine ex_iconst (v := nI 3) dX0_evaluate_4 (by decide) ?_
  refine ex_imulN dX0_evaluate_5 ?_
  refine ex_istore_n (L' := [some (.ref (41)), some (.ref (51)), some (.int (nI (md * 3))), none]) dX0_evaluate_6 (i := 2) rfl (by decide) rfl ?_
  refine ex_iconst (v := nI 0) dX0_evaluate_7 (by decide) ?_
  refine ex_istore_n (L' := [some (.ref (41)), some (.ref (51)), some (.int (nI (md * 3))), some (.int (nI (0)))]) dX0_evaluate_8 (i := 3) rfl (by decide) rfl ?_
  exact loop (3 * md) 0 i (by omega) Fr.rf (fun j hj => by omega)
end S41
