/-! ===== the reference: attributes, parse ===== -/
section S79
variable {g : Nat} {i : Nat → Nat → Int32} {q : Nat → Nat → Int64} {t : Bool} {Q : xRes → xMem → Prop} {n md nt S : Nat} {sy : Nat → Nat → Nat} {nd tk : Nat → Int32} {tb : Nat → Bool} {rl rk : Nat → Nat} {pa : Nat → Option (Nat × Nat)} {ch : Nat → Nat → Nat} {op xp yp : Nat → Nat} {val : Nat → Int64} {D : Nat → Nat → Int32} {G : Nat → Nat → Nat} {TT : Nat → Nat}
theorem sp_Model_attributes {kn0 : Nat → Nat} (rg : RG i n sy) (re : RE i op xp yp) (ev : EV n sy op xp yp) (hw : mtW sy md tb rl pa ch n i) (sol : SOL md tb rl pa ch op xp yp val) (ac : AC md tb rl pa ch op xp yp rk) (h43 : i 56 43 = nI md) (hI0 : atI md tb val i i q q kn0)
    (hlt : ∀ s, s < 3 * md → tb (s / 3) = false → (2 ≤ opS op rl (sCx pa s) → arS xp rl ch (sCx pa s) < 3 * md) ∧ (3 ≤ opS op rl (sCx pa s) → arS yp rl ch (sCx pa s) < 3 * md))
    (hQ : ∀ i1 q1, Fm [92] [] i i1 → (∀ c, c ≠ 91 → q1 c = q c) → (∀ s, s < 3 * md → q1 91 s = val s) → Q (.ok none) (94, g, i1, q1, RT t)) :
    Wx m_Model_attributes 0 [some (.ref 56), none, none] [] (94, g, i, q, RT t) (0, 0) Q := by
  have h150 := hw.1
  have EXIT : ∀ i1 q1 kn, atI md tb val i i1 q q1 kn → (∀ s, s < 3 * md → kn s = 0 → ¬ rdy op xp yp rl pa ch kn s) → Wx m_Model_attributes 2 [some (.ref 56), some (.int (nI 0)), none] [] (94, g, i1, q1, RT t) (0, 0) Q := by
    intro i1 q1 kn hI hn
    have hall : ∀ s, s < 3 * md → kn s = 1 := fun s hs => all_kn (kn := kn) hw ev ac (fun s hs => ⟨(hI.2.2 s hs).2.1, (hI.2.2 s hs).2.2.2.2⟩) hn hlt 451 s (by have := ac.1 s hs; omega) hs
    refine ex_iload_n (i := 1) dX10_attributes_2 rfl rfl ?_
    refine ex_if_eqN (tgt := 53) dX10_attributes_3 (by decide) (by omega) (fun h3 => ?_) (fun h3 => by exact absurd h3 (by decide))
    refine ex_ret dX10_attributes_53 rfl ?_
    exact hQ i1 q1 hI.1 hI.2.1 (fun s hs => (hI.2.2 s hs).2.2.1 (hall s hs))
  have LP : ∀ kn1, (∀ i1 q1 kn, sumN kn1 (3 * md) < sumN kn (3 * md) → atI md tb val i i1 q q1 kn → Wx m_Model_attributes 2 [some (.ref 56), some (.int (nI 1)), none] [] (94, g, i1, q1, RT t) (0, 0) Q) → ∀ d s b i1 q1 kn, s + d = 3 * md → atI md tb val i i1 q q1 kn → (b = 0 ∧ kn = kn1 ∧ (∀ s', s' < s → kn s' = 0 → ¬ rdy op xp yp rl pa ch kn s') ∨ b = 1 ∧ sumN kn1 (3 * md) < sumN kn (3 * md)) →
      Wx m_Model_attributes 10 [some (.ref 56), some (.int (nI b)), some (.int (nI s))] [] (94, g, i1, q1, RT t) (0, 0) Q := by
    intro kn1 hmore d
    induction d with
    | zero =>
      intro s b i1 q1 kn hsd hI hh
      have e : s = 3 * md := hsd
      subst e
      have e43 : i1 56 43 = nI md := by rw [hI.1.2 43 (by decide)]; exact h43
      rcases hh with ⟨rfl, rfl, h⟩ | ⟨rfl, h⟩
      · have X := EXIT i1 q1 kn hI (fun s hs => h s hs)
        refine ex_iload_n (i := 2) dX10_attributes_10 rfl rfl ?_
        refine ex_iconst (v := nI 3) dX10_attributes_11 (by decide) ?_
        refine ex_aload_n (i := 0) dX10_attributes_12 rfl rfl ?_
        refine ex_getI dX10_attributes_13 fl_Model_234 rfl rfl (by decide) ?_
        refine ex_asN (a := md) e43 ?_
        refine ex_imulN dX10_attributes_16 ?_
        refine ex_icmp_geN (tgt := 50) dX10_attributes_17 (by decide) (by omega) (by omega) (fun h17 => ?_) (fun h17 => by omega)
        refine ex_goto (tgt := 2) dX10_attributes_50 (by decide) ?_
        exact ex_less (L' := [some (.ref 56), some (.int (nI 0)), none]) (by simp [xSub]) X
      · have X := hmore i1 q1 kn h hI
        refine ex_iload_n (i := 2) dX10_attributes_10 rfl rfl ?_
        refine ex_iconst (v := nI 3) dX10_attributes_11 (by decide) ?_
        refine ex_aload_n (i := 0) dX10_attributes_12 rfl rfl ?_
        refine ex_getI dX10_attributes_13 fl_Model_234 rfl rfl (by decide) ?_
        refine ex_asN (a := md) e43 ?_
        refine ex_imulN dX10_attributes_16 ?_
        refine ex_icmp_geN (tgt := 50) dX10_attributes_17 (by decide) (by omega) (by omega) (fun h17 => ?_) (fun h17 => by omega)
        refine ex_goto (tgt := 2) dX10_attributes_50 (by decide) ?_
        exact ex_less (L' := [some (.ref 56), some (.int (nI 1)), none]) (by simp [xSub]) X
    | succ d ih =>
      intro s b i1 q1 kn hsd hI hh
      have hs : s < 3 * md := by omega
      have e43 : i1 56 43 = nI md := by rw [hI.1.2 43 (by decide)]; exact h43
      obtain ⟨k1, k2, k3, k4, k5⟩ := hI.2.2 s hs
      by_cases kz : kn s = 0
      · have hb : tb (s / 3) = false := by
          cases hb : tb (s / 3) with
          | true => have := k5 hb; omega
          | false => rfl
        have H39 : ∀ a i2 q2, ((a = 1 ∧ rdy op xp yp rl pa ch kn s ∧ atI md tb val i i2 q q2 (upN kn s 1)) ∨ (a = 0 ∧ ¬ rdy op xp yp rl pa ch kn s ∧ i2 = i1 ∧ q2 = q1)) → Wx m_Model_attributes 39 [some (.ref 56), some (.int (nI b)), some (.int (nI s))] [.int (nI a)] (94, g, i2, q2, RT t) (0, 0) Q := by
          intro a i2 q2 ha
          rcases ha with ⟨rfl, hr, hI2⟩ | ⟨rfl, hr, rfl, rfl⟩
          · have hgr := upN_grow (F := kn) (N := 3 * md) (v := 1) hs (by omega) (by omega)
            have X := ih (s + 1) 1 i2 q2 (upN kn s 1) (by omega) hI2 (Or.inr ⟨rfl, by
              rcases hh with h | h
              · rw [← h.2.1]; exact hgr
              · omega⟩)
            refine ex_if_eqN (tgt := 44) dX10_attributes_39 (by decide) (by omega) (fun h39 => by exact absurd h39 (by decide)) (fun h39 => ?_)
            refine ex_iconst (v := nI 1) dX10_attributes_42 (by decide) ?_
            refine ex_istore_n (L' := [some (.ref (56)), some (.int (nI (1))), some (.int (nI (s)))]) dX10_attributes_43 (i := 1) rfl (by decide) rfl ?_
            refine ex_iincN (L' := [some (.ref (56)), some (.int (nI (1))), some (.int (nI (s + 1)))]) dX10_attributes_44 rfl rfl (by decide) rfl ?_
            refine ex_goto (tgt := 10) dX10_attributes_47 (by decide) ?_
            exact X
          · have X := ih (s + 1) b i2 q2 kn (by omega) hI (hh.imp (fun h => ⟨h.1, h.2.1, fun s' hs' => by
              by_cases e : s' = s
              · rw [e]; exact fun _ => hr
              · exact h.2.2 s' (by omega)⟩) id)
            refine ex_if_eqN (tgt := 44) dX10_attributes_39 (by decide) (by omega) (fun h39 => ?_) (fun h39 => by exact absurd h39 (by decide))
            refine ex_iincN (L' := [some (.ref (56)), some (.int (nI (b))), some (.int (nI (s + 1)))]) dX10_attributes_44 rfl rfl (by decide) rfl ?_
            refine ex_goto (tgt := 10) dX10_attributes_47 (by decide) ?_
            exact X
        refine ex_iload_n (i := 2) dX10_attributes_10 rfl rfl ?_
        refine ex_iconst (v := nI 3) dX10_attributes_11 (by decide) ?_
        refine ex_aload_n (i := 0) dX10_attributes_12 rfl rfl ?_
        refine ex_getI dX10_attributes_13 fl_Model_234 rfl rfl (by decide) ?_
        refine ex_asN (a := md) e43 ?_
        refine ex_imulN dX10_attributes_16 ?_
        refine ex_icmp_geN (tgt := 50) dX10_attributes_17 (by decide) (by omega) (by omega) (fun h17 => by omega) (fun h17 => ?_)
        refine ex_aload_n (i := 0) dX10_attributes_20 rfl rfl ?_
        refine ex_getR (v := .ref (92)) dX10_attributes_21 fl_Model_117 rfl rfl (by decide) rfl ?_
        refine ex_iload_n (i := 2) dX10_attributes_24 rfl rfl ?_
        refine ex_baldN dX10_attributes_25 rfl (by decide) (by omega) rfl ?_
        refine ex_asN (a := kn s) k1 ?_
        refine ex_if_neN (tgt := 44) dX10_attributes_26 (by decide) (by omega) (fun h26 => by exact absurd kz h26) (fun h26 => ?_)
        refine ex_aload_n (i := 0) dX10_attributes_29 rfl rfl ?_
        refine ex_iload_n (i := 2) dX10_attributes_30 rfl rfl ?_
        refine ex_iconst (v := nI 3) dX10_attributes_31 (by decide) ?_
        refine ex_idivN dX10_attributes_32 (by omega) (by decide) (by decide) ?_
        refine ex_iload_n (i := 2) dX10_attributes_33 rfl rfl ?_
        refine ex_iconst (v := nI 3) dX10_attributes_34 (by decide) ?_
        refine ex_iremN dX10_attributes_35 (by omega) (by decide) (by decide) ?_
        refine ex_cV (ν := m_Model_work) (a := 56) (ci := 10) (as := [.int (nI (s / 3)), .int (nI (s % 3))]) dX10_attributes_36 ln_Model_244 mf_Model_work rfl (Nat.le_of_ble_eq_true rfl) rfl rfl np_Model_work rfl rfl ⟨(Nat.le_of_ble_eq_true rfl), (Nat.le_of_ble_eq_true rfl), (Nat.le_of_ble_eq_true rfl), (Nat.le_of_ble_eq_true rfl)⟩ (by decide) ?_
        refine sp_Model_work rg re ev hw sol hI hs hb kz (fun hr i2 q2 hI2 => ⟨_, rfl, H39 1 i2 q2 (Or.inl ⟨rfl, hr, hI2⟩)⟩) (fun hr => ⟨_, rfl, H39 0 i1 q1 (Or.inr ⟨rfl, hr, rfl, rfl⟩)⟩)
        skip
      · have X := ih (s + 1) b i1 q1 kn (by omega) hI (hh.imp (fun h => ⟨h.1, h.2.1, fun s' hs' => by
          by_cases e : s' = s
          · rw [e]; exact fun z => absurd z kz
          · exact h.2.2 s' (by omega)⟩) id)
        refine ex_iload_n (i := 2) dX10_attributes_10 rfl rfl ?_
        refine ex_iconst (v := nI 3) dX10_attributes_11 (by decide) ?_
        refine ex_aload_n (i := 0) dX10_attributes_12 rfl rfl ?_
        refine ex_getI dX10_attributes_13 fl_Model_234 rfl rfl (by decide) ?_
        refine ex_asN (a := md) e43 ?_
        refine ex_imulN dX10_attributes_16 ?_
        refine ex_icmp_geN (tgt := 50) dX10_attributes_17 (by decide) (by omega) (by omega) (fun h17 => by omega) (fun h17 => ?_)
        refine ex_aload_n (i := 0) dX10_attributes_20 rfl rfl ?_
        refine ex_getR (v := .ref (92)) dX10_attributes_21 fl_Model_117 rfl rfl (by decide) rfl ?_
        refine ex_iload_n (i := 2) dX10_attributes_24 rfl rfl ?_
        refine ex_baldN dX10_attributes_25 rfl (by decide) (by omega) rfl ?_
        refine ex_asN (a := kn s) k1 ?_
        refine ex_if_neN (tgt := 44) dX10_attributes_26 (by decide) (by omega) (fun h26 => ?_) (fun h26 => by exact absurd h26 kz)
        refine ex_iincN (L' := [some (.ref (56)), some (.int (nI (b))), some (.int (nI (s + 1)))]) dX10_attributes_44 rfl rfl (by decide) rfl ?_
        refine ex_goto (tgt := 10) dX10_attributes_47 (by decide) ?_
        exact X
  have OUT : ∀ m i1 q1 kn, 3 * md * 1 < sumN kn (3 * md) + m → atI md tb val i i1 q q1 kn → Wx m_Model_attributes 2 [some (.ref 56), some (.int (nI 1)), none] [] (94, g, i1, q1, RT t) (0, 0) Q := by
    intro m
    induction m with
    | zero =>
      intro i1 q1 kn hm hI
      have := sumN_le (F := kn) (B := 1) (N := 3 * md) (fun j hj => by have := (hI.2.2 j hj).2.1; omega)
      omega
    | succ m ih =>
      intro i1 q1 kn hm hI
      have X := LP kn (fun i2 q2 kn2 h hI2 => ih i2 q2 kn2 (by omega) hI2) (3 * md) 0 0 i1 q1 kn (by omega) hI (Or.inl ⟨rfl, rfl, fun s' h => by omega⟩)
      refine ex_iload_n (i := 1) dX10_attributes_2 rfl rfl ?_
      refine ex_if_eqN (tgt := 53) dX10_attributes_3 (by decide) (by omega) (fun h3 => by exact absurd h3 (by decide)) (fun h3 => ?_)
      refine ex_iconst (v := nI 0) dX10_attributes_6 (by decide) ?_
      refine ex_istore_n (L' := [some (.ref (56)), some (.int (nI (0))), none]) dX10_attributes_7 (i := 1) rfl (by decide) rfl ?_
      refine ex_iconst (v := nI 0) dX10_attributes_8 (by decide) ?_
      refine ex_istore_n (L' := [some (.ref (56)), some (.int (nI (0))), some (.int (nI (0)))]) dX10_attributes_9 (i := 2) rfl (by decide) rfl ?_
      exact X
  refine ex_iconst (v := nI 1) dX10_attributes_0 (by decide) ?_
  refine ex_istore_n (L' := [some (.ref (56)), some (.int (nI (1))), none]) dX10_attributes_1 (i := 1) rfl (by decide) rfl ?_
  exact OUT (3 * md * 1 + 1) i q kn0 (by omega) hI0
/-- links between parents and children -/
def TLK (sy : Nat → Nat → Nat) (md : Nat) (tb : Nat → Bool) (rl : Nat → Nat) (pa : Nat → Option (Nat × Nat)) (ch : Nat → Nat → Nat) : Prop :=
  (∀ j p k, j < md → pa j = some (p, k) → ch p k = j) ∧ ∀ p k, p < md → tb p = false → 1 ≤ k → k ≤ lnR sy (rl p) → pa (ch p k) = some (p, k)
theorem arM_lt {s : Nat} (hw : TW n sy md nd tb rl pa ch) (ev : EV n sy op xp yp) (hs : s < 3 * md) (hb : tb (s / 3) = false) : (2 ≤ opS op rl (sCx pa s) → arS xp rl ch (sCx pa s) < 3 * md) ∧ (3 ≤ opS op rl (sCx pa s) → arS yp rl ch (sCx pa s) < 3 * md) := by
  cases hc : sCx pa s with
  | none => exact ⟨fun z => absurd z (by show ¬ 2 ≤ 0; decide), fun z => absurd z (by show ¬ 3 ≤ 0; decide)⟩
  | some v =>
    obtain ⟨c, p⟩ := v
    obtain ⟨h1, h2, h3⟩ := sCx_ok hw hs hb hc
    have hr := ((hw.2 c h1).2.1 h2).2.1
    obtain ⟨e1, e2, -⟩ := ev (rl c) p hr h3
    exact ⟨fun z => sSl_lt hw h1 h2 (e1 z), fun z => sSl_lt hw h1 h2 (e2 z)⟩
/-- what parse of the reference leaves of a tree -/
def mTr (md : Nat) (nd : Nat → Int32) (val : Nat → Int64) (i : Nat → Nat → Int32) (q : Nat → Nat → Int64) : Prop := i 56 43 = nI md ∧ (∀ j, j < md → i 86 j = nd (j * 8 + 0) ∧ i 87 j = nd (j * 8 + 1) ∧ i 88 j = nd (j * 8 + 2) ∧ i 89 j = nd (j * 8 + 3)) ∧ ∀ s, s < 3 * md → q 91 s = val s
/-- a tree that came out, for the reference -/
def PT2 (n : Nat) (sy : Nat → Nat → Nat) (op xp yp : Nat → Nat) (nt : Nat) (vl : Nat → Int32) (md : Nat) (nd tk : Nat → Int32) (val : Nat → Int64) : Prop := ∃ tb rl pa ch rk, TW n sy md nd tb rl pa ch ∧ TLK sy md tb rl pa ch ∧ AC md tb rl pa ch op xp yp rk ∧ SOL md tb rl pa ch op xp yp val ∧
  (∀ j, j < md → tb j = true → ∃ b, b < nt ∧ tk j = nI b ∧ val (j * 3) = (vl b).toInt64 ∧ val (j * 3 + 1) = (nI b).toInt64 ∧ val (j * 3 + 2) = 0)
theorem sp_Model_parse {b cj f : Nat} {R : Int32 → Nat → (Nat → Int32) → (Nat → Int32) → Prop} {ss sn : Nat → Nat} {nd0 tk0 : Nat → Int32} (rg : RG i n sy) (re : RE i op xp yp) (ev : EV n sy op xp yp) (h9 : i 56 9 = nI b) (hb : b ≤ 1) (hcj : b = 1 → i 56 12 = nI cj ∧ cj < 4096) (hf : b = 1 → i 56 10 = nI f ∧ f < 2)
    (h27 : i 56 27 = nI nt) (hnt : nt ≤ 40) (hTT : ∀ j, j < nt → i 77 j = nI (TT j) ∧ 1 ≤ TT j ∧ TT j ≤ 6) (hS : b = 1 → S ≤ 50 ∧ 0 < S) (hD : b = 1 → ∀ s x, s < S → x < 7 → i 73 (7 * s + x) = D s x) (hG : b = 1 → ∀ s x, s < S → 8 ≤ x → x < 14 → i 67 (14 * s + x) = nI (G s x) ∧ G s x < S) (hDS : b = 1 → ∀ s x k, s < S → x < 7 → D s x = nI k → 0 < k → k < 50 → k < S)
    (hL : b = 1 → cj = 0 → f = 0 → LrP D G n sy nt TT R 150 0 1 0 (upN ss 0 0) sn nd0 tk0)
    (hRt : ∀ md nd tk, R (-1) md nd tk → ∃ val, PT2 n sy op xp yp nt (i 78) md nd tk val)
    (hX0 : b = 0 ∨ (b = 1 ∧ (0 < cj ∨ f = 1)) → ∀ i1, Fm [] [45] i i1 → i1 56 45 = nI 1 → Q (.ok (some (.int (nI 0)))) (94, g, i1, q, RT t))
    (hX2 : b = 1 → cj = 0 → f = 0 → ∀ md nd tk i1, R (-2) md nd tk → Fm [79, 80, 81, 82, 83, 84, 85] [27, 35, 44, 45] i i1 → i1 56 45 = nI 2 → i1 56 44 = -1 → i1 56 27 = nI 0 → Q (.ok (some (.int (nI 0)))) (94, g, i1, q, RT t))
    (hX3 : b = 1 → cj = 0 → f = 0 → ∀ k md nd tk i1, R (nI k) md nd tk → k ≤ nt → Fm [79, 80, 81, 82, 83, 84, 85] [27, 35, 44, 45] i i1 → i1 56 45 = nI 3 → i1 56 44 = nI k → i1 56 27 = nI 0 → Q (.ok (some (.int (nI 0)))) (94, g, i1, q, RT t))
    (hQ : b = 1 → cj = 0 → f = 0 → ∀ md nd tk val i1 q1, R (-1) md nd tk → md ≤ 150 → PT2 n sy op xp yp nt (i 78) md nd tk val → Fm [79, 80, 81, 82, 83, 84, 85, 86, 87, 88, 89, 90, 92] [27, 35, 43, 44, 45] i i1 → i1 56 45 = nI 0 → i1 56 44 = -1 → i1 56 27 = nI 0 → (∀ c, c ≠ 91 → q1 c = q c) → mTr md nd val i1 q1 → Q (.ok (some (.int (nI md)))) (94, g, i1, q1, RT t)) :
    Wx m_Model_parse 0 [some (.ref 56)] [] (94, g, i, q, RT t) (0, 0) Q := by
  by_cases b0 : b = 0
  · subst b0
    refine ex_aload_n (i := 0) dX10_parse_0 rfl rfl ?_
    refine ex_aload_n (i := 0) dX10_parse_1 rfl rfl ?_
    refine ex_getI dX10_parse_2 fl_Model_148 rfl rfl (by decide) ?_
    refine ex_asN (a := 0) h9 ?_
    refine ex_if_eqN (tgt := 26) dX10_parse_5 (by decide) (by omega) (fun h5 => ?_) (fun h5 => by exact absurd h5 (by decide))
    refine ex_iconst (v := nI 0) dX10_parse_26 (by decide) ?_
    refine ex_iconst (v := nI 1) dX10_parse_27 (by decide) ?_
    refine ex_cV (ν := m_Model_good) (a := 56) (ci := 10) (as := [.int (nI (0)), .int (nI (1))]) dX10_parse_28 ln_Model_141 mf_Model_good rfl (Nat.le_of_ble_eq_true rfl) rfl rfl np_Model_good rfl rfl ⟨(Nat.le_of_ble_eq_true rfl), (Nat.le_of_ble_eq_true rfl), (Nat.le_of_ble_eq_true rfl), (Nat.le_of_ble_eq_true rfl)⟩ (by decide) ?_
    refine sp_Model_good (b := 0) (by decide) ?_
    refine ⟨_, rfl, ?_⟩
    refine ex_if_neN (tgt := 36) dX10_parse_31 (by decide) (by omega) (fun h31 => by exact absurd h31 (by decide)) (fun h31 => ?_)
    refine ex_iconst (v := nI 0) dX10_parse_34 (by decide) ?_
    refine ex_iret dX10_parse_35 rfl rfl ?_
    exact hX0 (Or.inl rfl) _ (Fm.rf.F (by decide)) (cd_at _ _)
  · have b1 : b = 1 := by omega
    subst b1
    obtain ⟨c1, c2⟩ := hcj rfl
    obtain ⟨f1, f2⟩ := hf rfl
    by_cases c0 : 0 < cj
    ·
      refine ex_aload_n (i := 0) dX10_parse_0 rfl rfl ?_
      refine ex_aload_n (i := 0) dX10_parse_1 rfl rfl ?_
      refine ex_getI dX10_parse_2 fl_Model_148 rfl rfl (by decide) ?_
      refine ex_asN (a := 1) h9 ?_
      refine ex_if_eqN (tgt := 26) dX10_parse_5 (by decide) (by omega) (fun h5 => by exact absurd h5 (by decide)) (fun h5 => ?_)
      refine ex_aload_n (i := 0) dX10_parse_8 rfl rfl ?_
      refine ex_getI dX10_parse_9 fl_Model_215 rfl rfl (by decide) ?_
      refine ex_asN (a := cj) c1 ?_
      refine ex_if_neN (tgt := 26) dX10_parse_12 (by decide) (by omega) (fun h12 => ?_) (fun h12 => by omega)
      refine ex_iconst (v := nI 0) dX10_parse_26 (by decide) ?_
      refine ex_iconst (v := nI 1) dX10_parse_27 (by decide) ?_
      refine ex_cV (ν := m_Model_good) (a := 56) (ci := 10) (as := [.int (nI (0)), .int (nI (1))]) dX10_parse_28 ln_Model_141 mf_Model_good rfl (Nat.le_of_ble_eq_true rfl) rfl rfl np_Model_good rfl rfl ⟨(Nat.le_of_ble_eq_true rfl), (Nat.le_of_ble_eq_true rfl), (Nat.le_of_ble_eq_true rfl), (Nat.le_of_ble_eq_true rfl)⟩ (by decide) ?_
      refine sp_Model_good (b := 0) (by decide) ?_
      refine ⟨_, rfl, ?_⟩
      refine ex_if_neN (tgt := 36) dX10_parse_31 (by decide) (by omega) (fun h31 => by exact absurd h31 (by decide)) (fun h31 => ?_)
      refine ex_iconst (v := nI 0) dX10_parse_34 (by decide) ?_
      refine ex_iret dX10_parse_35 rfl rfl ?_
      exact hX0 (Or.inr ⟨rfl, Or.inl c0⟩) _ (Fm.rf.F (by decide)) (cd_at _ _)
    · have cj0 : cj = 0 := by omega
      by_cases f0 : f = 1
      ·
        refine ex_aload_n (i := 0) dX10_parse_0 rfl rfl ?_
        refine ex_aload_n (i := 0) dX10_parse_1 rfl rfl ?_
        refine ex_getI dX10_parse_2 fl_Model_148 rfl rfl (by decide) ?_
        refine ex_asN (a := 1) h9 ?_
        refine ex_if_eqN (tgt := 26) dX10_parse_5 (by decide) (by omega) (fun h5 => by exact absurd h5 (by decide)) (fun h5 => ?_)
        refine ex_aload_n (i := 0) dX10_parse_8 rfl rfl ?_
        refine ex_getI dX10_parse_9 fl_Model_215 rfl rfl (by decide) ?_
        refine ex_asN (a := cj) c1 ?_
        refine ex_if_neN (tgt := 26) dX10_parse_12 (by decide) (by omega) (fun h12 => by omega) (fun h12 => ?_)
        refine ex_aload_n (i := 0) dX10_parse_15 rfl rfl ?_
        refine ex_getI dX10_parse_16 fl_Model_193 rfl rfl (by decide) ?_
        refine ex_asN (a := f) f1 ?_
        refine ex_if_neN (tgt := 26) dX10_parse_19 (by decide) (by omega) (fun h19 => ?_) (fun h19 => by omega)
        refine ex_iconst (v := nI 0) dX10_parse_26 (by decide) ?_
        refine ex_iconst (v := nI 1) dX10_parse_27 (by decide) ?_
        refine ex_cV (ν := m_Model_good) (a := 56) (ci := 10) (as := [.int (nI (0)), .int (nI (1))]) dX10_parse_28 ln_Model_141 mf_Model_good rfl (Nat.le_of_ble_eq_true rfl) rfl rfl np_Model_good rfl rfl ⟨(Nat.le_of_ble_eq_true rfl), (Nat.le_of_ble_eq_true rfl), (Nat.le_of_ble_eq_true rfl), (Nat.le_of_ble_eq_true rfl)⟩ (by decide) ?_
        refine sp_Model_good (b := 0) (by decide) ?_
        refine ⟨_, rfl, ?_⟩
        refine ex_if_neN (tgt := 36) dX10_parse_31 (by decide) (by omega) (fun h31 => by exact absurd h31 (by decide)) (fun h31 => ?_)
        refine ex_iconst (v := nI 0) dX10_parse_34 (by decide) ?_
        refine ex_iret dX10_parse_35 rfl rfl ?_
        exact hX0 (Or.inr ⟨rfl, Or.inr f0⟩) _ (Fm.rf.F (by decide)) (cd_at _ _)
      · have fz : f = 0 := by omega
        have hL := hL rfl cj0 fz
        obtain ⟨hS1, hS2⟩ := hS rfl
        have hD := hD rfl
        have hG := hG rfl
        have hDS := hDS rfl
        obtain ⟨ia, hia⟩ : ∃ ia, ia = xU (xU i 56 45 (nI 0)) 56 44 (-1) := ⟨_, rfl⟩
        have hfa : Fm [] [44, 45] i ia := by rw [hia]; exact (Fm.rf.F (by decide)).F (by decide)
        have ea44 : ia 56 44 = -1 := by rw [hia]; simp [xU, upd]
        have rga := rg.fm hfa (by decide) (by decide) (by decide) (by decide)
        have rea := re.fm hfa (by decide) (by decide) (by decide)
        -- behind the shifts
        have H0 : ∀ md nd tk i1, R (-1) md nd tk → Fm [79, 80, 81, 82, 83, 84, 85] [35, 44] ia i1 → i1 56 35 = nI md → md ≤ 150 → WK md nd tk i1 → i1 56 44 = ia 56 44 → Wx m_Model_parse 46 [some (.ref 56)] [.int (nI 0), .ref 56] (94, g, i1, q, RT t) (0, 0) Q := by
          intro md nd tk i1 hR hf1 h35 hmd hwk h44
          obtain ⟨val, hPT⟩ := hRt md nd tk hR
          obtain ⟨tb, rl, pa, ch, rk, hTW, hTL, hAC, hSOL, htok⟩ := id hPT
          have hn14 := rg.2.2.2.2.1
          obtain ⟨ib, hib⟩ : ∃ ib, ib = xU i1 56 45 (nI 0) := ⟨_, rfl⟩
          have hfb : Fm [] [45] i1 ib := by rw [hib]; exact Fm.rf.F (by decide)
          have hfab : Fm [79, 80, 81, 82, 83, 84, 85] [35, 44, 45] ia ib := (hf1.mono (by decide) (by decide)).tr (hfb.mono (by decide) (by decide))
          have hCW : CW md nt nd tk tb rl pa ch := ⟨hmd, fun j hj => by
            obtain ⟨a1, a2, a3, a4⟩ := hTW.2 j hj
            refine ⟨fun z => ⟨a1 z, ?_⟩, fun z => ⟨(a2 z).1, by have := (a2 z).2.1; omega⟩, fun z => (a3 z).1, fun p k z => ?_⟩
            · obtain ⟨b, b1, b2, _⟩ := htok j hj z
              exact ⟨b, b1, b2⟩
            · obtain ⟨p1, p2, p3, p4, p5, p6⟩ := a4 p k z
              have := lnR_le sy (rl p)
              exact ⟨p1, p2, p3, p5, by omega, hTL.1 j p k hj z⟩⟩
          have e35 : ib 56 35 = nI md := by rw [hfb.2 35 (by decide)]; exact h35
          have hwkb : WK md nd tk ib := fun j hj => by
            rw [hfb.1 81 (by decide) (by decide), hfb.1 82 (by decide) (by decide), hfb.1 83 (by decide) (by decide), hfb.1 84 (by decide) (by decide), hfb.1 85 (by decide) (by decide)]; exact hwk j hj
          have e78 : ib 78 = i 78 := by rw [hfab.1 78 (by decide) (by decide), hfa.1 78 (by decide) (by decide)]
          have rgb := rga.fm hfab (by decide) (by decide) (by decide) (by decide)
          have reb := rea.fm hfab (by decide) (by decide) (by decide)
          have H57 : Wx m_Model_parse 56 [some (.ref 56)] [] (94, g, ib, q, RT t) (0, 0) Q := by
            refine ex_aload_n (i := 0) dX10_parse_56 rfl rfl ?_
            refine ex_cV (ν := m_Model_copy) (a := 56) (ci := 10) (as := []) dX10_parse_57 ln_Model_250 mf_Model_copy rfl (Nat.le_of_ble_eq_true rfl) rfl rfl np_Model_copy rfl rfl ⟨(Nat.le_of_ble_eq_true rfl), (Nat.le_of_ble_eq_true rfl), (Nat.le_of_ble_eq_true rfl), (Nat.le_of_ble_eq_true rfl)⟩ (by decide) ?_
            refine sp_Model_copy hCW hnt e35 hwkb (fun i2 q2 p1 p2 p3 => ?_)
            have hf2 : Fm [79, 80, 81, 82, 83, 84, 85, 86, 87, 88, 89, 90, 92] [35, 43, 44, 45] ia i2 := (hfab.mono (by decide) (by decide)).tr (p1.mono (by decide) (by decide))
            have rg2 := rgb.fm p1 (by decide) (by decide) (by decide) (by decide)
            have re2 := reb.fm p1 (by decide) (by decide) (by decide)
            have hmt : mtW sy md tb rl pa ch n i2 := ⟨hmd, fun j hj => by
              obtain ⟨a1, a2, a3, a4⟩ := hTW.2 j hj
              obtain ⟨c1, c2, c3, c4, c5⟩ := p3.2 j hj
              refine ⟨fun z => ⟨c1.2.1.trans (a2 z).1, (a2 z).2.1, fun k k1 k2 => ?_⟩, fun z => c1.2.2.1.trans (a3 z).1, fun p k z => ?_⟩
              · have hcl := ((a2 z).2.2 k k1 k2).2
                exact ⟨(p3.2 _ hcl).2.1 j k (hTL.2 j k hj z k1 k2), hcl⟩
              · obtain ⟨x1, x2, x3, x4, x5, x6⟩ := a4 p k z
                exact ⟨c1.2.2.1.trans x1, c1.2.2.2.trans x2, x3, x4, x5, x6⟩⟩
            have hI0 : atI md tb val i2 i2 q2 q2 (fun s => if tb (s / 3) = true then 1 else 0) := ⟨Fm.rf, fun _ _ => rfl, fun s hs => by
              have hj : s / 3 < md := by omega
              obtain ⟨c1, c2, c3, c4, c5⟩ := p3.2 (s / 3) hj
              have c3s := c3 (s % 3) (by omega)
              have es : 3 * (s / 3) + s % 3 = s := by omega
              rw [es] at c3s
              dsimp only
              cases hb : tb (s / 3) with
              | true =>
                rw [hb] at c3s
                refine ⟨c3s, by decide, fun _ => ?_, fun z => absurd z (by decide), fun _ => rfl⟩
                obtain ⟨b, b1, b2, b3, b4, b5⟩ := htok (s / 3) hj hb
                obtain ⟨d1, d2, d3⟩ := c5 hb b b1 b2
                rw [e78] at d1
                rcases (show s = 3 * (s / 3) ∨ s = 3 * (s / 3) + 1 ∨ s = 3 * (s / 3) + 2 by omega) with z | z | z
                · have z2 : s = s / 3 * 3 := by omega
                  have h1 : q2 91 s = (i 78 b).toInt64 := by rw [← d1, ← z]
                  have h2 : val s = (i 78 b).toInt64 := by rw [← b3, ← z2]
                  rw [h1, h2]
                · have z2 : s = s / 3 * 3 + 1 := by omega
                  have h1 : q2 91 s = (nI b).toInt64 := by rw [← d2, ← z]
                  have h2 : val s = (nI b).toInt64 := by rw [← b4, ← z2]
                  rw [h1, h2]
                · have z2 : s = s / 3 * 3 + 2 := by omega
                  have h1 : q2 91 s = 0 := by rw [← d3, ← z]
                  have h2 : val s = 0 := by rw [← b5, ← z2]
                  rw [h1, h2]
              | false =>
                rw [hb] at c3s
                refine ⟨c3s, by decide, fun z => absurd z (by decide), fun _ => ?_, fun z => absurd z (by decide)⟩
                obtain ⟨d1, d2, d3⟩ := c4 hb
                rcases (show s = 3 * (s / 3) ∨ s = 3 * (s / 3) + 1 ∨ s = 3 * (s / 3) + 2 by omega) with z | z | z
                · rw [← z] at d1; exact d1
                · rw [← z] at d2; exact d2
                · rw [← z] at d3; exact d3⟩
            refine ⟨_, rfl, ?_⟩
            refine ex_aload_n (i := 0) dX10_parse_60 rfl rfl ?_
            refine ex_cV (ν := m_Model_attributes) (a := 56) (ci := 10) (as := []) dX10_parse_61 ln_Model_253 mf_Model_attributes rfl (Nat.le_of_ble_eq_true rfl) rfl rfl np_Model_attributes rfl rfl ⟨(Nat.le_of_ble_eq_true rfl), (Nat.le_of_ble_eq_true rfl), (Nat.le_of_ble_eq_true rfl), (Nat.le_of_ble_eq_true rfl)⟩ (by decide) ?_
            refine sp_Model_attributes rg2 re2 ev hmt hSOL hAC p2 hI0 (fun s hs hb => arM_lt hTW ev hs hb) (fun i3 q3 r1 r2 r3 => ?_)
            have hf3 : Fm [79, 80, 81, 82, 83, 84, 85, 86, 87, 88, 89, 90, 92] [35, 43, 44, 45] ia i3 := hf2.tr (r1.mono (by decide) (by decide))
            have e45 : xU i3 56 27 (nI 0) 56 45 = nI 0 := by rw [xU_at]; simp only [upd]; rw [if_neg (by decide), r1.2 45 (by decide), p1.2 45 (by decide), hib]; exact cd_at _ _
            have e43 : xU i3 56 27 (nI 0) 56 43 = nI md := by rw [xU_at]; simp only [upd]; rw [if_neg (by decide), r1.2 43 (by decide)]; exact p2
            refine ⟨_, rfl, ?_⟩
            refine ex_aload_n (i := 0) dX10_parse_64 rfl rfl ?_
            refine ex_iconst (v := nI 0) dX10_parse_65 (by decide) ?_
            refine ex_putI dX10_parse_66 fl_Model_224 cf_10 rfl (Or.inl rfl) rfl rfl rfl (by decide) ?_
            refine ex_aload_n (i := 0) dX10_parse_69 rfl rfl ?_
            refine ex_getI dX10_parse_70 fl_Model_124 rfl rfl (by decide) ?_
            refine ex_asI (y := i3 (56) (45)) (by first | rfl | simp [xU, upd]) ?_
            refine ex_asN (a := 0) e45 ?_
            refine ex_if_neN (tgt := 83) dX10_parse_73 (by decide) (by omega) (fun h73 => by exact absurd h73 (by decide)) (fun h73 => ?_)
            refine ex_aload_n (i := 0) dX10_parse_76 rfl rfl ?_
            refine ex_getI dX10_parse_77 fl_Model_234 rfl rfl (by decide) ?_
            refine ex_asI (y := i3 (56) (43)) (by first | rfl | simp [xU, upd]) ?_
            refine ex_asN (a := md) e43 ?_
            refine ex_goto (tgt := 84) dX10_parse_80 (by decide) ?_
            refine ex_iret dX10_parse_84 rfl rfl ?_
            refine hQ rfl cj0 fz md nd tk val _ q3 hR hmd hPT ((hfa.mono (by decide) (by decide)).tr ((hf3.mono (by decide) (by decide)).F (by decide))) e45 ?_ ?_ (fun c hc => (r2 c hc).trans (p3.1 c hc)) ⟨e43, fun j hj => ?_, r3⟩
            · rw [xU_at]; simp only [upd]; rw [if_neg (by decide), r1.2 44 (by decide), p1.2 44 (by decide), hfb.2 44 (by decide), h44]; exact ea44
            · rw [xU_at]; simp [upd]
            · obtain ⟨c1, c2, c3, c4, c5⟩ := p3.2 j hj
              rw [xU_ne _ _ _ (show (86 : Nat) ≠ 56 by decide), xU_ne _ _ _ (show (87 : Nat) ≠ 56 by decide), xU_ne _ _ _ (show (88 : Nat) ≠ 56 by decide), xU_ne _ _ _ (show (89 : Nat) ≠ 56 by decide), r1.1 86 (by decide) (by decide), r1.1 87 (by decide) (by decide), r1.1 88 (by decide) (by decide), r1.1 89 (by decide) (by decide)]
              exact c1
          have e450 : xU i1 56 45 (nI 0) 56 45 = nI 0 := cd_at _ _
          refine ex_putI dX10_parse_46 fl_Model_124 cf_10 rfl (Or.inl rfl) rfl rfl rfl (by decide) ?_
          refine ex_aload_n (i := 0) dX10_parse_49 rfl rfl ?_
          refine ex_getI dX10_parse_50 fl_Model_124 rfl rfl (by decide) ?_
          refine ex_asN (a := 0) (by first | rfl | simp [xU, upd]) ?_
          refine ex_if_neN (tgt := 64) dX10_parse_53 (by decide) (by omega) (fun h53 => by exact absurd h53 (by decide)) (fun h53 => ?_)
          refine ex_mem hib.symm ?_
          exact H57
        have HX : ∀ c i1, (c = 2 ∨ c = 3) → (∀ i2, Fm [] [27, 45] i1 i2 → i2 56 45 = nI c → i2 56 27 = nI 0 → Q (.ok (some (.int (nI 0)))) (94, g, i2, q, RT t)) → Wx m_Model_parse 46 [some (.ref 56)] [.int (nI c), .ref 56] (94, g, i1, q, RT t) (0, 0) Q := by
          intro c i1 hc hk
          have HK := hk (xU (xU i1 56 45 (nI c)) 56 27 (nI 0)) ((Fm.rf.F (by decide)).F (by decide)) (by simp [xU, upd]) (by rw [xU_at]; simp [upd])
          refine ex_putI dX10_parse_46 fl_Model_124 cf_10 rfl (Or.inl rfl) rfl rfl rfl (by decide) ?_
          refine ex_aload_n (i := 0) dX10_parse_49 rfl rfl ?_
          refine ex_getI dX10_parse_50 fl_Model_124 rfl rfl (by decide) ?_
          refine ex_asN (a := c) (by first | rfl | simp [xU, upd]) ?_
          refine ex_if_neN (tgt := 64) dX10_parse_53 (by decide) (by omega) (fun h53 => ?_) (fun h53 => by omega)
          refine ex_aload_n (i := 0) dX10_parse_64 rfl rfl ?_
          refine ex_iconst (v := nI 0) dX10_parse_65 (by decide) ?_
          refine ex_putI dX10_parse_66 fl_Model_224 cf_10 rfl (Or.inl rfl) rfl rfl rfl (by decide) ?_
          refine ex_aload_n (i := 0) dX10_parse_69 rfl rfl ?_
          refine ex_getI dX10_parse_70 fl_Model_124 rfl rfl (by decide) ?_
          refine ex_asN (a := c) (by first | rfl | simp [xU, upd]) ?_
          refine ex_if_neN (tgt := 83) dX10_parse_73 (by decide) (by omega) (fun h73 => ?_) (fun h73 => by omega)
          refine ex_iconst (v := nI 0) dX10_parse_83 (by decide) ?_
          refine ex_iret dX10_parse_84 rfl rfl ?_
          exact HK
        refine ex_aload_n (i := 0) dX10_parse_0 rfl rfl ?_
        refine ex_aload_n (i := 0) dX10_parse_1 rfl rfl ?_
        refine ex_getI dX10_parse_2 fl_Model_148 rfl rfl (by decide) ?_
        refine ex_asN (a := 1) h9 ?_
        refine ex_if_eqN (tgt := 26) dX10_parse_5 (by decide) (by omega) (fun h5 => by exact absurd h5 (by decide)) (fun h5 => ?_)
        refine ex_aload_n (i := 0) dX10_parse_8 rfl rfl ?_
        refine ex_getI dX10_parse_9 fl_Model_215 rfl rfl (by decide) ?_
        refine ex_asN (a := cj) c1 ?_
        refine ex_if_neN (tgt := 26) dX10_parse_12 (by decide) (by omega) (fun h12 => by omega) (fun h12 => ?_)
        refine ex_aload_n (i := 0) dX10_parse_15 rfl rfl ?_
        refine ex_getI dX10_parse_16 fl_Model_193 rfl rfl (by decide) ?_
        refine ex_asN (a := f) f1 ?_
        refine ex_if_neN (tgt := 26) dX10_parse_19 (by decide) (by omega) (fun h19 => by omega) (fun h19 => ?_)
        refine ex_iconst (v := nI 1) dX10_parse_22 (by decide) ?_
        refine ex_goto (tgt := 27) dX10_parse_23 (by decide) ?_
        refine ex_iconst (v := nI 1) dX10_parse_27 (by decide) ?_
        refine ex_cV (ν := m_Model_good) (a := 56) (ci := 10) (as := [.int (nI (1)), .int (nI (1))]) dX10_parse_28 ln_Model_141 mf_Model_good rfl (Nat.le_of_ble_eq_true rfl) rfl rfl np_Model_good rfl rfl ⟨(Nat.le_of_ble_eq_true rfl), (Nat.le_of_ble_eq_true rfl), (Nat.le_of_ble_eq_true rfl), (Nat.le_of_ble_eq_true rfl)⟩ (by decide) ?_
        refine sp_Model_good (b := 1) (by decide) ?_
        refine ⟨_, rfl, ?_⟩
        refine ex_if_neN (tgt := 36) dX10_parse_31 (by decide) (by omega) (fun h31 => ?_) (fun h31 => by exact absurd h31 (by decide))
        refine ex_aload_n (i := 0) dX10_parse_36 rfl rfl ?_
        refine ex_iconst (v := -1) dX10_parse_37 (by decide) ?_
        refine ex_putI dX10_parse_38 fl_Model_120 cf_10 rfl (Or.inl rfl) rfl rfl rfl (by decide) ?_
        refine ex_aload_n (i := 0) dX10_parse_41 rfl rfl ?_
        refine ex_aload_n (i := 0) dX10_parse_42 rfl rfl ?_
        refine ex_cV (ν := m_Model_shifts) (a := 56) (ci := 10) (as := []) dX10_parse_43 ln_Model_247 mf_Model_shifts rfl (Nat.le_of_ble_eq_true rfl) rfl rfl np_Model_shifts rfl rfl ⟨(Nat.le_of_ble_eq_true rfl), (Nat.le_of_ble_eq_true rfl), (Nat.le_of_ble_eq_true rfl), (Nat.le_of_ble_eq_true rfl)⟩ (by decide) ?_
        refine ex_mem hia.symm ?_
        refine sp_Model_shifts rga (by rw [hfa.2 27 (by decide)]; exact h27) hnt (fun j hj => by rw [hfa.1 77 (by decide) (by decide)]; exact hTT j hj) hS1 hS2 (fun s x h1 h2 => by rw [hfa.1 73 (by decide) (by decide)]; exact hD s x h1 h2) (fun s x h1 h2 h3 => by rw [hfa.1 67 (by decide) (by decide)]; exact hG s x h1 h2 h3) hDS hL (fun md nd tk i1 a1 a2 a3 a4 a5 a6 => ⟨_, rfl, H0 md nd tk i1 a1 a2 a3 a4 a5 a6⟩) (fun md nd tk i1 a1 a2 a3 => ⟨_, rfl, HX 2 i1 (Or.inl rfl) (fun i2 z1 z2 z3 => hX2 rfl cj0 fz md nd tk i2 a1 ((hfa.mono (by decide) (by decide)).tr ((a2.mono (by decide) (by decide)).tr (z1.mono (by decide) (by decide)))) z2 ?_ z3)⟩) (fun k md nd tk i1 a1 a0 a2 a3 => ⟨_, rfl, HX 3 i1 (Or.inr rfl) (fun i2 z1 z2 z3 => hX3 rfl cj0 fz k md nd tk i2 a1 a0 ((hfa.mono (by decide) (by decide)).tr ((a2.mono (by decide) (by decide)).tr (z1.mono (by decide) (by decide)))) z2 ?_ z3)⟩)
        · rw [z1.2 44 (by decide), a3]; exact ea44
        · rw [z1.2 44 (by decide)]; exact a3
        skip
end S79
