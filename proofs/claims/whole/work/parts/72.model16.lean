/-! ===== the reference: ruleLevel, settle ===== -/
def lvK (lv f : Nat → Nat) : Nat → Nat
  | 0 => 0
  | k + 1 => if tmB (f (k + 1)) = 1 then lv (f (k + 1)) else lvK lv f k
theorem lvK_4 (lv f : Nat → Nat) : lvK lv f 4 = lvS lv f := rfl
theorem lvK_z {lv f : Nat → Nat} : ∀ {d k : Nat}, (∀ j, k < j → j ≤ k + d → f j = 0) → lvK lv f (k + d) = lvK lv f k
  | 0, _, _ => rfl
  | d + 1, k, h => by
    show (if tmB (f (k + d + 1)) = 1 then _ else lvK lv f (k + d)) = _
    rw [h (k + d + 1) (by omega) (by omega), if_neg (by decide)]
    exact lvK_z (fun j a b => h j a (by omega))
theorem lvK_le {lv f : Nat → Nat} (h : ∀ s, lv s ≤ 9) : ∀ k, lvK lv f k ≤ 9
  | 0 => by show 0 ≤ 9; decide
  | k + 1 => by
    show (if tmB (f (k + 1)) = 1 then lv (f (k + 1)) else lvK lv f k) ≤ 9
    split
    · exact h _
    · exact lvK_le h k
section S72
variable {g : Nat} {i : Nat → Nat → Int32} {q : Nat → Nat → Int64} {t : Bool} {Q : xRes → xMem → Prop} {n : Nat} {sy : Nat → Nat → Nat} {TJ lv kd : Nat → Nat} {S : Nat}
theorem sp_Model_ruleLevel {r : Nat} (rg : RG i n sy) (hr : r < n) (hlv : Vw i 60 7 lv) (hlb : ∀ s, lv s ≤ 9) (hQ : Q (.ok (some (.int (nI (lvS lv (sy r)))))) (94, g, i, q, RT t)) : Wx m_Model_ruleLevel 0 [some (.ref 56), some (.int (nI r)), none, none] [] (94, g, i, q, RT t) (0, 0) Q := by
  have gw := rg.2.2.2.2
  have hn := gw.1
  have hl := lnR_le sy r
  have e59 := rg.2.2.2.1 r hr
  have LP : ∀ d k, k + d = lnR sy r → Wx m_Model_ruleLevel 4 [some (.ref 56), some (.int (nI r)), some (.int (nI (lvK lv (sy r) k))), some (.int (nI k))] [] (94, g, i, q, RT t) (0, 0) Q := by
    intro d
    induction d with
    | zero =>
      intro k hk
      have e : k = lnR sy r := hk
      subst e
      have el : lvS lv (sy r) = lvK lv (sy r) (lnR sy r) := by
        have := lvK_z (lv := lv) (f := sy r) (d := 4 - lnR sy r) (k := lnR sy r) (fun j a b => sy_z gw (by omega) a (by omega))
        rw [show lnR sy r + (4 - lnR sy r) = 4 by omega] at this
        exact this
      refine ex_iload_n (i := 3) dX10_ruleLevel_4 rfl rfl ?_
      refine ex_aload_n (i := 0) dX10_ruleLevel_5 rfl rfl ?_
      refine ex_getR (v := .ref (59)) dX10_ruleLevel_6 fl_Model_16 rfl rfl (by decide) rfl ?_
      refine ex_iload_n (i := 1) dX10_ruleLevel_9 rfl rfl ?_
      refine ex_ialdN dX10_ruleLevel_10 rfl (by decide) (by omega) rfl ?_
      refine ex_asN (a := lnR sy r) e59 ?_
      refine ex_icmp_geN (tgt := 52) dX10_ruleLevel_11 (by decide) (by omega) (by omega) (fun h11 => ?_) (fun h11 => by omega)
      refine ex_iload_n (i := 2) dX10_ruleLevel_52 rfl rfl ?_
      refine ex_iret dX10_ruleLevel_53 rfl rfl ?_
      rw [← el]; exact hQ
    | succ d ih =>
      intro k hk
      have e58 := rg.2.2.1 r k hr (by omega)
      have hs13 := gw.le (r := r) (k := k + 1) (by omega) (by omega)
      have IH := ih (k + 1) (by omega)
      have ed : lvK lv (sy r) (k + 1) = if tmB (sy r (k + 1)) = 1 then lv (sy r (k + 1)) else lvK lv (sy r) k := rfl
      by_cases c : 1 ≤ sy r (k + 1) ∧ sy r (k + 1) ≤ 6
      · have e1 : tmB (sy r (k + 1)) = 1 := by unfold tmB; rw [if_pos c]
        rw [if_pos e1] at ed
        rw [ed] at IH
        refine ex_iload_n (i := 3) dX10_ruleLevel_4 rfl rfl ?_
        refine ex_aload_n (i := 0) dX10_ruleLevel_5 rfl rfl ?_
        refine ex_getR (v := .ref (59)) dX10_ruleLevel_6 fl_Model_16 rfl rfl (by decide) rfl ?_
        refine ex_iload_n (i := 1) dX10_ruleLevel_9 rfl rfl ?_
        refine ex_ialdN dX10_ruleLevel_10 rfl (by decide) (by omega) rfl ?_
        refine ex_asN (a := lnR sy r) e59 ?_
        refine ex_icmp_geN (tgt := 52) dX10_ruleLevel_11 (by decide) (by omega) (by omega) (fun h11 => by omega) (fun h11 => ?_)
        refine ex_aload_n (i := 0) dX10_ruleLevel_14 rfl rfl ?_
        refine ex_getR (v := .ref (58)) dX10_ruleLevel_15 fl_Model_13 rfl rfl (by decide) rfl ?_
        refine ex_iconst (v := nI 4) dX10_ruleLevel_18 (by decide) ?_
        refine ex_iload_n (i := 1) dX10_ruleLevel_19 rfl rfl ?_
        refine ex_imulN dX10_ruleLevel_20 ?_
        refine ex_iload_n (i := 3) dX10_ruleLevel_21 rfl rfl ?_
        refine ex_iaddN dX10_ruleLevel_22 ?_
        refine ex_ialdN dX10_ruleLevel_23 rfl (by decide) (by omega) rfl ?_
        refine ex_asN (a := sy r (k + 1)) e58 ?_
        refine ex_cS (ν := m_Model_terminal) (as := [.int (nI (sy r (k + 1)))]) dX10_ruleLevel_24 ln_Model_131 mf_Model_terminal np_Model_terminal rfl rfl ⟨(Nat.le_of_ble_eq_true rfl), (Nat.le_of_ble_eq_true rfl), (Nat.le_of_ble_eq_true rfl), (Nat.le_of_ble_eq_true rfl)⟩ (by decide) ?_
        refine sp_Model_terminal_N (by omega) ?_
        refine ⟨_, rfl, ?_⟩
        refine ex_asN (a := 1) (by rw [e1]) ?_
        refine ex_if_eqN (tgt := 46) dX10_ruleLevel_27 (by decide) (by omega) (fun h27 => by exact absurd h27 (by decide)) (fun h27 => ?_)
        refine ex_aload_n (i := 0) dX10_ruleLevel_30 rfl rfl ?_
        refine ex_getR (v := .ref (60)) dX10_ruleLevel_31 fl_Model_19 rfl rfl (by decide) rfl ?_
        refine ex_aload_n (i := 0) dX10_ruleLevel_34 rfl rfl ?_
        refine ex_getR (v := .ref (58)) dX10_ruleLevel_35 fl_Model_13 rfl rfl (by decide) rfl ?_
        refine ex_iconst (v := nI 4) dX10_ruleLevel_38 (by decide) ?_
        refine ex_iload_n (i := 1) dX10_ruleLevel_39 rfl rfl ?_
        refine ex_imulN dX10_ruleLevel_40 ?_
        refine ex_iload_n (i := 3) dX10_ruleLevel_41 rfl rfl ?_
        refine ex_iaddN dX10_ruleLevel_42 ?_
        refine ex_ialdN dX10_ruleLevel_43 rfl (by decide) (by omega) rfl ?_
        refine ex_asN (a := sy r (k + 1)) e58 ?_
        refine ex_ialdN dX10_ruleLevel_44 rfl (by decide) (by omega) rfl ?_
        refine ex_asN (a := lv (sy r (k + 1))) (hlv _ (by omega)) ?_
        refine ex_istore_n (L' := [some (.ref (56)), some (.int (nI (r))), some (.int (nI (lv (sy r (k + 1))))), some (.int (nI (k)))]) dX10_ruleLevel_45 (i := 2) rfl (by decide) rfl ?_
        refine ex_iincN (L' := [some (.ref (56)), some (.int (nI (r))), some (.int (nI (lv (sy r (k + 1))))), some (.int (nI (k + 1)))]) dX10_ruleLevel_46 rfl rfl (by decide) rfl ?_
        refine ex_goto (tgt := 4) dX10_ruleLevel_49 (by decide) ?_
        exact IH
      · have e1 : tmB (sy r (k + 1)) = 0 := by unfold tmB; rw [if_neg c]
        rw [if_neg (by rw [e1]; decide)] at ed
        rw [ed] at IH
        refine ex_iload_n (i := 3) dX10_ruleLevel_4 rfl rfl ?_
        refine ex_aload_n (i := 0) dX10_ruleLevel_5 rfl rfl ?_
        refine ex_getR (v := .ref (59)) dX10_ruleLevel_6 fl_Model_16 rfl rfl (by decide) rfl ?_
        refine ex_iload_n (i := 1) dX10_ruleLevel_9 rfl rfl ?_
        refine ex_ialdN dX10_ruleLevel_10 rfl (by decide) (by omega) rfl ?_
        refine ex_asN (a := lnR sy r) e59 ?_
        refine ex_icmp_geN (tgt := 52) dX10_ruleLevel_11 (by decide) (by omega) (by omega) (fun h11 => by omega) (fun h11 => ?_)
        refine ex_aload_n (i := 0) dX10_ruleLevel_14 rfl rfl ?_
        refine ex_getR (v := .ref (58)) dX10_ruleLevel_15 fl_Model_13 rfl rfl (by decide) rfl ?_
        refine ex_iconst (v := nI 4) dX10_ruleLevel_18 (by decide) ?_
        refine ex_iload_n (i := 1) dX10_ruleLevel_19 rfl rfl ?_
        refine ex_imulN dX10_ruleLevel_20 ?_
        refine ex_iload_n (i := 3) dX10_ruleLevel_21 rfl rfl ?_
        refine ex_iaddN dX10_ruleLevel_22 ?_
        refine ex_ialdN dX10_ruleLevel_23 rfl (by decide) (by omega) rfl ?_
        refine ex_asN (a := sy r (k + 1)) e58 ?_
        refine ex_cS (ν := m_Model_terminal) (as := [.int (nI (sy r (k + 1)))]) dX10_ruleLevel_24 ln_Model_131 mf_Model_terminal np_Model_terminal rfl rfl ⟨(Nat.le_of_ble_eq_true rfl), (Nat.le_of_ble_eq_true rfl), (Nat.le_of_ble_eq_true rfl), (Nat.le_of_ble_eq_true rfl)⟩ (by decide) ?_
        refine sp_Model_terminal_N (by omega) ?_
        refine ⟨_, rfl, ?_⟩
        refine ex_asN (a := 0) (by rw [e1]) ?_
        refine ex_if_eqN (tgt := 46) dX10_ruleLevel_27 (by decide) (by omega) (fun h27 => ?_) (fun h27 => by exact absurd h27 (by decide))
        refine ex_iincN (L' := [some (.ref (56)), some (.int (nI (r))), some (.int (nI (lvK lv (sy r) k))), some (.int (nI (k + 1)))]) dX10_ruleLevel_46 rfl rfl (by decide) rfl ?_
        refine ex_goto (tgt := 4) dX10_ruleLevel_49 (by decide) ?_
        exact IH
  have L0 := LP (lnR sy r) 0 (by omega)
  refine ex_iconst (v := nI 0) dX10_ruleLevel_0 (by decide) ?_
  refine ex_istore_n (L' := [some (.ref (56)), some (.int (nI (r))), some (.int (nI (0))), none]) dX10_ruleLevel_1 (i := 2) rfl (by decide) rfl ?_
  refine ex_iconst (v := nI 0) dX10_ruleLevel_2 (by decide) ?_
  refine ex_istore_n (L' := [some (.ref (56)), some (.int (nI (r))), some (.int (nI (0))), some (.int (nI (0)))]) dX10_ruleLevel_3 (i := 3) rfl (by decide) rfl ?_
  exact L0
theorem rcF_const {P : Nat → Prop} {n : Nat} : ∀ {d : Nat}, (∀ k, n ≤ k → k < n + d → ¬ P k) → rcF P (n + d) = rcF P n
  | 0, _ => rfl
  | d + 1, h => by
    show rcF P (n + d + 1) = _
    rw [rcF_no (h (n + d) (by omega) (by omega))]
    exact rcF_const (fun k a b => h k a (by omega))
theorem rcF_P {P : Nat → Prop} : ∀ {k : Nat}, (rcF P k).1 ≠ 0 → P (rcF P k).2 ∧ (rcF P k).2 < k
  | 0, h => absurd rfl h
  | k + 1, h => by
    by_cases hp : P k
    · rw [rcF_yes hp]; exact ⟨hp, by show k < k + 1; omega⟩
    · rw [rcF_no hp] at h ⊢
      have := rcF_P h
      exact ⟨this.1, by omega⟩
/-- the end of settle: c1 rules can be reduced, c2 the last of them, acc: the goal can be accepted -/
theorem lp_Model_settle_end {s x sh c1 c2 acc : Nat} (rg : RG i n sy) (hn0 : 0 < n) (hx : x < 7) (hsh : sh < 50) (hc : c1 < 100) (hc2 : c1 ≠ 0 → c2 < n) (ha : acc < 2) (hax : acc = 1 → sh = 0) (hlv : Vw i 60 7 lv) (hlb : ∀ s, lv s ≤ 9) (hkd : Vw i 61 7 kd) (hkb : ∀ s, kd s ≤ 2)
    (hQ : Q (.ok (some (.int (if acc = 1 then dcV (c1 + 1, 14) sh (lvS lv (sy 14)) (lv x) (kd x) else dcV (c1, c2) sh (lvS lv (sy c2)) (lv x) (kd x))))) (94, g, i, q, RT t)) :
    Wx m_Model_settle 138 [some (.ref 56), some (.int (nI s)), some (.int (nI x)), some (.int (nI sh)), some (.int (nI ((if sh = 0 then 0 else 1) + c1 + acc))), some (.int (if c1 = 0 then -1 else nI c2)), some (.int (nI acc)), none, none] [] (94, g, i, q, RT t) (0, 0) Q := by
  have gw := rg.2.2.2.2
  have hn := gw.1
  by_cases a1 : acc = 1
  · have hs0 := hax a1
    subst a1 hs0
    rw [if_pos rfl] at hQ
    rw [if_pos rfl, Nat.zero_add]
    by_cases c : c1 = 0
    · subst c
      have e : dcV (0 + 1, 14) 0 (lvS lv (sy 14)) (lv x) (kd x) = nI 1000 := by unfold dcV; simp
      rw [e] at hQ
      rw [if_pos rfl]
      refine ex_iload dX10_settle_138 rfl ?_
      refine ex_iconst (v := nI 2) dX10_settle_140 (by decide) ?_
      refine ex_icmp_neN (tgt := 230) dX10_settle_141 (by decide) (by omega) (by omega) (fun h141 => ?_) (fun h141 => by omega)
      refine ex_iload dX10_settle_230 rfl ?_
      refine ex_if_neN (tgt := 239) dX10_settle_232 (by decide) (by omega) (fun h232 => ?_) (fun h232 => by omega)
      refine ex_iload dX10_settle_239 rfl ?_
      refine ex_iconst (v := nI 1) dX10_settle_241 (by decide) ?_
      refine ex_icmp_leN (tgt := 251) dX10_settle_242 (by decide) (by omega) (by omega) (fun h242 => ?_) (fun h242 => by omega)
      refine ex_iload dX10_settle_251 rfl ?_
      refine ex_if_eqN (tgt := 262) dX10_settle_253 (by decide) (by omega) (fun h253 => by exact absurd h253 (by decide)) (fun h253 => ?_)
      refine ex_sipush (v := nI 1000) dX10_settle_256 (by decide) ?_
      refine ex_goto (tgt := 275) dX10_settle_259 (by decide) ?_
      refine ex_iret dX10_settle_275 rfl rfl ?_
      exact hQ
    · have e : dcV (c1 + 1, 14) 0 (lvS lv (sy 14)) (lv x) (kd x) = nI 1001 := by unfold dcV; rw [if_neg (by show ¬ c1 + 1 = 0; omega), if_pos (by show 1 < c1 + 1; omega)]
      rw [e] at hQ
      rw [if_neg c]
      refine ex_iload dX10_settle_138 rfl ?_
      refine ex_iconst (v := nI 2) dX10_settle_140 (by decide) ?_
      refine ex_icmp_neN (tgt := 230) dX10_settle_141 (by decide) (by omega) (by omega) (fun h141 => ?_) (fun h141 => ?_)
      · refine ex_iload dX10_settle_230 rfl ?_
        refine ex_if_neN (tgt := 239) dX10_settle_232 (by decide) (by omega) (fun h232 => ?_) (fun h232 => by omega)
        refine ex_iload dX10_settle_239 rfl ?_
        refine ex_iconst (v := nI 1) dX10_settle_241 (by decide) ?_
        refine ex_icmp_leN (tgt := 251) dX10_settle_242 (by decide) (by omega) (by omega) (fun h242 => by omega) (fun h242 => ?_)
        refine ex_sipush (v := nI 1001) dX10_settle_245 (by decide) ?_
        refine ex_goto (tgt := 275) dX10_settle_248 (by decide) ?_
        refine ex_iret dX10_settle_275 rfl rfl ?_
        exact hQ
      · refine ex_iload_n (i := 3) dX10_settle_144 rfl rfl ?_
        refine ex_if_leN (tgt := 230) dX10_settle_145 (by decide) (by omega) (fun h145 => ?_) (fun h145 => by exact absurd h145 (by decide))
        refine ex_iload dX10_settle_230 rfl ?_
        refine ex_if_neN (tgt := 239) dX10_settle_232 (by decide) (by omega) (fun h232 => ?_) (fun h232 => by omega)
        refine ex_iload dX10_settle_239 rfl ?_
        refine ex_iconst (v := nI 1) dX10_settle_241 (by decide) ?_
        refine ex_icmp_leN (tgt := 251) dX10_settle_242 (by decide) (by omega) (by omega) (fun h242 => by omega) (fun h242 => ?_)
        refine ex_sipush (v := nI 1001) dX10_settle_245 (by decide) ?_
        refine ex_goto (tgt := 275) dX10_settle_248 (by decide) ?_
        refine ex_iret dX10_settle_275 rfl rfl ?_
        exact hQ
  · have a0 : acc = 0 := by omega
    subst a0
    rw [if_neg (by decide)] at hQ
    rw [Nat.add_zero]
    by_cases c : c1 = 0
    · subst c
      have e : dcV (0, c2) sh (lvS lv (sy c2)) (lv x) (kd x) = nI sh := by unfold dcV; rw [if_pos rfl]
      rw [e] at hQ
      rw [if_pos (show 0 = 0 from rfl), Nat.add_zero]
      by_cases h0 : sh = 0
      · subst h0
        rw [if_pos rfl]
        refine ex_iload dX10_settle_138 rfl ?_
        refine ex_iconst (v := nI 2) dX10_settle_140 (by decide) ?_
        refine ex_icmp_neN (tgt := 230) dX10_settle_141 (by decide) (by decide) (by decide) (fun h141 => ?_) (fun h141 => by exact absurd h141 (by decide))
        refine ex_iload dX10_settle_230 rfl ?_
        refine ex_if_neN (tgt := 239) dX10_settle_232 (by decide) (by omega) (fun h232 => by exact absurd h232 (by decide)) (fun h232 => ?_)
        refine ex_iconst (v := nI 0) dX10_settle_235 (by decide) ?_
        refine ex_goto (tgt := 275) dX10_settle_236 (by decide) ?_
        refine ex_iret dX10_settle_275 rfl rfl ?_
        exact hQ
      · rw [if_neg h0]
        refine ex_iload dX10_settle_138 rfl ?_
        refine ex_iconst (v := nI 2) dX10_settle_140 (by decide) ?_
        refine ex_icmp_neN (tgt := 230) dX10_settle_141 (by decide) (by decide) (by decide) (fun h141 => ?_) (fun h141 => by exact absurd h141 (by decide))
        refine ex_iload dX10_settle_230 rfl ?_
        refine ex_if_neN (tgt := 239) dX10_settle_232 (by decide) (by omega) (fun h232 => ?_) (fun h232 => by exact absurd h232 (by decide))
        refine ex_iload dX10_settle_239 rfl ?_
        refine ex_iconst (v := nI 1) dX10_settle_241 (by decide) ?_
        refine ex_icmp_leN (tgt := 251) dX10_settle_242 (by decide) (by decide) (by decide) (fun h242 => ?_) (fun h242 => by exact absurd h242 (by decide))
        refine ex_iload dX10_settle_251 rfl ?_
        refine ex_if_eqN (tgt := 262) dX10_settle_253 (by decide) (by omega) (fun h253 => ?_) (fun h253 => by exact absurd h253 (by decide))
        refine ex_iload dX10_settle_262 rfl ?_
        refine ex_if_lt (tgt := 274) dX10_settle_264 (by decide) (fun h264 => ?_) (fun h264 => by exact absurd (by decide) h264)
        refine ex_iload_n (i := 3) dX10_settle_274 rfl rfl ?_
        refine ex_iret dX10_settle_275 rfl rfl ?_
        exact hQ
    · have hc2n := hc2 c
      rw [if_neg c]
      by_cases c1' : c1 = 1
      · subst c1'
        by_cases h0 : sh = 0
        · subst h0
          have e : dcV (1, c2) 0 (lvS lv (sy c2)) (lv x) (kd x) = -1 - nI c2 := by unfold dcV; rw [if_neg (show ¬ (1 : Nat) = 0 by decide), if_neg (show ¬ 1 < 1 by decide), if_pos rfl, if_neg (by show ¬ c2 = 14; omega)]
          rw [e] at hQ
          rw [if_pos rfl]
          refine ex_iload dX10_settle_138 rfl ?_
          refine ex_iconst (v := nI 2) dX10_settle_140 (by decide) ?_
          refine ex_icmp_neN (tgt := 230) dX10_settle_141 (by decide) (by omega) (by omega) (fun h141 => ?_) (fun h141 => by omega)
          refine ex_iload dX10_settle_230 rfl ?_
          refine ex_if_neN (tgt := 239) dX10_settle_232 (by decide) (by omega) (fun h232 => ?_) (fun h232 => by omega)
          refine ex_iload dX10_settle_239 rfl ?_
          refine ex_iconst (v := nI 1) dX10_settle_241 (by decide) ?_
          refine ex_icmp_leN (tgt := 251) dX10_settle_242 (by decide) (by omega) (by omega) (fun h242 => ?_) (fun h242 => by omega)
          refine ex_iload dX10_settle_251 rfl ?_
          refine ex_if_eqN (tgt := 262) dX10_settle_253 (by decide) (by omega) (fun h253 => ?_) (fun h253 => by exact absurd h253 (by decide))
          refine ex_iload dX10_settle_262 rfl ?_
          refine ex_if_ltN (tgt := 274) dX10_settle_264 (by decide) (by omega) ?_
          refine ex_iconst (v := -1) dX10_settle_267 (by decide) ?_
          refine ex_iload dX10_settle_268 rfl ?_
          refine ex_isub dX10_settle_270 ?_
          refine ex_goto (tgt := 275) dX10_settle_271 (by decide) ?_
          refine ex_iret dX10_settle_275 rfl rfl ?_
          exact hQ
        · have e : dcV (1, c2) sh (lvS lv (sy c2)) (lv x) (kd x) = wgh (lvS lv (sy c2)) (lv x) (kd x) (nI sh) (-1 - nI c2) := by unfold dcV; rw [if_neg (show ¬ (1 : Nat) = 0 by decide), if_neg (show ¬ 1 < 1 by decide), if_neg h0, if_neg (by show ¬ c2 = 14; omega)]
          rw [e] at hQ
          rw [if_neg h0]
          have hrl : lvS lv (sy c2) ≤ 9 := by rw [← lvK_4]; exact lvK_le hlb 4
          have hm := hlb x
          have hkx := hkb x
          unfold wgh at hQ
          by_cases l0 : lvS lv (sy c2) = 0
          · rw [if_pos (Or.inl l0)] at hQ
            refine ex_iload dX10_settle_138 rfl ?_
            refine ex_iconst (v := nI 2) dX10_settle_140 (by decide) ?_
            refine ex_icmp_neN (tgt := 230) dX10_settle_141 (by decide) (by omega) (by omega) (fun h141 => by omega) (fun h141 => ?_)
            refine ex_iload_n (i := 3) dX10_settle_144 rfl rfl ?_
            refine ex_if_leN (tgt := 230) dX10_settle_145 (by decide) (by omega) (fun h145 => by omega) (fun h145 => ?_)
            refine ex_iload dX10_settle_148 rfl ?_
            refine ex_if_ltN (tgt := 230) dX10_settle_150 (by decide) (by omega) ?_
            refine ex_aload_n (i := 0) dX10_settle_153 rfl rfl ?_
            refine ex_iload dX10_settle_154 rfl ?_
            refine ex_cV (ν := m_Model_ruleLevel) (a := 56) (ci := 10) (as := [.int (nI (c2))]) dX10_settle_156 ln_Model_186 mf_Model_ruleLevel rfl (Nat.le_of_ble_eq_true rfl) rfl rfl np_Model_ruleLevel rfl rfl ⟨(Nat.le_of_ble_eq_true rfl), (Nat.le_of_ble_eq_true rfl), (Nat.le_of_ble_eq_true rfl), (Nat.le_of_ble_eq_true rfl)⟩ (by decide) ?_
            refine sp_Model_ruleLevel rg hc2n hlv hlb ?_
            refine ⟨_, rfl, ?_⟩
            refine ex_istore (L' := [some (.ref (56)), some (.int (nI (s))), some (.int (nI (x))), some (.int (nI (sh))), some (.int (nI (1 + 1))), some (.int (nI (c2))), some (.int (nI (0))), some (.int (nI (lvS lv (sy c2)))), none]) dX10_settle_159 (by decide) rfl ?_
            refine ex_aload_n (i := 0) dX10_settle_161 rfl rfl ?_
            refine ex_getR (v := .ref (60)) dX10_settle_162 fl_Model_19 rfl rfl (by decide) rfl ?_
            refine ex_iload_n (i := 2) dX10_settle_165 rfl rfl ?_
            refine ex_ialdN dX10_settle_166 rfl (by decide) (by omega) rfl ?_
            refine ex_asN (a := lv x) (hlv x hx) ?_
            refine ex_istore (L' := [some (.ref (56)), some (.int (nI (s))), some (.int (nI (x))), some (.int (nI (sh))), some (.int (nI (1 + 1))), some (.int (nI (c2))), some (.int (nI (0))), some (.int (nI (lvS lv (sy c2)))), some (.int (nI (lv x)))]) dX10_settle_167 (by decide) rfl ?_
            refine ex_iload dX10_settle_169 rfl ?_
            refine ex_if_leN (tgt := 230) dX10_settle_171 (by decide) (by omega) (fun h171 => ?_) (fun h171 => by omega)
            refine ex_iload dX10_settle_230 rfl ?_
            refine ex_if_neN (tgt := 239) dX10_settle_232 (by decide) (by omega) (fun h232 => ?_) (fun h232 => by omega)
            refine ex_iload dX10_settle_239 rfl ?_
            refine ex_iconst (v := nI 1) dX10_settle_241 (by decide) ?_
            refine ex_icmp_leN (tgt := 251) dX10_settle_242 (by decide) (by omega) (by omega) (fun h242 => by omega) (fun h242 => ?_)
            refine ex_sipush (v := nI 1001) dX10_settle_245 (by decide) ?_
            refine ex_goto (tgt := 275) dX10_settle_248 (by decide) ?_
            refine ex_iret dX10_settle_275 rfl rfl ?_
            exact hQ
          · by_cases m0 : lv x = 0
            · rw [if_pos (Or.inr m0)] at hQ
              refine ex_iload dX10_settle_138 rfl ?_
              refine ex_iconst (v := nI 2) dX10_settle_140 (by decide) ?_
              refine ex_icmp_neN (tgt := 230) dX10_settle_141 (by decide) (by omega) (by omega) (fun h141 => by omega) (fun h141 => ?_)
              refine ex_iload_n (i := 3) dX10_settle_144 rfl rfl ?_
              refine ex_if_leN (tgt := 230) dX10_settle_145 (by decide) (by omega) (fun h145 => by omega) (fun h145 => ?_)
              refine ex_iload dX10_settle_148 rfl ?_
              refine ex_if_ltN (tgt := 230) dX10_settle_150 (by decide) (by omega) ?_
              refine ex_aload_n (i := 0) dX10_settle_153 rfl rfl ?_
              refine ex_iload dX10_settle_154 rfl ?_
              refine ex_cV (ν := m_Model_ruleLevel) (a := 56) (ci := 10) (as := [.int (nI (c2))]) dX10_settle_156 ln_Model_186 mf_Model_ruleLevel rfl (Nat.le_of_ble_eq_true rfl) rfl rfl np_Model_ruleLevel rfl rfl ⟨(Nat.le_of_ble_eq_true rfl), (Nat.le_of_ble_eq_true rfl), (Nat.le_of_ble_eq_true rfl), (Nat.le_of_ble_eq_true rfl)⟩ (by decide) ?_
              refine sp_Model_ruleLevel rg hc2n hlv hlb ?_
              refine ⟨_, rfl, ?_⟩
              refine ex_istore (L' := [some (.ref (56)), some (.int (nI (s))), some (.int (nI (x))), some (.int (nI (sh))), some (.int (nI (1 + 1))), some (.int (nI (c2))), some (.int (nI (0))), some (.int (nI (lvS lv (sy c2)))), none]) dX10_settle_159 (by decide) rfl ?_
              refine ex_aload_n (i := 0) dX10_settle_161 rfl rfl ?_
              refine ex_getR (v := .ref (60)) dX10_settle_162 fl_Model_19 rfl rfl (by decide) rfl ?_
              refine ex_iload_n (i := 2) dX10_settle_165 rfl rfl ?_
              refine ex_ialdN dX10_settle_166 rfl (by decide) (by omega) rfl ?_
              refine ex_asN (a := lv x) (hlv x hx) ?_
              refine ex_istore (L' := [some (.ref (56)), some (.int (nI (s))), some (.int (nI (x))), some (.int (nI (sh))), some (.int (nI (1 + 1))), some (.int (nI (c2))), some (.int (nI (0))), some (.int (nI (lvS lv (sy c2)))), some (.int (nI (lv x)))]) dX10_settle_167 (by decide) rfl ?_
              refine ex_iload dX10_settle_169 rfl ?_
              refine ex_if_leN (tgt := 230) dX10_settle_171 (by decide) (by omega) (fun h171 => by omega) (fun h171 => ?_)
              refine ex_iload dX10_settle_174 rfl ?_
              refine ex_if_leN (tgt := 230) dX10_settle_176 (by decide) (by omega) (fun h176 => ?_) (fun h176 => by omega)
              refine ex_iload dX10_settle_230 rfl ?_
              refine ex_if_neN (tgt := 239) dX10_settle_232 (by decide) (by omega) (fun h232 => ?_) (fun h232 => by omega)
              refine ex_iload dX10_settle_239 rfl ?_
              refine ex_iconst (v := nI 1) dX10_settle_241 (by decide) ?_
              refine ex_icmp_leN (tgt := 251) dX10_settle_242 (by decide) (by omega) (by omega) (fun h242 => by omega) (fun h242 => ?_)
              refine ex_sipush (v := nI 1001) dX10_settle_245 (by decide) ?_
              refine ex_goto (tgt := 275) dX10_settle_248 (by decide) ?_
              refine ex_iret dX10_settle_275 rfl rfl ?_
              exact hQ
            · rw [if_neg (fun z => z.elim l0 m0)] at hQ
              by_cases lt : lvS lv (sy c2) = lv x
              · rw [if_neg (fun z => z lt)] at hQ
                by_cases k0 : kd x = 0
                · rw [if_pos k0] at hQ
                  refine ex_iload dX10_settle_138 rfl ?_
                  refine ex_iconst (v := nI 2) dX10_settle_140 (by decide) ?_
                  refine ex_icmp_neN (tgt := 230) dX10_settle_141 (by decide) (by omega) (by omega) (fun h141 => by omega) (fun h141 => ?_)
                  refine ex_iload_n (i := 3) dX10_settle_144 rfl rfl ?_
                  refine ex_if_leN (tgt := 230) dX10_settle_145 (by decide) (by omega) (fun h145 => by omega) (fun h145 => ?_)
                  refine ex_iload dX10_settle_148 rfl ?_
                  refine ex_if_ltN (tgt := 230) dX10_settle_150 (by decide) (by omega) ?_
                  refine ex_aload_n (i := 0) dX10_settle_153 rfl rfl ?_
                  refine ex_iload dX10_settle_154 rfl ?_
                  refine ex_cV (ν := m_Model_ruleLevel) (a := 56) (ci := 10) (as := [.int (nI (c2))]) dX10_settle_156 ln_Model_186 mf_Model_ruleLevel rfl (Nat.le_of_ble_eq_true rfl) rfl rfl np_Model_ruleLevel rfl rfl ⟨(Nat.le_of_ble_eq_true rfl), (Nat.le_of_ble_eq_true rfl), (Nat.le_of_ble_eq_true rfl), (Nat.le_of_ble_eq_true rfl)⟩ (by decide) ?_
                  refine sp_Model_ruleLevel rg hc2n hlv hlb ?_
                  refine ⟨_, rfl, ?_⟩
                  refine ex_istore (L' := [some (.ref (56)), some (.int (nI (s))), some (.int (nI (x))), some (.int (nI (sh))), some (.int (nI (1 + 1))), some (.int (nI (c2))), some (.int (nI (0))), some (.int (nI (lvS lv (sy c2)))), none]) dX10_settle_159 (by decide) rfl ?_
                  refine ex_aload_n (i := 0) dX10_settle_161 rfl rfl ?_
                  refine ex_getR (v := .ref (60)) dX10_settle_162 fl_Model_19 rfl rfl (by decide) rfl ?_
                  refine ex_iload_n (i := 2) dX10_settle_165 rfl rfl ?_
                  refine ex_ialdN dX10_settle_166 rfl (by decide) (by omega) rfl ?_
                  refine ex_asN (a := lv x) (hlv x hx) ?_
                  refine ex_istore (L' := [some (.ref (56)), some (.int (nI (s))), some (.int (nI (x))), some (.int (nI (sh))), some (.int (nI (1 + 1))), some (.int (nI (c2))), some (.int (nI (0))), some (.int (nI (lvS lv (sy c2)))), some (.int (nI (lv x)))]) dX10_settle_167 (by decide) rfl ?_
                  refine ex_iload dX10_settle_169 rfl ?_
                  refine ex_if_leN (tgt := 230) dX10_settle_171 (by decide) (by omega) (fun h171 => by omega) (fun h171 => ?_)
                  refine ex_iload dX10_settle_174 rfl ?_
                  refine ex_if_leN (tgt := 230) dX10_settle_176 (by decide) (by omega) (fun h176 => by omega) (fun h176 => ?_)
                  refine ex_iload dX10_settle_179 rfl ?_
                  refine ex_iload dX10_settle_181 rfl ?_
                  refine ex_icmp_gtN (tgt := 202) dX10_settle_183 (by decide) (by omega) (by omega) (fun h183 => by omega) (fun h183 => ?_)
                  refine ex_iload dX10_settle_186 rfl ?_
                  refine ex_iload dX10_settle_188 rfl ?_
                  refine ex_icmp_neN (tgt := 207) dX10_settle_190 (by decide) (by omega) (by omega) (fun h190 => by omega) (fun h190 => ?_)
                  refine ex_aload_n (i := 0) dX10_settle_193 rfl rfl ?_
                  refine ex_getR (v := .ref (61)) dX10_settle_194 fl_Model_22 rfl rfl (by decide) rfl ?_
                  refine ex_iload_n (i := 2) dX10_settle_197 rfl rfl ?_
                  refine ex_ialdN dX10_settle_198 rfl (by decide) (by omega) rfl ?_
                  refine ex_asN (a := kd x) (hkd x hx) ?_
                  refine ex_if_neN (tgt := 207) dX10_settle_199 (by decide) (by omega) (fun h199 => by omega) (fun h199 => ?_)
                  refine ex_iconst (v := -1) dX10_settle_202 (by decide) ?_
                  refine ex_iload dX10_settle_203 rfl ?_
                  refine ex_isub dX10_settle_205 ?_
                  refine ex_iret dX10_settle_206 rfl rfl ?_
                  exact hQ
                · rw [if_neg k0] at hQ
                  by_cases k1 : kd x = 1
                  · rw [if_pos k1] at hQ
                    refine ex_iload dX10_settle_138 rfl ?_
                    refine ex_iconst (v := nI 2) dX10_settle_140 (by decide) ?_
                    refine ex_icmp_neN (tgt := 230) dX10_settle_141 (by decide) (by omega) (by omega) (fun h141 => by omega) (fun h141 => ?_)
                    refine ex_iload_n (i := 3) dX10_settle_144 rfl rfl ?_
                    refine ex_if_leN (tgt := 230) dX10_settle_145 (by decide) (by omega) (fun h145 => by omega) (fun h145 => ?_)
                    refine ex_iload dX10_settle_148 rfl ?_
                    refine ex_if_ltN (tgt := 230) dX10_settle_150 (by decide) (by omega) ?_
                    refine ex_aload_n (i := 0) dX10_settle_153 rfl rfl ?_
                    refine ex_iload dX10_settle_154 rfl ?_
                    refine ex_cV (ν := m_Model_ruleLevel) (a := 56) (ci := 10) (as := [.int (nI (c2))]) dX10_settle_156 ln_Model_186 mf_Model_ruleLevel rfl (Nat.le_of_ble_eq_true rfl) rfl rfl np_Model_ruleLevel rfl rfl ⟨(Nat.le_of_ble_eq_true rfl), (Nat.le_of_ble_eq_true rfl), (Nat.le_of_ble_eq_true rfl), (Nat.le_of_ble_eq_true rfl)⟩ (by decide) ?_
                    refine sp_Model_ruleLevel rg hc2n hlv hlb ?_
                    refine ⟨_, rfl, ?_⟩
                    refine ex_istore (L' := [some (.ref (56)), some (.int (nI (s))), some (.int (nI (x))), some (.int (nI (sh))), some (.int (nI (1 + 1))), some (.int (nI (c2))), some (.int (nI (0))), some (.int (nI (lvS lv (sy c2)))), none]) dX10_settle_159 (by decide) rfl ?_
                    refine ex_aload_n (i := 0) dX10_settle_161 rfl rfl ?_
                    refine ex_getR (v := .ref (60)) dX10_settle_162 fl_Model_19 rfl rfl (by decide) rfl ?_
                    refine ex_iload_n (i := 2) dX10_settle_165 rfl rfl ?_
                    refine ex_ialdN dX10_settle_166 rfl (by decide) (by omega) rfl ?_
                    refine ex_asN (a := lv x) (hlv x hx) ?_
                    refine ex_istore (L' := [some (.ref (56)), some (.int (nI (s))), some (.int (nI (x))), some (.int (nI (sh))), some (.int (nI (1 + 1))), some (.int (nI (c2))), some (.int (nI (0))), some (.int (nI (lvS lv (sy c2)))), some (.int (nI (lv x)))]) dX10_settle_167 (by decide) rfl ?_
                    refine ex_iload dX10_settle_169 rfl ?_
                    refine ex_if_leN (tgt := 230) dX10_settle_171 (by decide) (by omega) (fun h171 => by omega) (fun h171 => ?_)
                    refine ex_iload dX10_settle_174 rfl ?_
                    refine ex_if_leN (tgt := 230) dX10_settle_176 (by decide) (by omega) (fun h176 => by omega) (fun h176 => ?_)
                    refine ex_iload dX10_settle_179 rfl ?_
                    refine ex_iload dX10_settle_181 rfl ?_
                    refine ex_icmp_gtN (tgt := 202) dX10_settle_183 (by decide) (by omega) (by omega) (fun h183 => by omega) (fun h183 => ?_)
                    refine ex_iload dX10_settle_186 rfl ?_
                    refine ex_iload dX10_settle_188 rfl ?_
                    refine ex_icmp_neN (tgt := 207) dX10_settle_190 (by decide) (by omega) (by omega) (fun h190 => by omega) (fun h190 => ?_)
                    refine ex_aload_n (i := 0) dX10_settle_193 rfl rfl ?_
                    refine ex_getR (v := .ref (61)) dX10_settle_194 fl_Model_22 rfl rfl (by decide) rfl ?_
                    refine ex_iload_n (i := 2) dX10_settle_197 rfl rfl ?_
                    refine ex_ialdN dX10_settle_198 rfl (by decide) (by omega) rfl ?_
                    refine ex_asN (a := kd x) (hkd x hx) ?_
                    refine ex_if_neN (tgt := 207) dX10_settle_199 (by decide) (by omega) (fun h199 => ?_) (fun h199 => by omega)
                    refine ex_iload dX10_settle_207 rfl ?_
                    refine ex_iload dX10_settle_209 rfl ?_
                    refine ex_icmp_ltN (tgt := 224) dX10_settle_211 (by decide) (by omega) (by omega) (fun h211 => by omega) (fun h211 => ?_)
                    refine ex_aload_n (i := 0) dX10_settle_214 rfl rfl ?_
                    refine ex_getR (v := .ref (61)) dX10_settle_215 fl_Model_22 rfl rfl (by decide) rfl ?_
                    refine ex_iload_n (i := 2) dX10_settle_218 rfl rfl ?_
                    refine ex_ialdN dX10_settle_219 rfl (by decide) (by omega) rfl ?_
                    refine ex_asN (a := kd x) (hkd x hx) ?_
                    refine ex_iconst (v := nI 1) dX10_settle_220 (by decide) ?_
                    refine ex_icmp_neN (tgt := 228) dX10_settle_221 (by decide) (by omega) (by omega) (fun h221 => by omega) (fun h221 => ?_)
                    refine ex_iload_n (i := 3) dX10_settle_224 rfl rfl ?_
                    refine ex_goto (tgt := 229) dX10_settle_225 (by decide) ?_
                    refine ex_iret dX10_settle_229 rfl rfl ?_
                    exact hQ
                  · rw [if_neg k1] at hQ
                    refine ex_iload dX10_settle_138 rfl ?_
                    refine ex_iconst (v := nI 2) dX10_settle_140 (by decide) ?_
                    refine ex_icmp_neN (tgt := 230) dX10_settle_141 (by decide) (by omega) (by omega) (fun h141 => by omega) (fun h141 => ?_)
                    refine ex_iload_n (i := 3) dX10_settle_144 rfl rfl ?_
                    refine ex_if_leN (tgt := 230) dX10_settle_145 (by decide) (by omega) (fun h145 => by omega) (fun h145 => ?_)
                    refine ex_iload dX10_settle_148 rfl ?_
                    refine ex_if_ltN (tgt := 230) dX10_settle_150 (by decide) (by omega) ?_
                    refine ex_aload_n (i := 0) dX10_settle_153 rfl rfl ?_
                    refine ex_iload dX10_settle_154 rfl ?_
                    refine ex_cV (ν := m_Model_ruleLevel) (a := 56) (ci := 10) (as := [.int (nI (c2))]) dX10_settle_156 ln_Model_186 mf_Model_ruleLevel rfl (Nat.le_of_ble_eq_true rfl) rfl rfl np_Model_ruleLevel rfl rfl ⟨(Nat.le_of_ble_eq_true rfl), (Nat.le_of_ble_eq_true rfl), (Nat.le_of_ble_eq_true rfl), (Nat.le_of_ble_eq_true rfl)⟩ (by decide) ?_
                    refine sp_Model_ruleLevel rg hc2n hlv hlb ?_
                    refine ⟨_, rfl, ?_⟩
                    refine ex_istore (L' := [some (.ref (56)), some (.int (nI (s))), some (.int (nI (x))), some (.int (nI (sh))), some (.int (nI (1 + 1))), some (.int (nI (c2))), some (.int (nI (0))), some (.int (nI (lvS lv (sy c2)))), none]) dX10_settle_159 (by decide) rfl ?_
                    refine ex_aload_n (i := 0) dX10_settle_161 rfl rfl ?_
                    refine ex_getR (v := .ref (60)) dX10_settle_162 fl_Model_19 rfl rfl (by decide) rfl ?_
                    refine ex_iload_n (i := 2) dX10_settle_165 rfl rfl ?_
                    refine ex_ialdN dX10_settle_166 rfl (by decide) (by omega) rfl ?_
                    refine ex_asN (a := lv x) (hlv x hx) ?_
                    refine ex_istore (L' := [some (.ref (56)), some (.int (nI (s))), some (.int (nI (x))), some (.int (nI (sh))), some (.int (nI (1 + 1))), some (.int (nI (c2))), some (.int (nI (0))), some (.int (nI (lvS lv (sy c2)))), some (.int (nI (lv x)))]) dX10_settle_167 (by decide) rfl ?_
                    refine ex_iload dX10_settle_169 rfl ?_
                    refine ex_if_leN (tgt := 230) dX10_settle_171 (by decide) (by omega) (fun h171 => by omega) (fun h171 => ?_)
                    refine ex_iload dX10_settle_174 rfl ?_
                    refine ex_if_leN (tgt := 230) dX10_settle_176 (by decide) (by omega) (fun h176 => by omega) (fun h176 => ?_)
                    refine ex_iload dX10_settle_179 rfl ?_
                    refine ex_iload dX10_settle_181 rfl ?_
                    refine ex_icmp_gtN (tgt := 202) dX10_settle_183 (by decide) (by omega) (by omega) (fun h183 => by omega) (fun h183 => ?_)
                    refine ex_iload dX10_settle_186 rfl ?_
                    refine ex_iload dX10_settle_188 rfl ?_
                    refine ex_icmp_neN (tgt := 207) dX10_settle_190 (by decide) (by omega) (by omega) (fun h190 => by omega) (fun h190 => ?_)
                    refine ex_aload_n (i := 0) dX10_settle_193 rfl rfl ?_
                    refine ex_getR (v := .ref (61)) dX10_settle_194 fl_Model_22 rfl rfl (by decide) rfl ?_
                    refine ex_iload_n (i := 2) dX10_settle_197 rfl rfl ?_
                    refine ex_ialdN dX10_settle_198 rfl (by decide) (by omega) rfl ?_
                    refine ex_asN (a := kd x) (hkd x hx) ?_
                    refine ex_if_neN (tgt := 207) dX10_settle_199 (by decide) (by omega) (fun h199 => ?_) (fun h199 => by omega)
                    refine ex_iload dX10_settle_207 rfl ?_
                    refine ex_iload dX10_settle_209 rfl ?_
                    refine ex_icmp_ltN (tgt := 224) dX10_settle_211 (by decide) (by omega) (by omega) (fun h211 => by omega) (fun h211 => ?_)
                    refine ex_aload_n (i := 0) dX10_settle_214 rfl rfl ?_
                    refine ex_getR (v := .ref (61)) dX10_settle_215 fl_Model_22 rfl rfl (by decide) rfl ?_
                    refine ex_iload_n (i := 2) dX10_settle_218 rfl rfl ?_
                    refine ex_ialdN dX10_settle_219 rfl (by decide) (by omega) rfl ?_
                    refine ex_asN (a := kd x) (hkd x hx) ?_
                    refine ex_iconst (v := nI 1) dX10_settle_220 (by decide) ?_
                    refine ex_icmp_neN (tgt := 228) dX10_settle_221 (by decide) (by omega) (by omega) (fun h221 => ?_) (fun h221 => by omega)
                    refine ex_iconst (v := nI 0) dX10_settle_228 (by decide) ?_
                    refine ex_iret dX10_settle_229 rfl rfl ?_
                    exact hQ
              · rw [if_pos lt] at hQ
                by_cases gt : lv x < lvS lv (sy c2)
                · rw [if_pos gt] at hQ
                  refine ex_iload dX10_settle_138 rfl ?_
                  refine ex_iconst (v := nI 2) dX10_settle_140 (by decide) ?_
                  refine ex_icmp_neN (tgt := 230) dX10_settle_141 (by decide) (by omega) (by omega) (fun h141 => by omega) (fun h141 => ?_)
                  refine ex_iload_n (i := 3) dX10_settle_144 rfl rfl ?_
                  refine ex_if_leN (tgt := 230) dX10_settle_145 (by decide) (by omega) (fun h145 => by omega) (fun h145 => ?_)
                  refine ex_iload dX10_settle_148 rfl ?_
                  refine ex_if_ltN (tgt := 230) dX10_settle_150 (by decide) (by omega) ?_
                  refine ex_aload_n (i := 0) dX10_settle_153 rfl rfl ?_
                  refine ex_iload dX10_settle_154 rfl ?_
                  refine ex_cV (ν := m_Model_ruleLevel) (a := 56) (ci := 10) (as := [.int (nI (c2))]) dX10_settle_156 ln_Model_186 mf_Model_ruleLevel rfl (Nat.le_of_ble_eq_true rfl) rfl rfl np_Model_ruleLevel rfl rfl ⟨(Nat.le_of_ble_eq_true rfl), (Nat.le_of_ble_eq_true rfl), (Nat.le_of_ble_eq_true rfl), (Nat.le_of_ble_eq_true rfl)⟩ (by decide) ?_
                  refine sp_Model_ruleLevel rg hc2n hlv hlb ?_
                  refine ⟨_, rfl, ?_⟩
                  refine ex_istore (L' := [some (.ref (56)), some (.int (nI (s))), some (.int (nI (x))), some (.int (nI (sh))), some (.int (nI (1 + 1))), some (.int (nI (c2))), some (.int (nI (0))), some (.int (nI (lvS lv (sy c2)))), none]) dX10_settle_159 (by decide) rfl ?_
                  refine ex_aload_n (i := 0) dX10_settle_161 rfl rfl ?_
                  refine ex_getR (v := .ref (60)) dX10_settle_162 fl_Model_19 rfl rfl (by decide) rfl ?_
                  refine ex_iload_n (i := 2) dX10_settle_165 rfl rfl ?_
                  refine ex_ialdN dX10_settle_166 rfl (by decide) (by omega) rfl ?_
                  refine ex_asN (a := lv x) (hlv x hx) ?_
                  refine ex_istore (L' := [some (.ref (56)), some (.int (nI (s))), some (.int (nI (x))), some (.int (nI (sh))), some (.int (nI (1 + 1))), some (.int (nI (c2))), some (.int (nI (0))), some (.int (nI (lvS lv (sy c2)))), some (.int (nI (lv x)))]) dX10_settle_167 (by decide) rfl ?_
                  refine ex_iload dX10_settle_169 rfl ?_
                  refine ex_if_leN (tgt := 230) dX10_settle_171 (by decide) (by omega) (fun h171 => by omega) (fun h171 => ?_)
                  refine ex_iload dX10_settle_174 rfl ?_
                  refine ex_if_leN (tgt := 230) dX10_settle_176 (by decide) (by omega) (fun h176 => by omega) (fun h176 => ?_)
                  refine ex_iload dX10_settle_179 rfl ?_
                  refine ex_iload dX10_settle_181 rfl ?_
                  refine ex_icmp_gtN (tgt := 202) dX10_settle_183 (by decide) (by omega) (by omega) (fun h183 => ?_) (fun h183 => by omega)
                  refine ex_iconst (v := -1) dX10_settle_202 (by decide) ?_
                  refine ex_iload dX10_settle_203 rfl ?_
                  refine ex_isub dX10_settle_205 ?_
                  refine ex_iret dX10_settle_206 rfl rfl ?_
                  exact hQ
                · rw [if_neg gt] at hQ
                  refine ex_iload dX10_settle_138 rfl ?_
                  refine ex_iconst (v := nI 2) dX10_settle_140 (by decide) ?_
                  refine ex_icmp_neN (tgt := 230) dX10_settle_141 (by decide) (by omega) (by omega) (fun h141 => by omega) (fun h141 => ?_)
                  refine ex_iload_n (i := 3) dX10_settle_144 rfl rfl ?_
                  refine ex_if_leN (tgt := 230) dX10_settle_145 (by decide) (by omega) (fun h145 => by omega) (fun h145 => ?_)
                  refine ex_iload dX10_settle_148 rfl ?_
                  refine ex_if_ltN (tgt := 230) dX10_settle_150 (by decide) (by omega) ?_
                  refine ex_aload_n (i := 0) dX10_settle_153 rfl rfl ?_
                  refine ex_iload dX10_settle_154 rfl ?_
                  refine ex_cV (ν := m_Model_ruleLevel) (a := 56) (ci := 10) (as := [.int (nI (c2))]) dX10_settle_156 ln_Model_186 mf_Model_ruleLevel rfl (Nat.le_of_ble_eq_true rfl) rfl rfl np_Model_ruleLevel rfl rfl ⟨(Nat.le_of_ble_eq_true rfl), (Nat.le_of_ble_eq_true rfl), (Nat.le_of_ble_eq_true rfl), (Nat.le_of_ble_eq_true rfl)⟩ (by decide) ?_
                  refine sp_Model_ruleLevel rg hc2n hlv hlb ?_
                  refine ⟨_, rfl, ?_⟩
                  refine ex_istore (L' := [some (.ref (56)), some (.int (nI (s))), some (.int (nI (x))), some (.int (nI (sh))), some (.int (nI (1 + 1))), some (.int (nI (c2))), some (.int (nI (0))), some (.int (nI (lvS lv (sy c2)))), none]) dX10_settle_159 (by decide) rfl ?_
                  refine ex_aload_n (i := 0) dX10_settle_161 rfl rfl ?_
                  refine ex_getR (v := .ref (60)) dX10_settle_162 fl_Model_19 rfl rfl (by decide) rfl ?_
                  refine ex_iload_n (i := 2) dX10_settle_165 rfl rfl ?_
                  refine ex_ialdN dX10_settle_166 rfl (by decide) (by omega) rfl ?_
                  refine ex_asN (a := lv x) (hlv x hx) ?_
                  refine ex_istore (L' := [some (.ref (56)), some (.int (nI (s))), some (.int (nI (x))), some (.int (nI (sh))), some (.int (nI (1 + 1))), some (.int (nI (c2))), some (.int (nI (0))), some (.int (nI (lvS lv (sy c2)))), some (.int (nI (lv x)))]) dX10_settle_167 (by decide) rfl ?_
                  refine ex_iload dX10_settle_169 rfl ?_
                  refine ex_if_leN (tgt := 230) dX10_settle_171 (by decide) (by omega) (fun h171 => by omega) (fun h171 => ?_)
                  refine ex_iload dX10_settle_174 rfl ?_
                  refine ex_if_leN (tgt := 230) dX10_settle_176 (by decide) (by omega) (fun h176 => by omega) (fun h176 => ?_)
                  refine ex_iload dX10_settle_179 rfl ?_
                  refine ex_iload dX10_settle_181 rfl ?_
                  refine ex_icmp_gtN (tgt := 202) dX10_settle_183 (by decide) (by omega) (by omega) (fun h183 => by omega) (fun h183 => ?_)
                  refine ex_iload dX10_settle_186 rfl ?_
                  refine ex_iload dX10_settle_188 rfl ?_
                  refine ex_icmp_neN (tgt := 207) dX10_settle_190 (by decide) (by omega) (by omega) (fun h190 => ?_) (fun h190 => by omega)
                  refine ex_iload dX10_settle_207 rfl ?_
                  refine ex_iload dX10_settle_209 rfl ?_
                  refine ex_icmp_ltN (tgt := 224) dX10_settle_211 (by decide) (by omega) (by omega) (fun h211 => ?_) (fun h211 => by omega)
                  refine ex_iload_n (i := 3) dX10_settle_224 rfl rfl ?_
                  refine ex_goto (tgt := 229) dX10_settle_225 (by decide) ?_
                  refine ex_iret dX10_settle_229 rfl rfl ?_
                  exact hQ
      · have e : dcV (c1, c2) sh (lvS lv (sy c2)) (lv x) (kd x) = nI 1001 := by unfold dcV; rw [if_neg c, if_pos (by show 1 < c1; omega)]
        rw [e] at hQ
        by_cases h0 : sh = 0
        · subst h0
          rw [if_pos rfl, Nat.zero_add]
          refine ex_iload dX10_settle_138 rfl ?_
          refine ex_iconst (v := nI 2) dX10_settle_140 (by decide) ?_
          refine ex_icmp_neN (tgt := 230) dX10_settle_141 (by decide) (by omega) (by omega) (fun h141 => ?_) (fun h141 => ?_)
          · refine ex_iload dX10_settle_230 rfl ?_
            refine ex_if_neN (tgt := 239) dX10_settle_232 (by decide) (by omega) (fun h232 => ?_) (fun h232 => by omega)
            refine ex_iload dX10_settle_239 rfl ?_
            refine ex_iconst (v := nI 1) dX10_settle_241 (by decide) ?_
            refine ex_icmp_leN (tgt := 251) dX10_settle_242 (by decide) (by omega) (by omega) (fun h242 => by omega) (fun h242 => ?_)
            refine ex_sipush (v := nI 1001) dX10_settle_245 (by decide) ?_
            refine ex_goto (tgt := 275) dX10_settle_248 (by decide) ?_
            refine ex_iret dX10_settle_275 rfl rfl ?_
            exact hQ
          · refine ex_iload_n (i := 3) dX10_settle_144 rfl rfl ?_
            refine ex_if_leN (tgt := 230) dX10_settle_145 (by decide) (by omega) (fun h145 => ?_) (fun h145 => by exact absurd h145 (by decide))
            refine ex_iload dX10_settle_230 rfl ?_
            refine ex_if_neN (tgt := 239) dX10_settle_232 (by decide) (by omega) (fun h232 => ?_) (fun h232 => by omega)
            refine ex_iload dX10_settle_239 rfl ?_
            refine ex_iconst (v := nI 1) dX10_settle_241 (by decide) ?_
            refine ex_icmp_leN (tgt := 251) dX10_settle_242 (by decide) (by omega) (by omega) (fun h242 => by omega) (fun h242 => ?_)
            refine ex_sipush (v := nI 1001) dX10_settle_245 (by decide) ?_
            refine ex_goto (tgt := 275) dX10_settle_248 (by decide) ?_
            refine ex_iret dX10_settle_275 rfl rfl ?_
            exact hQ
        · rw [if_neg h0]
          refine ex_iload dX10_settle_138 rfl ?_
          refine ex_iconst (v := nI 2) dX10_settle_140 (by decide) ?_
          refine ex_icmp_neN (tgt := 230) dX10_settle_141 (by decide) (by omega) (by omega) (fun h141 => ?_) (fun h141 => by omega)
          refine ex_iload dX10_settle_230 rfl ?_
          refine ex_if_neN (tgt := 239) dX10_settle_232 (by decide) (by omega) (fun h232 => ?_) (fun h232 => by omega)
          refine ex_iload dX10_settle_239 rfl ?_
          refine ex_iconst (v := nI 1) dX10_settle_241 (by decide) ?_
          refine ex_icmp_leN (tgt := 251) dX10_settle_242 (by decide) (by omega) (by omega) (fun h242 => by omega) (fun h242 => ?_)
          refine ex_sipush (v := nI 1001) dX10_settle_245 (by decide) ?_
          refine ex_goto (tgt := 275) dX10_settle_248 (by decide) ?_
          refine ex_iret dX10_settle_275 rfl rfl ?_
          exact hQ
theorem sp_Model_settle {s x : Nat} {E A : Nat → Nat} {P : Nat → Prop} (rg : RG i n sy) (hn0 : 0 < n) (hS : S ≤ 50) (hs : s < S) (hx : x < 7) (hT : ∀ j, j < 14 * S → i 67 j = nI (TJ j) ∧ TJ j < S) (hE : ∀ j, j < 75 * S → i 65 j = nI (E j) ∧ E j < 2) (hA : Vw i 72 (14 * S) A) (hA2 : ∀ k, A k < 128) (hlv : Vw i 60 7 lv) (hlb : ∀ s, lv s ≤ 9) (hkd : Vw i 61 7 kd) (hkb : ∀ s, kd s ≤ 2)
    (hP : ∀ k, k < n → (P k ↔ E (75 * s + 5 * k + lnR sy k) ≠ 0 ∧ (A (14 * s + k)).testBit x = true)) (hP14 : P 14 ↔ x = 0 ∧ E (75 * s + 71) ≠ 0) (hPn : ∀ k, n ≤ k → k < 14 → ¬ P k)
    (hQ : Q (.ok (some (.int (dcV (rcF P 15) (if x = 0 then 0 else TJ (14 * s + x)) (lvS lv (sy (rcF P 15).2)) (lv x) (kd x))))) (94, g, i, q, RT t)) :
    Wx m_Model_settle 0 [some (.ref 56), some (.int (nI s)), some (.int (nI x)), none, none, none, none, none, none] [] (94, g, i, q, RT t) (0, 0) Q := by
  have gw := rg.2.2.2.2
  have hn := gw.1
  obtain ⟨sh, hsh⟩ : ∃ sh, sh = if x = 0 then 0 else TJ (14 * s + x) := ⟨_, rfl⟩
  have hshS : sh < S := by
    rw [hsh]; split
    · omega
    · exact (hT _ (by omega)).2
  have hsh0 : x = 0 → sh = 0 := fun h => by rw [hsh, if_pos h]
  rw [← hsh] at hQ
  have e14 : rcF P 14 = rcF P n := by
    have := rcF_const (P := P) (n := n) (d := 14 - n) (fun k a b => hPn k a (by omega))
    rw [show n + (14 - n) = 14 by omega] at this; exact this
  have hcl := rcF_le (P := P) (k := n)
  have hcp : (rcF P n).1 ≠ 0 → (rcF P n).2 < n := fun h => (rcF_P h).2
  have E71 := hE (75 * s + 71) (by omega)
  have END : ∀ acc, acc < 2 → (acc = 1 ↔ P 14) → Wx m_Model_settle 130 [some (.ref 56), some (.int (nI s)), some (.int (nI x)), some (.int (nI sh)), some (.int (nI ((if sh = 0 then 0 else 1) + (rcF P n).1))), some (.int (if (rcF P n).1 = 0 then -1 else nI (rcF P n).2)), some (.int (nI acc)), none, none] [] (94, g, i, q, RT t) (0, 0) Q := by
    intro acc ha hacc
    have X := lp_Model_settle_end (g := g) (q := q) (t := t) (Q := Q) (s := s) (x := x) (sh := sh) (c1 := (rcF P n).1) (c2 := (rcF P n).2) (acc := acc) (lv := lv) (kd := kd) rg hn0 hx (by omega) (by omega) hcp ha (fun h => hsh0 (hP14.mp (hacc.mp h)).1) hlv hlb hkd hkb (by
      by_cases p14 : P 14
      · rw [if_pos (hacc.mpr p14)]
        have e15 : rcF P 15 = ((rcF P n).1 + 1, 14) := by rw [show 15 = 14 + 1 from rfl, rcF_yes p14, e14]
        rw [e15] at hQ; exact hQ
      · rw [if_neg (fun z => p14 (hacc.mp z))]
        have e15 : rcF P 15 = rcF P n := by rw [show 15 = 14 + 1 from rfl, rcF_no p14, e14]
        rw [e15] at hQ; exact hQ)
    by_cases a1 : acc = 0
    · subst a1
      rw [Nat.add_zero] at X
      refine ex_iload dX10_settle_130 rfl ?_
      refine ex_if_eqN (tgt := 138) dX10_settle_132 (by decide) (by omega) (fun h132 => ?_) (fun h132 => by exact absurd h132 (by decide))
      exact X
    · have a1 : acc = 1 := by omega
      subst a1
      refine ex_iload dX10_settle_130 rfl ?_
      refine ex_if_eqN (tgt := 138) dX10_settle_132 (by decide) (by omega) (fun h132 => by exact absurd h132 (by decide)) (fun h132 => ?_)
      refine ex_iincN (L' := [some (.ref (56)), some (.int (nI (s))), some (.int (nI (x))), some (.int (nI (sh))), some (.int (nI ((if sh = 0 then 0 else 1) + (rcF P n).1 + 1))), some (.int (if (rcF P n).1 = 0 then -1 else nI (rcF P n).2)), some (.int (nI (1))), none, none]) dX10_settle_135 rfl rfl (by decide) rfl ?_
      exact X
  have LP : ∀ d k cnt rv, k + d = n → cnt = (if sh = 0 then 0 else 1) + (rcF P k).1 → rv = (if (rcF P k).1 = 0 then -1 else nI (rcF P k).2) → Wx m_Model_settle 37 [some (.ref 56), some (.int (nI s)), some (.int (nI x)), some (.int (nI sh)), some (.int (nI cnt)), some (.int rv), some (.int (nI k)), none, none] [] (94, g, i, q, RT t) (0, 0) Q := by
    intro d
    induction d with
    | zero =>
      intro k cnt rv hk hcnt hrv
      have e : k = n := hk
      subst e
      subst hcnt hrv
      by_cases x0 : x = 0
      · by_cases z : E (75 * s + 71) = 0
        · have X := END 0 (by decide) ⟨fun h => absurd h (by decide), fun h => absurd z (hP14.mp h).2⟩
          refine ex_iload dX10_settle_37 rfl ?_
          refine ex_aload_n (i := 0) dX10_settle_39 rfl rfl ?_
          refine ex_getI dX10_settle_40 fl_Model_145 rfl rfl (by decide) ?_
          refine ex_asN (a := k) rg.1 ?_
          refine ex_icmp_geN (tgt := 104) dX10_settle_43 (by decide) (by omega) (by omega) (fun h43 => ?_) (fun h43 => by omega)
          refine ex_iload_n (i := 2) dX10_settle_104 rfl rfl ?_
          refine ex_if_neN (tgt := 127) dX10_settle_105 (by decide) (by omega) (fun h105 => by omega) (fun h105 => ?_)
          refine ex_aload_n (i := 0) dX10_settle_108 rfl rfl ?_
          refine ex_getR (v := .ref (65)) dX10_settle_109 fl_Model_34 rfl rfl (by decide) rfl ?_
          refine ex_bipush (v := nI 75) dX10_settle_112 (by decide) ?_
          refine ex_iload_n (i := 1) dX10_settle_114 rfl rfl ?_
          refine ex_imulN dX10_settle_115 ?_
          refine ex_bipush (v := nI 71) dX10_settle_116 (by decide) ?_
          refine ex_iaddN dX10_settle_118 ?_
          refine ex_baldN dX10_settle_119 rfl (by decide) (by omega) rfl ?_
          refine ex_asN (a := E (75 * s + 71)) E71.1 ?_
          refine ex_if_eqN (tgt := 127) dX10_settle_120 (by decide) (by omega) (fun h120 => ?_) (fun h120 => by exact absurd z h120)
          refine ex_iconst (v := nI 0) dX10_settle_127 (by decide) ?_
          refine ex_istore (L' := [some (.ref (56)), some (.int (nI (s))), some (.int (nI (x))), some (.int (nI (sh))), some (.int (nI ((if sh = 0 then 0 else 1) + (rcF P k).1))), some (.int (if (rcF P k).1 = 0 then -1 else nI (rcF P k).2)), some (.int (nI (0))), none, none]) dX10_settle_128 (by decide) rfl ?_
          exact X
        · have X := END 1 (by decide) ⟨fun _ => hP14.mpr ⟨x0, z⟩, fun _ => rfl⟩
          refine ex_iload dX10_settle_37 rfl ?_
          refine ex_aload_n (i := 0) dX10_settle_39 rfl rfl ?_
          refine ex_getI dX10_settle_40 fl_Model_145 rfl rfl (by decide) ?_
          refine ex_asN (a := k) rg.1 ?_
          refine ex_icmp_geN (tgt := 104) dX10_settle_43 (by decide) (by omega) (by omega) (fun h43 => ?_) (fun h43 => by omega)
          refine ex_iload_n (i := 2) dX10_settle_104 rfl rfl ?_
          refine ex_if_neN (tgt := 127) dX10_settle_105 (by decide) (by omega) (fun h105 => by omega) (fun h105 => ?_)
          refine ex_aload_n (i := 0) dX10_settle_108 rfl rfl ?_
          refine ex_getR (v := .ref (65)) dX10_settle_109 fl_Model_34 rfl rfl (by decide) rfl ?_
          refine ex_bipush (v := nI 75) dX10_settle_112 (by decide) ?_
          refine ex_iload_n (i := 1) dX10_settle_114 rfl rfl ?_
          refine ex_imulN dX10_settle_115 ?_
          refine ex_bipush (v := nI 71) dX10_settle_116 (by decide) ?_
          refine ex_iaddN dX10_settle_118 ?_
          refine ex_baldN dX10_settle_119 rfl (by decide) (by omega) rfl ?_
          refine ex_asN (a := E (75 * s + 71)) E71.1 ?_
          refine ex_if_eqN (tgt := 127) dX10_settle_120 (by decide) (by omega) (fun h120 => by exact absurd h120 z) (fun h120 => ?_)
          refine ex_iconst (v := nI 1) dX10_settle_123 (by decide) ?_
          refine ex_goto (tgt := 128) dX10_settle_124 (by decide) ?_
          refine ex_istore (L' := [some (.ref (56)), some (.int (nI (s))), some (.int (nI (x))), some (.int (nI (sh))), some (.int (nI ((if sh = 0 then 0 else 1) + (rcF P k).1))), some (.int (if (rcF P k).1 = 0 then -1 else nI (rcF P k).2)), some (.int (nI (1))), none, none]) dX10_settle_128 (by decide) rfl ?_
          exact X
      · have X := END 0 (by decide) ⟨fun h => absurd h (by decide), fun h => absurd (hP14.mp h).1 x0⟩
        refine ex_iload dX10_settle_37 rfl ?_
        refine ex_aload_n (i := 0) dX10_settle_39 rfl rfl ?_
        refine ex_getI dX10_settle_40 fl_Model_145 rfl rfl (by decide) ?_
        refine ex_asN (a := k) rg.1 ?_
        refine ex_icmp_geN (tgt := 104) dX10_settle_43 (by decide) (by omega) (by omega) (fun h43 => ?_) (fun h43 => by omega)
        refine ex_iload_n (i := 2) dX10_settle_104 rfl rfl ?_
        refine ex_if_neN (tgt := 127) dX10_settle_105 (by decide) (by omega) (fun h105 => ?_) (fun h105 => by omega)
        refine ex_iconst (v := nI 0) dX10_settle_127 (by decide) ?_
        refine ex_istore (L' := [some (.ref (56)), some (.int (nI (s))), some (.int (nI (x))), some (.int (nI (sh))), some (.int (nI ((if sh = 0 then 0 else 1) + (rcF P k).1))), some (.int (if (rcF P k).1 = 0 then -1 else nI (rcF P k).2)), some (.int (nI (0))), none, none]) dX10_settle_128 (by decide) rfl ?_
        exact X
    | succ d ih =>
      intro k cnt rv hk hcnt hrv
      have hkn : k < n := by omega
      have hl4 := lnR_le sy k
      have e59 := rg.2.2.2.1 k hkn
      have hEk := hE (75 * s + 5 * k + lnR sy k) (by omega)
      have hAk := hA (14 * s + k) (by omega)
      have hA8 := hA2 (14 * s + k)
      have hck := rcF_le (P := P) (k := k)
      have hc100 : cnt < 100 := by rw [hcnt]; split <;> omega
      by_cases z : E (75 * s + 5 * k + lnR sy k) = 0
      · have np : ¬ P k := fun h => ((hP k hkn).mp h).1 z
        have IH := ih (k + 1) cnt rv (by omega) (by rw [rcF_no np]; exact hcnt) (by rw [rcF_no np]; exact hrv)
        refine ex_iload dX10_settle_37 rfl ?_
        refine ex_aload_n (i := 0) dX10_settle_39 rfl rfl ?_
        refine ex_getI dX10_settle_40 fl_Model_145 rfl rfl (by decide) ?_
        refine ex_asN (a := n) rg.1 ?_
        refine ex_icmp_geN (tgt := 104) dX10_settle_43 (by decide) (by omega) (by omega) (fun h43 => by omega) (fun h43 => ?_)
        refine ex_aload_n (i := 0) dX10_settle_46 rfl rfl ?_
        refine ex_getR (v := .ref (65)) dX10_settle_47 fl_Model_34 rfl rfl (by decide) rfl ?_
        refine ex_bipush (v := nI 75) dX10_settle_50 (by decide) ?_
        refine ex_iload_n (i := 1) dX10_settle_52 rfl rfl ?_
        refine ex_imulN dX10_settle_53 ?_
        refine ex_iconst (v := nI 5) dX10_settle_54 (by decide) ?_
        refine ex_iload dX10_settle_55 rfl ?_
        refine ex_imulN dX10_settle_57 ?_
        refine ex_iaddN dX10_settle_58 ?_
        refine ex_aload_n (i := 0) dX10_settle_59 rfl rfl ?_
        refine ex_getR (v := .ref (59)) dX10_settle_60 fl_Model_16 rfl rfl (by decide) rfl ?_
        refine ex_iload dX10_settle_63 rfl ?_
        refine ex_ialdN dX10_settle_65 rfl (by decide) (by omega) rfl ?_
        refine ex_asN (a := lnR sy k) e59 ?_
        refine ex_iaddN dX10_settle_66 ?_
        refine ex_baldN dX10_settle_67 rfl (by decide) (by omega) rfl ?_
        refine ex_asN (a := E (75 * s + 5 * k + lnR sy k)) hEk.1 ?_
        refine ex_if_eqN (tgt := 98) dX10_settle_68 (by decide) (by omega) (fun h68 => ?_) (fun h68 => by exact absurd z h68)
        refine ex_iincN (L' := [some (.ref (56)), some (.int (nI (s))), some (.int (nI (x))), some (.int (nI (sh))), some (.int (nI (cnt))), some (.int (rv)), some (.int (nI (k + 1))), none, none]) dX10_settle_98 rfl rfl (by decide) rfl ?_
        refine ex_goto (tgt := 37) dX10_settle_101 (by decide) ?_
        exact IH
      · by_cases tb : (A (14 * s + k)).testBit x = true
        · have p : P k := (hP k hkn).mpr ⟨z, tb⟩
          have hsft : A (14 * s + k) / 2 ^ x &&& 1 = 1 := by
            have h1 : ¬ (A (14 * s + k) / 2 ^ x &&& 1 = 0) := fun h => tb_shift.mp h tb
            have h2 : A (14 * s + k) / 2 ^ x &&& 1 = A (14 * s + k) / 2 ^ x % 2 := Nat.and_one_is_mod _
            omega
          have IH := ih (k + 1) (cnt + 1) (nI k) (by omega) (by rw [rcF_yes p, hcnt, Nat.add_assoc]) (by rw [rcF_yes p, if_neg (by show ¬ (rcF P k).1 + 1 = 0; omega)])
          refine ex_iload dX10_settle_37 rfl ?_
          refine ex_aload_n (i := 0) dX10_settle_39 rfl rfl ?_
          refine ex_getI dX10_settle_40 fl_Model_145 rfl rfl (by decide) ?_
          refine ex_asN (a := n) rg.1 ?_
          refine ex_icmp_geN (tgt := 104) dX10_settle_43 (by decide) (by omega) (by omega) (fun h43 => by omega) (fun h43 => ?_)
          refine ex_aload_n (i := 0) dX10_settle_46 rfl rfl ?_
          refine ex_getR (v := .ref (65)) dX10_settle_47 fl_Model_34 rfl rfl (by decide) rfl ?_
          refine ex_bipush (v := nI 75) dX10_settle_50 (by decide) ?_
          refine ex_iload_n (i := 1) dX10_settle_52 rfl rfl ?_
          refine ex_imulN dX10_settle_53 ?_
          refine ex_iconst (v := nI 5) dX10_settle_54 (by decide) ?_
          refine ex_iload dX10_settle_55 rfl ?_
          refine ex_imulN dX10_settle_57 ?_
          refine ex_iaddN dX10_settle_58 ?_
          refine ex_aload_n (i := 0) dX10_settle_59 rfl rfl ?_
          refine ex_getR (v := .ref (59)) dX10_settle_60 fl_Model_16 rfl rfl (by decide) rfl ?_
          refine ex_iload dX10_settle_63 rfl ?_
          refine ex_ialdN dX10_settle_65 rfl (by decide) (by omega) rfl ?_
          refine ex_asN (a := lnR sy k) e59 ?_
          refine ex_iaddN dX10_settle_66 ?_
          refine ex_baldN dX10_settle_67 rfl (by decide) (by omega) rfl ?_
          refine ex_asN (a := E (75 * s + 5 * k + lnR sy k)) hEk.1 ?_
          refine ex_if_eqN (tgt := 98) dX10_settle_68 (by decide) (by omega) (fun h68 => by exact absurd h68 z) (fun h68 => ?_)
          refine ex_aload_n (i := 0) dX10_settle_71 rfl rfl ?_
          refine ex_getR (v := .ref (72)) dX10_settle_72 fl_Model_56 rfl rfl (by decide) rfl ?_
          refine ex_bipush (v := nI 14) dX10_settle_75 (by decide) ?_
          refine ex_iload_n (i := 1) dX10_settle_77 rfl rfl ?_
          refine ex_imulN dX10_settle_78 ?_
          refine ex_iload dX10_settle_79 rfl ?_
          refine ex_iaddN dX10_settle_81 ?_
          refine ex_ialdN dX10_settle_82 rfl (by decide) (by omega) rfl ?_
          refine ex_asN (a := A (14 * s + k)) hAk ?_
          refine ex_iload_n (i := 2) dX10_settle_83 rfl rfl ?_
          refine ex_ishrN dX10_settle_84 (by omega) (by omega) ?_
          refine ex_iconst (v := nI 1) dX10_settle_85 (by decide) ?_
          refine ex_iandN dX10_settle_86 ?_
          refine ex_asN (a := 1) (by rw [hsft]) ?_
          refine ex_iconst (v := nI 1) dX10_settle_87 (by decide) ?_
          refine ex_icmp_neN (tgt := 98) dX10_settle_88 (by decide) (by decide) (by decide) (fun h88 => by exact absurd h88 (by decide)) (fun h88 => ?_)
          refine ex_iincN (L' := [some (.ref (56)), some (.int (nI (s))), some (.int (nI (x))), some (.int (nI (sh))), some (.int (nI (cnt + 1))), some (.int (rv)), some (.int (nI (k))), none, none]) dX10_settle_91 rfl rfl (by decide) rfl ?_
          refine ex_iload dX10_settle_94 rfl ?_
          refine ex_istore (L' := [some (.ref (56)), some (.int (nI (s))), some (.int (nI (x))), some (.int (nI (sh))), some (.int (nI (cnt + 1))), some (.int (nI (k))), some (.int (nI (k))), none, none]) dX10_settle_96 (by decide) rfl ?_
          refine ex_iincN (L' := [some (.ref (56)), some (.int (nI (s))), some (.int (nI (x))), some (.int (nI (sh))), some (.int (nI (cnt + 1))), some (.int (nI (k))), some (.int (nI (k + 1))), none, none]) dX10_settle_98 rfl rfl (by decide) rfl ?_
          refine ex_goto (tgt := 37) dX10_settle_101 (by decide) ?_
          exact IH
        · have np : ¬ P k := fun h => tb ((hP k hkn).mp h).2
          have hsft : A (14 * s + k) / 2 ^ x &&& 1 = 0 := tb_shift.mpr tb
          have IH := ih (k + 1) cnt rv (by omega) (by rw [rcF_no np]; exact hcnt) (by rw [rcF_no np]; exact hrv)
          refine ex_iload dX10_settle_37 rfl ?_
          refine ex_aload_n (i := 0) dX10_settle_39 rfl rfl ?_
          refine ex_getI dX10_settle_40 fl_Model_145 rfl rfl (by decide) ?_
          refine ex_asN (a := n) rg.1 ?_
          refine ex_icmp_geN (tgt := 104) dX10_settle_43 (by decide) (by omega) (by omega) (fun h43 => by omega) (fun h43 => ?_)
          refine ex_aload_n (i := 0) dX10_settle_46 rfl rfl ?_
          refine ex_getR (v := .ref (65)) dX10_settle_47 fl_Model_34 rfl rfl (by decide) rfl ?_
          refine ex_bipush (v := nI 75) dX10_settle_50 (by decide) ?_
          refine ex_iload_n (i := 1) dX10_settle_52 rfl rfl ?_
          refine ex_imulN dX10_settle_53 ?_
          refine ex_iconst (v := nI 5) dX10_settle_54 (by decide) ?_
          refine ex_iload dX10_settle_55 rfl ?_
          refine ex_imulN dX10_settle_57 ?_
          refine ex_iaddN dX10_settle_58 ?_
          refine ex_aload_n (i := 0) dX10_settle_59 rfl rfl ?_
          refine ex_getR (v := .ref (59)) dX10_settle_60 fl_Model_16 rfl rfl (by decide) rfl ?_
          refine ex_iload dX10_settle_63 rfl ?_
          refine ex_ialdN dX10_settle_65 rfl (by decide) (by omega) rfl ?_
          refine ex_asN (a := lnR sy k) e59 ?_
          refine ex_iaddN dX10_settle_66 ?_
          refine ex_baldN dX10_settle_67 rfl (by decide) (by omega) rfl ?_
          refine ex_asN (a := E (75 * s + 5 * k + lnR sy k)) hEk.1 ?_
          refine ex_if_eqN (tgt := 98) dX10_settle_68 (by decide) (by omega) (fun h68 => by exact absurd h68 z) (fun h68 => ?_)
          refine ex_aload_n (i := 0) dX10_settle_71 rfl rfl ?_
          refine ex_getR (v := .ref (72)) dX10_settle_72 fl_Model_56 rfl rfl (by decide) rfl ?_
          refine ex_bipush (v := nI 14) dX10_settle_75 (by decide) ?_
          refine ex_iload_n (i := 1) dX10_settle_77 rfl rfl ?_
          refine ex_imulN dX10_settle_78 ?_
          refine ex_iload dX10_settle_79 rfl ?_
          refine ex_iaddN dX10_settle_81 ?_
          refine ex_ialdN dX10_settle_82 rfl (by decide) (by omega) rfl ?_
          refine ex_asN (a := A (14 * s + k)) hAk ?_
          refine ex_iload_n (i := 2) dX10_settle_83 rfl rfl ?_
          refine ex_ishrN dX10_settle_84 (by omega) (by omega) ?_
          refine ex_iconst (v := nI 1) dX10_settle_85 (by decide) ?_
          refine ex_iandN dX10_settle_86 ?_
          refine ex_asN (a := 0) (by rw [hsft]) ?_
          refine ex_iconst (v := nI 1) dX10_settle_87 (by decide) ?_
          refine ex_icmp_neN (tgt := 98) dX10_settle_88 (by decide) (by decide) (by decide) (fun h88 => ?_) (fun h88 => by exact absurd h88 (by decide))
          refine ex_iincN (L' := [some (.ref (56)), some (.int (nI (s))), some (.int (nI (x))), some (.int (nI (sh))), some (.int (nI (cnt))), some (.int (rv)), some (.int (nI (k + 1))), none, none]) dX10_settle_98 rfl rfl (by decide) rfl ?_
          refine ex_goto (tgt := 37) dX10_settle_101 (by decide) ?_
          exact IH
  have L0 : ∀ c0, c0 = (if sh = 0 then 0 else 1) → Wx m_Model_settle 37 [some (.ref 56), some (.int (nI s)), some (.int (nI x)), some (.int (nI sh)), some (.int (nI c0)), some (.int (-1)), some (.int (nI 0)), none, none] [] (94, g, i, q, RT t) (0, 0) Q := fun c0 h0 => LP n 0 c0 (-1) (by omega) (by rw [h0]; rfl) rfl
  by_cases x0 : x = 0
  · have s0 := hsh0 x0
    have X := L0 0 (by rw [if_pos s0])
    rw [s0] at X
    refine ex_iload_n (i := 2) dX10_settle_0 rfl rfl ?_
    refine ex_if_leN (tgt := 18) dX10_settle_1 (by decide) (by omega) (fun h1 => ?_) (fun h1 => by omega)
    refine ex_iconst (v := nI 0) dX10_settle_18 (by decide) ?_
    refine ex_istore_n (L' := [some (.ref (56)), some (.int (nI (s))), some (.int (nI (x))), some (.int (nI (0))), none, none, none, none, none]) dX10_settle_19 (i := 3) rfl (by decide) rfl ?_
    refine ex_iload_n (i := 3) dX10_settle_20 rfl rfl ?_
    refine ex_if_leN (tgt := 28) dX10_settle_21 (by decide) (by omega) (fun h21 => ?_) (fun h21 => by exact absurd h21 (by decide))
    refine ex_iconst (v := nI 0) dX10_settle_28 (by decide) ?_
    refine ex_istore (L' := [some (.ref (56)), some (.int (nI (s))), some (.int (nI (x))), some (.int (nI (0))), some (.int (nI (0))), none, none, none, none]) dX10_settle_29 (by decide) rfl ?_
    refine ex_iconst (v := -1) dX10_settle_31 (by decide) ?_
    refine ex_istore (L' := [some (.ref (56)), some (.int (nI (s))), some (.int (nI (x))), some (.int (nI (0))), some (.int (nI (0))), some (.int ((-1))), none, none, none]) dX10_settle_32 (by decide) rfl ?_
    refine ex_iconst (v := nI 0) dX10_settle_34 (by decide) ?_
    refine ex_istore (L' := [some (.ref (56)), some (.int (nI (s))), some (.int (nI (x))), some (.int (nI (0))), some (.int (nI (0))), some (.int ((-1))), some (.int (nI (0))), none, none]) dX10_settle_35 (by decide) rfl ?_
    exact X
  · have es : sh = TJ (14 * s + x) := by rw [hsh, if_neg x0]
    have e67 := (hT (14 * s + x) (by omega)).1
    by_cases s0 : sh = 0
    · have X := L0 0 (by rw [if_pos s0])
      rw [es] at X s0
      refine ex_iload_n (i := 2) dX10_settle_0 rfl rfl ?_
      refine ex_if_leN (tgt := 18) dX10_settle_1 (by decide) (by omega) (fun h1 => by omega) (fun h1 => ?_)
      refine ex_aload_n (i := 0) dX10_settle_4 rfl rfl ?_
      refine ex_getR (v := .ref (67)) dX10_settle_5 fl_Model_41 rfl rfl (by decide) rfl ?_
      refine ex_bipush (v := nI 14) dX10_settle_8 (by decide) ?_
      refine ex_iload_n (i := 1) dX10_settle_10 rfl rfl ?_
      refine ex_imulN dX10_settle_11 ?_
      refine ex_iload_n (i := 2) dX10_settle_12 rfl rfl ?_
      refine ex_iaddN dX10_settle_13 ?_
      refine ex_ialdN dX10_settle_14 rfl (by decide) (by omega) rfl ?_
      refine ex_asN (a := TJ (14 * s + x)) e67 ?_
      refine ex_goto (tgt := 19) dX10_settle_15 (by decide) ?_
      refine ex_istore_n (L' := [some (.ref (56)), some (.int (nI (s))), some (.int (nI (x))), some (.int (nI (TJ (14 * s + x)))), none, none, none, none, none]) dX10_settle_19 (i := 3) rfl (by decide) rfl ?_
      refine ex_iload_n (i := 3) dX10_settle_20 rfl rfl ?_
      refine ex_if_leN (tgt := 28) dX10_settle_21 (by decide) (by omega) (fun h21 => ?_) (fun h21 => by omega)
      refine ex_iconst (v := nI 0) dX10_settle_28 (by decide) ?_
      refine ex_istore (L' := [some (.ref (56)), some (.int (nI (s))), some (.int (nI (x))), some (.int (nI (TJ (14 * s + x)))), some (.int (nI (0))), none, none, none, none]) dX10_settle_29 (by decide) rfl ?_
      refine ex_iconst (v := -1) dX10_settle_31 (by decide) ?_
      refine ex_istore (L' := [some (.ref (56)), some (.int (nI (s))), some (.int (nI (x))), some (.int (nI (TJ (14 * s + x)))), some (.int (nI (0))), some (.int ((-1))), none, none, none]) dX10_settle_32 (by decide) rfl ?_
      refine ex_iconst (v := nI 0) dX10_settle_34 (by decide) ?_
      refine ex_istore (L' := [some (.ref (56)), some (.int (nI (s))), some (.int (nI (x))), some (.int (nI (TJ (14 * s + x)))), some (.int (nI (0))), some (.int ((-1))), some (.int (nI (0))), none, none]) dX10_settle_35 (by decide) rfl ?_
      exact X
    · have X := L0 1 (by rw [if_neg s0])
      rw [es] at X s0
      refine ex_iload_n (i := 2) dX10_settle_0 rfl rfl ?_
      refine ex_if_leN (tgt := 18) dX10_settle_1 (by decide) (by omega) (fun h1 => by omega) (fun h1 => ?_)
      refine ex_aload_n (i := 0) dX10_settle_4 rfl rfl ?_
      refine ex_getR (v := .ref (67)) dX10_settle_5 fl_Model_41 rfl rfl (by decide) rfl ?_
      refine ex_bipush (v := nI 14) dX10_settle_8 (by decide) ?_
      refine ex_iload_n (i := 1) dX10_settle_10 rfl rfl ?_
      refine ex_imulN dX10_settle_11 ?_
      refine ex_iload_n (i := 2) dX10_settle_12 rfl rfl ?_
      refine ex_iaddN dX10_settle_13 ?_
      refine ex_ialdN dX10_settle_14 rfl (by decide) (by omega) rfl ?_
      refine ex_asN (a := TJ (14 * s + x)) e67 ?_
      refine ex_goto (tgt := 19) dX10_settle_15 (by decide) ?_
      refine ex_istore_n (L' := [some (.ref (56)), some (.int (nI (s))), some (.int (nI (x))), some (.int (nI (TJ (14 * s + x)))), none, none, none, none, none]) dX10_settle_19 (i := 3) rfl (by decide) rfl ?_
      refine ex_iload_n (i := 3) dX10_settle_20 rfl rfl ?_
      refine ex_if_leN (tgt := 28) dX10_settle_21 (by decide) (by omega) (fun h21 => by omega) (fun h21 => ?_)
      refine ex_iconst (v := nI 1) dX10_settle_24 (by decide) ?_
      refine ex_goto (tgt := 29) dX10_settle_25 (by decide) ?_
      refine ex_istore (L' := [some (.ref (56)), some (.int (nI (s))), some (.int (nI (x))), some (.int (nI (TJ (14 * s + x)))), some (.int (nI (1))), none, none, none, none]) dX10_settle_29 (by decide) rfl ?_
      refine ex_iconst (v := -1) dX10_settle_31 (by decide) ?_
      refine ex_istore (L' := [some (.ref (56)), some (.int (nI (s))), some (.int (nI (x))), some (.int (nI (TJ (14 * s + x)))), some (.int (nI (1))), some (.int ((-1))), none, none, none]) dX10_settle_32 (by decide) rfl ?_
      refine ex_iconst (v := nI 0) dX10_settle_34 (by decide) ?_
      refine ex_istore (L' := [some (.ref (56)), some (.int (nI (s))), some (.int (nI (x))), some (.int (nI (TJ (14 * s + x)))), some (.int (nI (1))), some (.int ((-1))), some (.int (nI (0))), none, none]) dX10_settle_35 (by decide) rfl ?_
      exact X
end S72
