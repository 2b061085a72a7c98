/-! ===== the public methods: parse ===== -/
section S54
variable {ζ g : Nat} {i : Nat → Nat → Int32} {q : Nat → Nat → Int64} {t : Bool} {Q : xRes → xMem → Prop} {n : Nat} {sy : Nat → Nat → Nat} {op xp yp : Nat → Nat} {D : Nat → Nat → Int32} {G : Nat → Nat → Nat} {nt : Nat} {TT : Nat → Nat}
/-- the tree that came out, its attributes and the order in which they can be worked out -/
def PT (n : Nat) (sy : Nat → Nat → Nat) (op xp yp : Nat → Nat) (nt : Nat) (vl : Nat → Int32) (md : Nat) (nd tk : Nat → Int32) (val : Nat → Int64) : Prop := ∃ tb rl pa ch rk, TW n sy md nd tb rl pa ch ∧ AC md tb rl pa ch op xp yp rk ∧ SOL md tb rl pa ch op xp yp val ∧
  (∀ j, j < md → tb j = true → nd (j * 8 + 1) < 0 ∧ ∀ b, b < nt → tk j = nI b → val (j * 3) = (vl b).toInt64 ∧ val (j * 3 + 1) = (nI b).toInt64 ∧ val (j * 3 + 2) = 0)
theorem rt_swap_46 : xUR (xUR (RT true) 0 5 (.ref 46)) 0 6 (.ref 51) = RT false := by
  funext a k
  unfold xUR RT
  by_cases h : a = 0
  · subst h
    by_cases h6 : k = 6
    · subst h6; rfl
    · by_cases h5 : k = 5
      · subst h5; rfl
      · simp [h5, h6]
  · simp [h]
theorem rt_swap_51 : xUR (xUR (RT false) 0 5 (.ref 51)) 0 6 (.ref 46) = RT true := by
  funext a k
  unfold xUR RT
  by_cases h : a = 0
  · subst h
    by_cases h6 : k = 6
    · subst h6; rfl
    · by_cases h5 : k = 5
      · subst h5; rfl
      · simp [h5, h6]
  · simp [h]
theorem nI_ne1 {k : Nat} (h : k < 2 ^ 31) (e : nI k = -1) : False := nI_pos h (by rw [e]; decide)
theorem nI_ne2 {k : Nat} (h : k < 2 ^ 31) (e : nI k = -2) : False := nI_pos h (by rw [e]; decide)
theorem ex_rr {μ : xMeth} {pc : Nat} {L : xLoc} {st : List Value} {n g : Nat} {i : Nat → Nat → Int32} {q : Nat → Nat → Int64} {r r' : Nat → Nat → Value} {K : Nat × Nat} {Q : xRes → xMem → Prop} (h : r = r') (k : Wx μ pc L st (n, g, i, q, r') K Q) : Wx μ pc L st (n, g, i, q, r) K Q := by rw [h]; exact k
theorem sp_Works_parse_46 {b cj f : Nat} {R : Int32 → Nat → (Nat → Int32) → (Nat → Int32) → Prop} {ss sn : Nat → Nat} {tk0 : Nat → Int32} (sc : SC i) (gs : GS i n sy) (es : ES i op xp yp) (ev : EV n sy op xp yp) (h7 : i 0 7 = nI b) (hb : b ≤ 1) (hcj : b = 1 → i 16 7 = nI cj ∧ cj < 4096) (hf : b = 1 → i 27 3 = nI f ∧ f < 2)
    (h6 : i 32 6 = nI nt) (hnt : nt ≤ 40) (hTT : ∀ j, j < nt → i 34 j = nI (TT j) ∧ 1 ≤ TT j ∧ TT j ≤ 6) (hD : b = 1 → ∀ s x, s < 50 → x < 7 → i 26 (s * 7 + x) = D s x) (hG : b = 1 → ∀ s x, s < 50 → 8 ≤ x → x < 14 → i 24 (s * 14 + x) = nI (G s x))
    (hL : b = 1 → cj = 0 → f = 0 → LrP D G n sy nt TT R 150 0 1 0 (upN ss 0 0) sn (i 48) tk0)
    (hRo : ∀ o md nd tk, R o md nd tk → o = -1 ∨ o = -2 ∨ ∃ k, k ≤ nt ∧ o = nI k)
    (hRt : ∀ md nd tk, R (-1) md nd tk → ∃ val, PT n sy op xp yp nt (i 36) md nd tk val)
    (hX0 : b = 0 ∨ (b = 1 ∧ (0 < cj ∨ f = 1)) → Q (.error "java/lang/IllegalStateException") (56 + ζ, g + 1, i, q, RT true))
    (hXo : b = 1 → cj = 0 → f = 0 → ∀ md nd tk i1 q1, R (-2) md nd tk → Fr [0, 32, 38, 40, 46, 48] i i1 → i1 0 7 = nI b → i1 0 8 = -1 → i1 32 6 = nI 0 → (∀ c, c ≠ 50 → q1 c = q c) → Q (.error "java/lang/UnsupportedOperationException") (56 + ζ, g + 1, i1, q1, RT true))
    (hXf : b = 1 → cj = 0 → f = 0 → ∀ k md nd tk i1 q1, R (nI k) md nd tk → k ≤ nt → Fr [0, 32, 38, 40, 46, 48] i i1 → i1 0 7 = nI b → i1 0 8 = nI k → i1 32 6 = nI 0 → (∀ c, c ≠ 50 → q1 c = q c) → Q (.error "java/lang/IllegalArgumentException") (56 + ζ, g + 1, i1, q1, RT true))
    (hQ : b = 1 → cj = 0 → f = 0 → ∀ md nd tk val i1 q1, R (-1) md nd tk → PT n sy op xp yp nt (i 36) md nd tk val → Fr [0, 32, 38, 40, 43, 45, 46, 48] i i1 → i1 0 7 = nI b → i1 0 8 = -1 → i1 32 6 = nI 0 → i1 46 2 = nI md → md ≤ 150 → i1 48 = nd → (∀ c, c ≠ 50 → q1 c = q c) → (∀ s, s < 3 * md → q1 50 s = val s) → Q (.ok (some (.int (nI md)))) (56 + ζ, g, i1, q1, RT false)) :
    Wx m_Works_parse 0 [some (.ref 0), none, none] [] (56 + ζ, g, i, q, RT true) (1, 6) Q := by
  have hn14 := gs.2.2.1
  by_cases b0 : b = 0
  · subst b0
    refine ex_aload_n (i := 0) dX9_parse_0 rfl rfl ?_
    refine ex_getI dX9_parse_1 fl_Works_58 rfl rfl (l56 (by decide)) ?_
    refine ex_asN (a := 0) h7 ?_
    refine ex_if_neN (tgt := 17) dX9_parse_4 (by decide) (by omega) (fun h4 => by exact absurd h4 (by decide)) (fun h4 => ?_)
    refine ex_throw th_Works_parse_7 (by decide) ?_
    exact hX0 (Or.inl rfl)
  · have b1 : b = 1 := by omega
    subst b1
    obtain ⟨c1, c2⟩ := hcj rfl
    obtain ⟨f1, f2⟩ := hf rfl
    have hD := hD rfl
    have hG := hG rfl
    by_cases c0 : 0 < cj
    ·
      refine ex_aload_n (i := 0) dX9_parse_0 rfl rfl ?_
      refine ex_getI dX9_parse_1 fl_Works_58 rfl rfl (l56 (by decide)) ?_
      refine ex_asN (a := 1) h7 ?_
      refine ex_if_neN (tgt := 17) dX9_parse_4 (by decide) (by omega) (fun h4 => ?_) (fun h4 => by exact absurd h4 (by decide))
      refine ex_aload_n (i := 0) dX9_parse_17 rfl rfl ?_
      refine ex_getR (v := .ref (16)) dX9_parse_18 fl_Works_21 rfl rfl (l56 (by decide)) rfl ?_
      refine ex_cV (ν := m_States_conflicts) (a := 16) (ci := 7) (as := []) dX9_parse_21 ln_Works_200 mf_States_conflicts rfl (l56 (by decide)) rfl rfl np_States_conflicts rfl rfl ⟨(Nat.le_of_ble_eq_true rfl), (Nat.le_of_ble_eq_true rfl), (Nat.le_of_ble_eq_true rfl), (Nat.le_of_ble_eq_true rfl)⟩ (by decide) ?_
      refine sp_States_conflicts ?_
      refine ⟨_, rfl, ?_⟩
      refine ex_asN (a := cj) c1 ?_
      refine ex_if_leN (tgt := 37) dX9_parse_24 (by decide) (by omega) (fun h24 => by omega) (fun h24 => ?_)
      refine ex_throw th_Works_parse_27 (by decide) ?_
      exact hX0 (Or.inr ⟨rfl, Or.inl c0⟩)
    · have cj0 : cj = 0 := by omega
      by_cases f0 : f = 1
      · subst f0
        refine ex_aload_n (i := 0) dX9_parse_0 rfl rfl ?_
        refine ex_getI dX9_parse_1 fl_Works_58 rfl rfl (l56 (by decide)) ?_
        refine ex_asN (a := 1) h7 ?_
        refine ex_if_neN (tgt := 17) dX9_parse_4 (by decide) (by omega) (fun h4 => ?_) (fun h4 => by exact absurd h4 (by decide))
        refine ex_aload_n (i := 0) dX9_parse_17 rfl rfl ?_
        refine ex_getR (v := .ref (16)) dX9_parse_18 fl_Works_21 rfl rfl (l56 (by decide)) rfl ?_
        refine ex_cV (ν := m_States_conflicts) (a := 16) (ci := 7) (as := []) dX9_parse_21 ln_Works_200 mf_States_conflicts rfl (l56 (by decide)) rfl rfl np_States_conflicts rfl rfl ⟨(Nat.le_of_ble_eq_true rfl), (Nat.le_of_ble_eq_true rfl), (Nat.le_of_ble_eq_true rfl), (Nat.le_of_ble_eq_true rfl)⟩ (by decide) ?_
        refine sp_States_conflicts ?_
        refine ⟨_, rfl, ?_⟩
        refine ex_asN (a := cj) c1 ?_
        refine ex_if_leN (tgt := 37) dX9_parse_24 (by decide) (by omega) (fun h24 => ?_) (fun h24 => by omega)
        refine ex_aload_n (i := 0) dX9_parse_37 rfl rfl ?_
        refine ex_getR (v := .ref (27)) dX9_parse_38 fl_Works_28 rfl rfl (l56 (by decide)) rfl ?_
        refine ex_cV (ν := m_Rings_areFound) (a := 27) (ci := 5) (as := []) dX9_parse_41 ln_Works_205 mf_Rings_areFound rfl (l56 (by decide)) rfl rfl np_Rings_areFound rfl rfl ⟨(Nat.le_of_ble_eq_true rfl), (Nat.le_of_ble_eq_true rfl), (Nat.le_of_ble_eq_true rfl), (Nat.le_of_ble_eq_true rfl)⟩ (by decide) ?_
        refine sp_Rings_areFound (by rw [f1]; exact Or.inr (by decide)) ?_
        refine ⟨_, rfl, ?_⟩
        refine ex_asN (a := 1) f1 ?_
        refine ex_if_eqN (tgt := 57) dX9_parse_44 (by decide) (by omega) (fun h44 => by exact absurd h44 (by decide)) (fun h44 => ?_)
        refine ex_throw th_Works_parse_47 (by decide) ?_
        exact hX0 (Or.inr ⟨rfl, Or.inr rfl⟩)
      · have fz : f = 0 := by omega
        subst fz
        have hL := hL rfl cj0 rfl
        have TAIL : ∀ md i2 q2, i2 46 2 = nI md → Q (.ok (some (.int (nI md)))) (56 + ζ, g, i2, q2, RT false) → Wx m_Works_parse 149 [some (.ref 0), some (.int (-1)), some (.ref 51)] [] (56 + ζ, g, i2, q2, RT false) (1, 6) Q := by
          intro md i2 q2 e22 HQ
          refine ex_aload_n (i := 0) dX9_parse_149 rfl rfl ?_
          refine ex_getR (v := .ref (46)) dX9_parse_150 fl_Works_51 rfl rfl (l56 (by decide)) rfl ?_
          refine ex_cV (ν := m_Tree_size) (a := 46) (ci := 8) (as := []) dX9_parse_153 ln_Works_225 mf_Tree_size rfl (l56 (by decide)) rfl rfl np_Tree_size rfl rfl ⟨(Nat.le_of_ble_eq_true rfl), (Nat.le_of_ble_eq_true rfl), (Nat.le_of_ble_eq_true rfl), (Nat.le_of_ble_eq_true rfl)⟩ (by decide) ?_
          refine sp_Tree_size_46 ?_
          refine ⟨_, rfl, ?_⟩
          refine ex_asN (a := md) e22 ?_
          refine ex_K0 ?_
          refine ex_iret dX9_parse_156 rfl rfl ?_
          exact HQ
        have RUN : ∀ o md nd tk i1 q1, R o md nd tk → Fr [32, 38, 40, 46, 48] i i1 → i1 32 6 = i 32 6 → i1 46 2 = nI md → md ≤ 150 → i1 48 = nd → (∀ c, c ≠ 50 → q1 c = q c) → tvQ 50 i q1 nt md nd tk → Wx m_Works_parse 68 [some (.ref 0), none, none] [.int o] (56 + ζ, g, i1, q1, RT true) (1, 6) Q := by
          intro o md nd tk i1 q1 hR hfr e6 e2 hmd eF hq hv
          have e7 : i1 0 7 = nI 1 := by rw [hfr 0 (by decide)]; exact h7
          have hfA : Fr [0, 32, 38, 40, 46, 48] i i1 := hfr.mono (by decide)
          rcases hRo o md nd tk hR with rfl | rfl | ⟨k, hk, rfl⟩
          · obtain ⟨val, hPT⟩ := hRt md nd tk hR
            obtain ⟨tb, rl, pa, ch, rk, hTW, hAC, hSOL, htok⟩ := id hPT
            have scf : ∀ {i' : Nat → Nat → Int32}, Fr [0, 32, 38, 40, 46, 48] i i' → SC i' := fun h => SC_Fr (l := [0, 32, 38, 40, 46, 48]) rfl h sc
            refine ex_istore_n (L' := [some (.ref (0)), some (.int ((-1))), none]) dX9_parse_68 (i := 1) rfl (by decide) rfl ?_
            refine ex_aload_n (i := 0) dX9_parse_69 rfl rfl ?_
            refine ex_getR (v := .ref (32)) dX9_parse_70 fl_Works_37 rfl rfl (l56 (by decide)) rfl ?_
            refine ex_cV (ν := m_Parser_dropTokens) (a := 32) (ci := 4) (as := []) dX9_parse_73 ln_Works_214 mf_Parser_dropTokens rfl (l56 (by decide)) rfl rfl np_Parser_dropTokens rfl rfl ⟨(Nat.le_of_ble_eq_true rfl), (Nat.le_of_ble_eq_true rfl), (Nat.le_of_ble_eq_true rfl), (Nat.le_of_ble_eq_true rfl)⟩ (by decide) ?_
            refine sp_Parser_dropTokens ?_
            refine ⟨_, rfl, ?_⟩
            refine ex_aload_n (i := 0) dX9_parse_76 rfl rfl ?_
            refine ex_iload_n (i := 1) dX9_parse_77 rfl rfl ?_
            refine ex_if_lt (tgt := 85) dX9_parse_78 (by decide) (fun h78 => ?_) (fun h78 => by exact absurd h78 (by decide))
            refine ex_iconst (v := -1) dX9_parse_85 (by decide) ?_
            refine ex_putI dX9_parse_86 fl_Works_62 cf_9 rfl (Or.inl rfl) rfl rfl rfl (l56 (by decide)) ?_
            refine ex_iload_n (i := 1) dX9_parse_89 rfl rfl ?_
            refine ex_bipush (v := -2) dX9_parse_90 (by decide) ?_
            refine ex_icmp_ne (tgt := 105) dX9_parse_92 (by decide) (fun h92 => ?_) (fun h92 => by exact absurd h92 (by decide))
            refine ex_iload_n (i := 1) dX9_parse_105 rfl rfl ?_
            refine ex_iconst (v := -1) dX9_parse_106 (by decide) ?_
            refine ex_icmp_eq (tgt := 120) dX9_parse_107 (by decide) (fun h107 => ?_) (fun h107 => by exact absurd rfl h107)
            refine ex_aload_n (i := 0) dX9_parse_120 rfl rfl ?_
            refine ex_getR (v := .ref (41)) dX9_parse_121 fl_Works_44 rfl rfl (l56 (by decide)) rfl ?_
            refine ex_aload_n (i := 0) dX9_parse_124 rfl rfl ?_
            refine ex_getR (v := .ref (46)) dX9_parse_125 fl_Works_55 rfl rfl (l56 (by decide)) rfl ?_
            refine ex_cV (ν := m_Evaluator_evaluate) (a := 41) (ci := 0) (as := [.ref (46)]) dX9_parse_128 ln_Works_221 mf_Evaluator_evaluate rfl (l56 (by decide)) rfl rfl np_Evaluator_evaluate rfl rfl ⟨(Nat.le_of_ble_eq_true rfl), (Nat.le_of_ble_eq_true rfl), (Nat.le_of_ble_eq_true rfl), (Nat.le_of_ble_eq_true rfl)⟩ (by decide) ?_
            refine sp_Evaluator_evaluate_46 (nd := nd) (val := val) (rk := rk) hn14 (scf ((hfA.U (by decide)).U (by decide))) (es.fr ((hfA.U (by decide)).U (by decide)) (by decide) (by decide) (by decide)) ev hTW hAC hSOL ?_ ?_ ?_ (fun i2 q2 g1 g2 g3 => ?_)
            · rw [xU_ne _ _ _ (show (48 : Nat) ≠ 0 by decide), xU_ne _ _ _ (show (48 : Nat) ≠ 32 by decide)]; exact eF
            · rw [xU_ne _ _ _ (show (46 : Nat) ≠ 0 by decide), xU_ne _ _ _ (show (46 : Nat) ≠ 32 by decide)]; exact e2
            · intro s hs htb
              have hj : s / 3 < md := by omega
              obtain ⟨t1, t2⟩ := htok (s / 3) hj htb
              obtain ⟨b, v1, v2, v3, v4, v5⟩ := hv (s / 3) hj t1
              obtain ⟨w1, w2, w3⟩ := t2 b v1 v2
              rcases (show s = s / 3 * 3 ∨ s = s / 3 * 3 + 1 ∨ s = s / 3 * 3 + 2 by omega) with e | e | e
              · rw [e, v3, w1]
              · rw [e, v4, w2]
              · rw [e, v5, w3]
            refine ⟨_, rfl, ?_⟩
            refine ex_aload_n (i := 0) dX9_parse_131 rfl rfl ?_
            refine ex_getR (v := .ref (51)) dX9_parse_132 fl_Works_51 rfl rfl (l56 (by decide)) rfl ?_
            refine ex_astore_n (L' := [some (.ref (0)), some (.int ((-1))), some (.ref (51))]) dX9_parse_135 (i := 2) rfl (by decide) rfl ?_
            refine ex_aload_n (i := 0) dX9_parse_136 rfl rfl ?_
            refine ex_aload_n (i := 0) dX9_parse_137 rfl rfl ?_
            refine ex_getR (v := .ref (46)) dX9_parse_138 fl_Works_55 rfl rfl (l56 (by decide)) rfl ?_
            refine ex_putR dX9_parse_141 fl_Works_51 cf_9 rfl (Or.inl rfl) (fun _ => rfl) (fun _ => rfl) ⟨_, rfl⟩ rfl (l56 (by decide)) ?_
            refine ex_aload_n (i := 0) dX9_parse_144 rfl rfl ?_
            refine ex_aload_n (i := 2) dX9_parse_145 rfl rfl ?_
            refine ex_putR dX9_parse_146 fl_Works_55 cf_9 rfl (Or.inl rfl) (fun _ => rfl) (fun _ => rfl) ⟨_, rfl⟩ rfl (l56 (by decide)) ?_
            refine ex_rr rt_swap_46 (TAIL md i2 q2 ?_ ?_)
            · rw [g1 46 (by decide), xU_ne _ _ _ (show (46 : Nat) ≠ 0 by decide), xU_ne _ _ _ (show (46 : Nat) ≠ 32 by decide)]; exact e2
            · refine hQ rfl cj0 rfl md nd tk val i2 q2 hR hPT ((((hfA.U (by decide)).U (by decide)).mono (by decide)).tr (g1.mono (by decide))) ?_ ?_ ?_ ?_ hmd ?_ (fun c hc => (g2 c hc).trans (hq c hc)) g3
              · rw [g1 0 (by decide), xU_at, xU_ne _ _ _ (show (0 : Nat) ≠ 32 by decide)]; simp [upd, e7]
              · rw [g1 0 (by decide), xU_at]; simp [upd]
              · rw [g1 32 (by decide), xU_ne _ _ _ (show (32 : Nat) ≠ 0 by decide), xU_at]; simp [upd]
              · rw [g1 46 (by decide), xU_ne _ _ _ (show (46 : Nat) ≠ 0 by decide), xU_ne _ _ _ (show (46 : Nat) ≠ 32 by decide)]; exact e2
              · rw [g1 48 (by decide), xU_ne _ _ _ (show (48 : Nat) ≠ 0 by decide), xU_ne _ _ _ (show (48 : Nat) ≠ 32 by decide)]; exact eF
          · 
            refine ex_istore_n (L' := [some (.ref (0)), some (.int ((-2))), none]) dX9_parse_68 (i := 1) rfl (by decide) rfl ?_
            refine ex_aload_n (i := 0) dX9_parse_69 rfl rfl ?_
            refine ex_getR (v := .ref (32)) dX9_parse_70 fl_Works_37 rfl rfl (l56 (by decide)) rfl ?_
            refine ex_cV (ν := m_Parser_dropTokens) (a := 32) (ci := 4) (as := []) dX9_parse_73 ln_Works_214 mf_Parser_dropTokens rfl (l56 (by decide)) rfl rfl np_Parser_dropTokens rfl rfl ⟨(Nat.le_of_ble_eq_true rfl), (Nat.le_of_ble_eq_true rfl), (Nat.le_of_ble_eq_true rfl), (Nat.le_of_ble_eq_true rfl)⟩ (by decide) ?_
            refine sp_Parser_dropTokens ?_
            refine ⟨_, rfl, ?_⟩
            refine ex_aload_n (i := 0) dX9_parse_76 rfl rfl ?_
            refine ex_iload_n (i := 1) dX9_parse_77 rfl rfl ?_
            refine ex_if_lt (tgt := 85) dX9_parse_78 (by decide) (fun h78 => ?_) (fun h78 => by exact absurd h78 (by decide))
            refine ex_iconst (v := -1) dX9_parse_85 (by decide) ?_
            refine ex_putI dX9_parse_86 fl_Works_62 cf_9 rfl (Or.inl rfl) rfl rfl rfl (l56 (by decide)) ?_
            refine ex_iload_n (i := 1) dX9_parse_89 rfl rfl ?_
            refine ex_bipush (v := -2) dX9_parse_90 (by decide) ?_
            refine ex_icmp_ne (tgt := 105) dX9_parse_92 (by decide) (fun h92 => by exact absurd rfl h92) (fun h92 => ?_)
            refine ex_throw th_Works_parse_95 (by decide) ?_
            exact hXo rfl cj0 rfl md nd tk _ _ hR ((hfA.U (by decide)).U (by decide)) (by rw [xU_at, xU_ne _ _ _ (show (0 : Nat) ≠ 32 by decide)]; simp [upd, e7]) (by rw [xU_at]; simp [upd]) (by rw [xU_ne _ _ _ (show (32 : Nat) ≠ 0 by decide), xU_at]; simp [upd]) hq
          ·
            refine ex_istore_n (L' := [some (.ref (0)), some (.int (nI (k))), none]) dX9_parse_68 (i := 1) rfl (by decide) rfl ?_
            refine ex_aload_n (i := 0) dX9_parse_69 rfl rfl ?_
            refine ex_getR (v := .ref (32)) dX9_parse_70 fl_Works_37 rfl rfl (l56 (by decide)) rfl ?_
            refine ex_cV (ν := m_Parser_dropTokens) (a := 32) (ci := 4) (as := []) dX9_parse_73 ln_Works_214 mf_Parser_dropTokens rfl (l56 (by decide)) rfl rfl np_Parser_dropTokens rfl rfl ⟨(Nat.le_of_ble_eq_true rfl), (Nat.le_of_ble_eq_true rfl), (Nat.le_of_ble_eq_true rfl), (Nat.le_of_ble_eq_true rfl)⟩ (by decide) ?_
            refine sp_Parser_dropTokens ?_
            refine ⟨_, rfl, ?_⟩
            refine ex_aload_n (i := 0) dX9_parse_76 rfl rfl ?_
            refine ex_iload_n (i := 1) dX9_parse_77 rfl rfl ?_
            refine ex_if_ltN (tgt := 85) dX9_parse_78 (by decide) (by omega) ?_
            refine ex_iload_n (i := 1) dX9_parse_81 rfl rfl ?_
            refine ex_goto (tgt := 86) dX9_parse_82 (by decide) ?_
            refine ex_putI dX9_parse_86 fl_Works_62 cf_9 rfl (Or.inl rfl) rfl rfl rfl (l56 (by decide)) ?_
            refine ex_iload_n (i := 1) dX9_parse_89 rfl rfl ?_
            refine ex_bipush (v := -2) dX9_parse_90 (by decide) ?_
            refine ex_icmp_ne (tgt := 105) dX9_parse_92 (by decide) (fun h92 => ?_) (fun h92 => by exact (nI_ne2 (by omega) h92).elim)
            refine ex_iload_n (i := 1) dX9_parse_105 rfl rfl ?_
            refine ex_iconst (v := -1) dX9_parse_106 (by decide) ?_
            refine ex_icmp_eq (tgt := 120) dX9_parse_107 (by decide) (fun h107 => by exact (nI_ne1 (by omega) h107).elim) (fun h107 => ?_)
            refine ex_throw th_Works_parse_110 (by decide) ?_
            exact hXf rfl cj0 rfl k md nd tk _ _ hR hk ((hfA.U (by decide)).U (by decide)) (by rw [xU_at, xU_ne _ _ _ (show (0 : Nat) ≠ 32 by decide)]; simp [upd, e7]) (by rw [xU_at]; simp [upd]) (by rw [xU_ne _ _ _ (show (32 : Nat) ≠ 0 by decide), xU_at]; simp [upd]) hq
        refine ex_aload_n (i := 0) dX9_parse_0 rfl rfl ?_
        refine ex_getI dX9_parse_1 fl_Works_58 rfl rfl (l56 (by decide)) ?_
        refine ex_asN (a := 1) h7 ?_
        refine ex_if_neN (tgt := 17) dX9_parse_4 (by decide) (by omega) (fun h4 => ?_) (fun h4 => by exact absurd h4 (by decide))
        refine ex_aload_n (i := 0) dX9_parse_17 rfl rfl ?_
        refine ex_getR (v := .ref (16)) dX9_parse_18 fl_Works_21 rfl rfl (l56 (by decide)) rfl ?_
        refine ex_cV (ν := m_States_conflicts) (a := 16) (ci := 7) (as := []) dX9_parse_21 ln_Works_200 mf_States_conflicts rfl (l56 (by decide)) rfl rfl np_States_conflicts rfl rfl ⟨(Nat.le_of_ble_eq_true rfl), (Nat.le_of_ble_eq_true rfl), (Nat.le_of_ble_eq_true rfl), (Nat.le_of_ble_eq_true rfl)⟩ (by decide) ?_
        refine sp_States_conflicts ?_
        refine ⟨_, rfl, ?_⟩
        refine ex_asN (a := cj) c1 ?_
        refine ex_if_leN (tgt := 37) dX9_parse_24 (by decide) (by omega) (fun h24 => ?_) (fun h24 => by omega)
        refine ex_aload_n (i := 0) dX9_parse_37 rfl rfl ?_
        refine ex_getR (v := .ref (27)) dX9_parse_38 fl_Works_28 rfl rfl (l56 (by decide)) rfl ?_
        refine ex_cV (ν := m_Rings_areFound) (a := 27) (ci := 5) (as := []) dX9_parse_41 ln_Works_205 mf_Rings_areFound rfl (l56 (by decide)) rfl rfl np_Rings_areFound rfl rfl ⟨(Nat.le_of_ble_eq_true rfl), (Nat.le_of_ble_eq_true rfl), (Nat.le_of_ble_eq_true rfl), (Nat.le_of_ble_eq_true rfl)⟩ (by decide) ?_
        refine sp_Rings_areFound (by rw [f1]; exact Or.inl (by decide)) ?_
        refine ⟨_, rfl, ?_⟩
        refine ex_asN (a := 0) f1 ?_
        refine ex_if_eqN (tgt := 57) dX9_parse_44 (by decide) (by omega) (fun h44 => ?_) (fun h44 => by exact absurd h44 (by decide))
        refine ex_aload_n (i := 0) dX9_parse_57 rfl rfl ?_
        refine ex_getR (v := .ref (32)) dX9_parse_58 fl_Works_37 rfl rfl (l56 (by decide)) rfl ?_
        refine ex_aload_n (i := 0) dX9_parse_61 rfl rfl ?_
        refine ex_getR (v := .ref (46)) dX9_parse_62 fl_Works_55 rfl rfl (l56 (by decide)) rfl ?_
        refine ex_cV (ν := m_Parser_run) (a := 32) (ci := 4) (as := [.ref (46)]) dX9_parse_65 ln_Works_210 mf_Parser_run rfl (l56 (by decide)) rfl rfl np_Parser_run rfl rfl ⟨(Nat.le_of_ble_eq_true rfl), (Nat.le_of_ble_eq_true rfl), (Nat.le_of_ble_eq_true rfl), (Nat.le_of_ble_eq_true rfl)⟩ (by decide) ?_
        refine sp_Parser_run_46 sc gs h6 hnt hTT hD hG hL (fun o md nd tk i1 q1 r1 r2 r3 r4 r5 r6 r7 r8 => ?_)
        refine ⟨_, rfl, ?_⟩
        exact RUN o md nd tk i1 q1 r1 r2 r3 r4 r5 r6 r7 r8
theorem sp_Works_parse_51 {b cj f : Nat} {R : Int32 → Nat → (Nat → Int32) → (Nat → Int32) → Prop} {ss sn : Nat → Nat} {tk0 : Nat → Int32} (sc : SC i) (gs : GS i n sy) (es : ES i op xp yp) (ev : EV n sy op xp yp) (h7 : i 0 7 = nI b) (hb : b ≤ 1) (hcj : b = 1 → i 16 7 = nI cj ∧ cj < 4096) (hf : b = 1 → i 27 3 = nI f ∧ f < 2)
    (h6 : i 32 6 = nI nt) (hnt : nt ≤ 40) (hTT : ∀ j, j < nt → i 34 j = nI (TT j) ∧ 1 ≤ TT j ∧ TT j ≤ 6) (hD : b = 1 → ∀ s x, s < 50 → x < 7 → i 26 (s * 7 + x) = D s x) (hG : b = 1 → ∀ s x, s < 50 → 8 ≤ x → x < 14 → i 24 (s * 14 + x) = nI (G s x))
    (hL : b = 1 → cj = 0 → f = 0 → LrP D G n sy nt TT R 150 0 1 0 (upN ss 0 0) sn (i 53) tk0)
    (hRo : ∀ o md nd tk, R o md nd tk → o = -1 ∨ o = -2 ∨ ∃ k, k ≤ nt ∧ o = nI k)
    (hRt : ∀ md nd tk, R (-1) md nd tk → ∃ val, PT n sy op xp yp nt (i 36) md nd tk val)
    (hX0 : b = 0 ∨ (b = 1 ∧ (0 < cj ∨ f = 1)) → Q (.error "java/lang/IllegalStateException") (56 + ζ, g + 1, i, q, RT false))
    (hXo : b = 1 → cj = 0 → f = 0 → ∀ md nd tk i1 q1, R (-2) md nd tk → Fr [0, 32, 38, 40, 51, 53] i i1 → i1 0 7 = nI b → i1 0 8 = -1 → i1 32 6 = nI 0 → (∀ c, c ≠ 55 → q1 c = q c) → Q (.error "java/lang/UnsupportedOperationException") (56 + ζ, g + 1, i1, q1, RT false))
    (hXf : b = 1 → cj = 0 → f = 0 → ∀ k md nd tk i1 q1, R (nI k) md nd tk → k ≤ nt → Fr [0, 32, 38, 40, 51, 53] i i1 → i1 0 7 = nI b → i1 0 8 = nI k → i1 32 6 = nI 0 → (∀ c, c ≠ 55 → q1 c = q c) → Q (.error "java/lang/IllegalArgumentException") (56 + ζ, g + 1, i1, q1, RT false))
    (hQ : b = 1 → cj = 0 → f = 0 → ∀ md nd tk val i1 q1, R (-1) md nd tk → PT n sy op xp yp nt (i 36) md nd tk val → Fr [0, 32, 38, 40, 43, 45, 51, 53] i i1 → i1 0 7 = nI b → i1 0 8 = -1 → i1 32 6 = nI 0 → i1 51 2 = nI md → md ≤ 150 → i1 53 = nd → (∀ c, c ≠ 55 → q1 c = q c) → (∀ s, s < 3 * md → q1 55 s = val s) → Q (.ok (some (.int (nI md)))) (56 + ζ, g, i1, q1, RT true)) :
    Wx m_Works_parse 0 [some (.ref 0), none, none] [] (56 + ζ, g, i, q, RT false) (1, 6) Q := by
  have hn14 := gs.2.2.1
  by_cases b0 : b = 0
  · subst b0
    refine ex_aload_n (i := 0) dX9_parse_0 rfl rfl ?_
    refine ex_getI dX9_parse_1 fl_Works_58 rfl rfl (l56 (by decide)) ?_
    refine ex_asN (a := 0) h7 ?_
    refine ex_if_neN (tgt := 17) dX9_parse_4 (by decide) (by omega) (fun h4 => by exact absurd h4 (by decide)) (fun h4 => ?_)
    refine ex_throw th_Works_parse_7 (by decide) ?_
    exact hX0 (Or.inl rfl)
  · have b1 : b = 1 := by omega
    subst b1
    obtain ⟨c1, c2⟩ := hcj rfl
    obtain ⟨f1, f2⟩ := hf rfl
    have hD := hD rfl
    have hG := hG rfl
    by_cases c0 : 0 < cj
    ·
      refine ex_aload_n (i := 0) dX9_parse_0 rfl rfl ?_
      refine ex_getI dX9_parse_1 fl_Works_58 rfl rfl (l56 (by decide)) ?_
      refine ex_asN (a := 1) h7 ?_
      refine ex_if_neN (tgt := 17) dX9_parse_4 (by decide) (by omega) (fun h4 => ?_) (fun h4 => by exact absurd h4 (by decide))
      refine ex_aload_n (i := 0) dX9_parse_17 rfl rfl ?_
      refine ex_getR (v := .ref (16)) dX9_parse_18 fl_Works_21 rfl rfl (l56 (by decide)) rfl ?_
      refine ex_cV (ν := m_States_conflicts) (a := 16) (ci := 7) (as := []) dX9_parse_21 ln_Works_200 mf_States_conflicts rfl (l56 (by decide)) rfl rfl np_States_conflicts rfl rfl ⟨(Nat.le_of_ble_eq_true rfl), (Nat.le_of_ble_eq_true rfl), (Nat.le_of_ble_eq_true rfl), (Nat.le_of_ble_eq_true rfl)⟩ (by decide) ?_
      refine sp_States_conflicts ?_
      refine ⟨_, rfl, ?_⟩
      refine ex_asN (a := cj) c1 ?_
      refine ex_if_leN (tgt := 37) dX9_parse_24 (by decide) (by omega) (fun h24 => by omega) (fun h24 => ?_)
      refine ex_throw th_Works_parse_27 (by decide) ?_
      exact hX0 (Or.inr ⟨rfl, Or.inl c0⟩)
    · have cj0 : cj = 0 := by omega
      by_cases f0 : f = 1
      · subst f0
        refine ex_aload_n (i := 0) dX9_parse_0 rfl rfl ?_
        refine ex_getI dX9_parse_1 fl_Works_58 rfl rfl (l56 (by decide)) ?_
        refine ex_asN (a := 1) h7 ?_
        refine ex_if_neN (tgt := 17) dX9_parse_4 (by decide) (by omega) (fun h4 => ?_) (fun h4 => by exact absurd h4 (by decide))
        refine ex_aload_n (i := 0) dX9_parse_17 rfl rfl ?_
        refine ex_getR (v := .ref (16)) dX9_parse_18 fl_Works_21 rfl rfl (l56 (by decide)) rfl ?_
        refine ex_cV (ν := m_States_conflicts) (a := 16) (ci := 7) (as := []) dX9_parse_21 ln_Works_200 mf_States_conflicts rfl (l56 (by decide)) rfl rfl np_States_conflicts rfl rfl ⟨(Nat.le_of_ble_eq_true rfl), (Nat.le_of_ble_eq_true rfl), (Nat.le_of_ble_eq_true rfl), (Nat.le_of_ble_eq_true rfl)⟩ (by decide) ?_
        refine sp_States_conflicts ?_
        refine ⟨_, rfl, ?_⟩
        refine ex_asN (a := cj) c1 ?_
        refine ex_if_leN (tgt := 37) dX9_parse_24 (by decide) (by omega) (fun h24 => ?_) (fun h24 => by omega)
        refine ex_aload_n (i := 0) dX9_parse_37 rfl rfl ?_
        refine ex_getR (v := .ref (27)) dX9_parse_38 fl_Works_28 rfl rfl (l56 (by decide)) rfl ?_
        refine ex_cV (ν := m_Rings_areFound) (a := 27) (ci := 5) (as := []) dX9_parse_41 ln_Works_205 mf_Rings_areFound rfl (l56 (by decide)) rfl rfl np_Rings_areFound rfl rfl ⟨(Nat.le_of_ble_eq_true rfl), (Nat.le_of_ble_eq_true rfl), (Nat.le_of_ble_eq_true rfl), (Nat.le_of_ble_eq_true rfl)⟩ (by decide) ?_
        refine sp_Rings_areFound (by rw [f1]; exact Or.inr (by decide)) ?_
        refine ⟨_, rfl, ?_⟩
        refine ex_asN (a := 1) f1 ?_
        refine ex_if_eqN (tgt := 57) dX9_parse_44 (by decide) (by omega) (fun h44 => by exact absurd h44 (by decide)) (fun h44 => ?_)
        refine ex_throw th_Works_parse_47 (by decide) ?_
        exact hX0 (Or.inr ⟨rfl, Or.inr rfl⟩)
      · have fz : f = 0 := by omega
        subst fz
        have hL := hL rfl cj0 rfl
        have TAIL : ∀ md i2 q2, i2 51 2 = nI md → Q (.ok (some (.int (nI md)))) (56 + ζ, g, i2, q2, RT true) → Wx m_Works_parse 149 [some (.ref 0), some (.int (-1)), some (.ref 46)] [] (56 + ζ, g, i2, q2, RT true) (1, 6) Q := by
          intro md i2 q2 e22 HQ
          refine ex_aload_n (i := 0) dX9_parse_149 rfl rfl ?_
          refine ex_getR (v := .ref (51)) dX9_parse_150 fl_Works_51 rfl rfl (l56 (by decide)) rfl ?_
          refine ex_cV (ν := m_Tree_size) (a := 51) (ci := 8) (as := []) dX9_parse_153 ln_Works_225 mf_Tree_size rfl (l56 (by decide)) rfl rfl np_Tree_size rfl rfl ⟨(Nat.le_of_ble_eq_true rfl), (Nat.le_of_ble_eq_true rfl), (Nat.le_of_ble_eq_true rfl), (Nat.le_of_ble_eq_true rfl)⟩ (by decide) ?_
          refine sp_Tree_size_51 ?_
          refine ⟨_, rfl, ?_⟩
          refine ex_asN (a := md) e22 ?_
          refine ex_K0 ?_
          refine ex_iret dX9_parse_156 rfl rfl ?_
          exact HQ
        have RUN : ∀ o md nd tk i1 q1, R o md nd tk → Fr [32, 38, 40, 51, 53] i i1 → i1 32 6 = i 32 6 → i1 51 2 = nI md → md ≤ 150 → i1 53 = nd → (∀ c, c ≠ 55 → q1 c = q c) → tvQ 55 i q1 nt md nd tk → Wx m_Works_parse 68 [some (.ref 0), none, none] [.int o] (56 + ζ, g, i1, q1, RT false) (1, 6) Q := by
          intro o md nd tk i1 q1 hR hfr e6 e2 hmd eF hq hv
          have e7 : i1 0 7 = nI 1 := by rw [hfr 0 (by decide)]; exact h7
          have hfA : Fr [0, 32, 38, 40, 51, 53] i i1 := hfr.mono (by decide)
          rcases hRo o md nd tk hR with rfl | rfl | ⟨k, hk, rfl⟩
          · obtain ⟨val, hPT⟩ := hRt md nd tk hR
            obtain ⟨tb, rl, pa, ch, rk, hTW, hAC, hSOL, htok⟩ := id hPT
            have scf : ∀ {i' : Nat → Nat → Int32}, Fr [0, 32, 38, 40, 51, 53] i i' → SC i' := fun h => SC_Fr (l := [0, 32, 38, 40, 51, 53]) rfl h sc
            refine ex_istore_n (L' := [some (.ref (0)), some (.int ((-1))), none]) dX9_parse_68 (i := 1) rfl (by decide) rfl ?_
            refine ex_aload_n (i := 0) dX9_parse_69 rfl rfl ?_
            refine ex_getR (v := .ref (32)) dX9_parse_70 fl_Works_37 rfl rfl (l56 (by decide)) rfl ?_
            refine ex_cV (ν := m_Parser_dropTokens) (a := 32) (ci := 4) (as := []) dX9_parse_73 ln_Works_214 mf_Parser_dropTokens rfl (l56 (by decide)) rfl rfl np_Parser_dropTokens rfl rfl ⟨(Nat.le_of_ble_eq_true rfl), (Nat.le_of_ble_eq_true rfl), (Nat.le_of_ble_eq_true rfl), (Nat.le_of_ble_eq_true rfl)⟩ (by decide) ?_
            refine sp_Parser_dropTokens ?_
            refine ⟨_, rfl, ?_⟩
            refine ex_aload_n (i := 0) dX9_parse_76 rfl rfl ?_
            refine ex_iload_n (i := 1) dX9_parse_77 rfl rfl ?_
            refine ex_if_lt (tgt := 85) dX9_parse_78 (by decide) (fun h78 => ?_) (fun h78 => by exact absurd h78 (by decide))
            refine ex_iconst (v := -1) dX9_parse_85 (by decide) ?_
            refine ex_putI dX9_parse_86 fl_Works_62 cf_9 rfl (Or.inl rfl) rfl rfl rfl (l56 (by decide)) ?_
            refine ex_iload_n (i := 1) dX9_parse_89 rfl rfl ?_
            refine ex_bipush (v := -2) dX9_parse_90 (by decide) ?_
            refine ex_icmp_ne (tgt := 105) dX9_parse_92 (by decide) (fun h92 => ?_) (fun h92 => by exact absurd h92 (by decide))
            refine ex_iload_n (i := 1) dX9_parse_105 rfl rfl ?_
            refine ex_iconst (v := -1) dX9_parse_106 (by decide) ?_
            refine ex_icmp_eq (tgt := 120) dX9_parse_107 (by decide) (fun h107 => ?_) (fun h107 => by exact absurd rfl h107)
            refine ex_aload_n (i := 0) dX9_parse_120 rfl rfl ?_
            refine ex_getR (v := .ref (41)) dX9_parse_121 fl_Works_44 rfl rfl (l56 (by decide)) rfl ?_
            refine ex_aload_n (i := 0) dX9_parse_124 rfl rfl ?_
            refine ex_getR (v := .ref (51)) dX9_parse_125 fl_Works_55 rfl rfl (l56 (by decide)) rfl ?_
            refine ex_cV (ν := m_Evaluator_evaluate) (a := 41) (ci := 0) (as := [.ref (51)]) dX9_parse_128 ln_Works_221 mf_Evaluator_evaluate rfl (l56 (by decide)) rfl rfl np_Evaluator_evaluate rfl rfl ⟨(Nat.le_of_ble_eq_true rfl), (Nat.le_of_ble_eq_true rfl), (Nat.le_of_ble_eq_true rfl), (Nat.le_of_ble_eq_true rfl)⟩ (by decide) ?_
            refine sp_Evaluator_evaluate_51 (nd := nd) (val := val) (rk := rk) hn14 (scf ((hfA.U (by decide)).U (by decide))) (es.fr ((hfA.U (by decide)).U (by decide)) (by decide) (by decide) (by decide)) ev hTW hAC hSOL ?_ ?_ ?_ (fun i2 q2 g1 g2 g3 => ?_)
            · rw [xU_ne _ _ _ (show (53 : Nat) ≠ 0 by decide), xU_ne _ _ _ (show (53 : Nat) ≠ 32 by decide)]; exact eF
            · rw [xU_ne _ _ _ (show (51 : Nat) ≠ 0 by decide), xU_ne _ _ _ (show (51 : Nat) ≠ 32 by decide)]; exact e2
            · intro s hs htb
              have hj : s / 3 < md := by omega
              obtain ⟨t1, t2⟩ := htok (s / 3) hj htb
              obtain ⟨b, v1, v2, v3, v4, v5⟩ := hv (s / 3) hj t1
              obtain ⟨w1, w2, w3⟩ := t2 b v1 v2
              rcases (show s = s / 3 * 3 ∨ s = s / 3 * 3 + 1 ∨ s = s / 3 * 3 + 2 by omega) with e | e | e
              · rw [e, v3, w1]
              · rw [e, v4, w2]
              · rw [e, v5, w3]
            refine ⟨_, rfl, ?_⟩
            refine ex_aload_n (i := 0) dX9_parse_131 rfl rfl ?_
            refine ex_getR (v := .ref (46)) dX9_parse_132 fl_Works_51 rfl rfl (l56 (by decide)) rfl ?_
            refine ex_astore_n (L' := [some (.ref (0)), some (.int ((-1))), some (.ref (46))]) dX9_parse_135 (i := 2) rfl (by decide) rfl ?_
            refine ex_aload_n (i := 0) dX9_parse_136 rfl rfl ?_
            refine ex_aload_n (i := 0) dX9_parse_137 rfl rfl ?_
            refine ex_getR (v := .ref (51)) dX9_parse_138 fl_Works_55 rfl rfl (l56 (by decide)) rfl ?_
            refine ex_putR dX9_parse_141 fl_Works_51 cf_9 rfl (Or.inl rfl) (fun _ => rfl) (fun _ => rfl) ⟨_, rfl⟩ rfl (l56 (by decide)) ?_
            refine ex_aload_n (i := 0) dX9_parse_144 rfl rfl ?_
            refine ex_aload_n (i := 2) dX9_parse_145 rfl rfl ?_
            refine ex_putR dX9_parse_146 fl_Works_55 cf_9 rfl (Or.inl rfl) (fun _ => rfl) (fun _ => rfl) ⟨_, rfl⟩ rfl (l56 (by decide)) ?_
            refine ex_rr rt_swap_51 (TAIL md i2 q2 ?_ ?_)
            · rw [g1 51 (by decide), xU_ne _ _ _ (show (51 : Nat) ≠ 0 by decide), xU_ne _ _ _ (show (51 : Nat) ≠ 32 by decide)]; exact e2
            · refine hQ rfl cj0 rfl md nd tk val i2 q2 hR hPT ((((hfA.U (by decide)).U (by decide)).mono (by decide)).tr (g1.mono (by decide))) ?_ ?_ ?_ ?_ hmd ?_ (fun c hc => (g2 c hc).trans (hq c hc)) g3
              · rw [g1 0 (by decide), xU_at, xU_ne _ _ _ (show (0 : Nat) ≠ 32 by decide)]; simp [upd, e7]
              · rw [g1 0 (by decide), xU_at]; simp [upd]
              · rw [g1 32 (by decide), xU_ne _ _ _ (show (32 : Nat) ≠ 0 by decide), xU_at]; simp [upd]
              · rw [g1 51 (by decide), xU_ne _ _ _ (show (51 : Nat) ≠ 0 by decide), xU_ne _ _ _ (show (51 : Nat) ≠ 32 by decide)]; exact e2
              · rw [g1 53 (by decide), xU_ne _ _ _ (show (53 : Nat) ≠ 0 by decide), xU_ne _ _ _ (show (53 : Nat) ≠ 32 by decide)]; exact eF
          · 
            refine ex_istore_n (L' := [some (.ref (0)), some (.int ((-2))), none]) dX9_parse_68 (i := 1) rfl (by decide) rfl ?_
            refine ex_aload_n (i := 0) dX9_parse_69 rfl rfl ?_
            refine ex_getR (v := .ref (32)) dX9_parse_70 fl_Works_37 rfl rfl (l56 (by decide)) rfl ?_
            refine ex_cV (ν := m_Parser_dropTokens) (a := 32) (ci := 4) (as := []) dX9_parse_73 ln_Works_214 mf_Parser_dropTokens rfl (l56 (by decide)) rfl rfl np_Parser_dropTokens rfl rfl ⟨(Nat.le_of_ble_eq_true rfl), (Nat.le_of_ble_eq_true rfl), (Nat.le_of_ble_eq_true rfl), (Nat.le_of_ble_eq_true rfl)⟩ (by decide) ?_
            refine sp_Parser_dropTokens ?_
            refine ⟨_, rfl, ?_⟩
            refine ex_aload_n (i := 0) dX9_parse_76 rfl rfl ?_
            refine ex_iload_n (i := 1) dX9_parse_77 rfl rfl ?_
            refine ex_if_lt (tgt := 85) dX9_parse_78 (by decide) (fun h78 => ?_) (fun h78 => by exact absurd h78 (by decide))
            refine ex_iconst (v := -1) dX9_parse_85 (by decide) ?_
            refine ex_putI dX9_parse_86 fl_Works_62 cf_9 rfl (Or.inl rfl) rfl rfl rfl (l56 (by decide)) ?_
            refine ex_iload_n (i := 1) dX9_parse_89 rfl rfl ?_
            refine ex_bipush (v := -2) dX9_parse_90 (by decide) ?_
            refine ex_icmp_ne (tgt := 105) dX9_parse_92 (by decide) (fun h92 => by exact absurd rfl h92) (fun h92 => ?_)
            refine ex_throw th_Works_parse_95 (by decide) ?_
            exact hXo rfl cj0 rfl md nd tk _ _ hR ((hfA.U (by decide)).U (by decide)) (by rw [xU_at, xU_ne _ _ _ (show (0 : Nat) ≠ 32 by decide)]; simp [upd, e7]) (by rw [xU_at]; simp [upd]) (by rw [xU_ne _ _ _ (show (32 : Nat) ≠ 0 by decide), xU_at]; simp [upd]) hq
          ·
            refine ex_istore_n (L' := [some (.ref (0)), some (.int (nI (k))), none]) dX9_parse_68 (i := 1) rfl (by decide) rfl ?_
            refine ex_aload_n (i := 0) dX9_parse_69 rfl rfl ?_
            refine ex_getR (v := .ref (32)) dX9_parse_70 fl_Works_37 rfl rfl (l56 (by decide)) rfl ?_
            refine ex_cV (ν := m_Parser_dropTokens) (a := 32) (ci := 4) (as := []) dX9_parse_73 ln_Works_214 mf_Parser_dropTokens rfl (l56 (by decide)) rfl rfl np_Parser_dropTokens rfl rfl ⟨(Nat.le_of_ble_eq_true rfl), (Nat.le_of_ble_eq_true rfl), (Nat.le_of_ble_eq_true rfl), (Nat.le_of_ble_eq_true rfl)⟩ (by decide) ?_
            refine sp_Parser_dropTokens ?_
            refine ⟨_, rfl, ?_⟩
            refine ex_aload_n (i := 0) dX9_parse_76 rfl rfl ?_
            refine ex_iload_n (i := 1) dX9_parse_77 rfl rfl ?_
            refine ex_if_ltN (tgt := 85) dX9_parse_78 (by decide) (by omega) ?_
            refine ex_iload_n (i := 1) dX9_parse_81 rfl rfl ?_
            refine ex_goto (tgt := 86) dX9_parse_82 (by decide) ?_
            refine ex_putI dX9_parse_86 fl_Works_62 cf_9 rfl (Or.inl rfl) rfl rfl rfl (l56 (by decide)) ?_
            refine ex_iload_n (i := 1) dX9_parse_89 rfl rfl ?_
            refine ex_bipush (v := -2) dX9_parse_90 (by decide) ?_
            refine ex_icmp_ne (tgt := 105) dX9_parse_92 (by decide) (fun h92 => ?_) (fun h92 => by exact (nI_ne2 (by omega) h92).elim)
            refine ex_iload_n (i := 1) dX9_parse_105 rfl rfl ?_
            refine ex_iconst (v := -1) dX9_parse_106 (by decide) ?_
            refine ex_icmp_eq (tgt := 120) dX9_parse_107 (by decide) (fun h107 => by exact (nI_ne1 (by omega) h107).elim) (fun h107 => ?_)
            refine ex_throw th_Works_parse_110 (by decide) ?_
            exact hXf rfl cj0 rfl k md nd tk _ _ hR hk ((hfA.U (by decide)).U (by decide)) (by rw [xU_at, xU_ne _ _ _ (show (0 : Nat) ≠ 32 by decide)]; simp [upd, e7]) (by rw [xU_at]; simp [upd]) (by rw [xU_ne _ _ _ (show (32 : Nat) ≠ 0 by decide), xU_at]; simp [upd]) hq
        refine ex_aload_n (i := 0) dX9_parse_0 rfl rfl ?_
        refine ex_getI dX9_parse_1 fl_Works_58 rfl rfl (l56 (by decide)) ?_
        refine ex_asN (a := 1) h7 ?_
        refine ex_if_neN (tgt := 17) dX9_parse_4 (by decide) (by omega) (fun h4 => ?_) (fun h4 => by exact absurd h4 (by decide))
        refine ex_aload_n (i := 0) dX9_parse_17 rfl rfl ?_
        refine ex_getR (v := .ref (16)) dX9_parse_18 fl_Works_21 rfl rfl (l56 (by decide)) rfl ?_
        refine ex_cV (ν := m_States_conflicts) (a := 16) (ci := 7) (as := []) dX9_parse_21 ln_Works_200 mf_States_conflicts rfl (l56 (by decide)) rfl rfl np_States_conflicts rfl rfl ⟨(Nat.le_of_ble_eq_true rfl), (Nat.le_of_ble_eq_true rfl), (Nat.le_of_ble_eq_true rfl), (Nat.le_of_ble_eq_true rfl)⟩ (by decide) ?_
        refine sp_States_conflicts ?_
        refine ⟨_, rfl, ?_⟩
        refine ex_asN (a := cj) c1 ?_
        refine ex_if_leN (tgt := 37) dX9_parse_24 (by decide) (by omega) (fun h24 => ?_) (fun h24 => by omega)
        refine ex_aload_n (i := 0) dX9_parse_37 rfl rfl ?_
        refine ex_getR (v := .ref (27)) dX9_parse_38 fl_Works_28 rfl rfl (l56 (by decide)) rfl ?_
        refine ex_cV (ν := m_Rings_areFound) (a := 27) (ci := 5) (as := []) dX9_parse_41 ln_Works_205 mf_Rings_areFound rfl (l56 (by decide)) rfl rfl np_Rings_areFound rfl rfl ⟨(Nat.le_of_ble_eq_true rfl), (Nat.le_of_ble_eq_true rfl), (Nat.le_of_ble_eq_true rfl), (Nat.le_of_ble_eq_true rfl)⟩ (by decide) ?_
        refine sp_Rings_areFound (by rw [f1]; exact Or.inl (by decide)) ?_
        refine ⟨_, rfl, ?_⟩
        refine ex_asN (a := 0) f1 ?_
        refine ex_if_eqN (tgt := 57) dX9_parse_44 (by decide) (by omega) (fun h44 => ?_) (fun h44 => by exact absurd h44 (by decide))
        refine ex_aload_n (i := 0) dX9_parse_57 rfl rfl ?_
        refine ex_getR (v := .ref (32)) dX9_parse_58 fl_Works_37 rfl rfl (l56 (by decide)) rfl ?_
        refine ex_aload_n (i := 0) dX9_parse_61 rfl rfl ?_
        refine ex_getR (v := .ref (51)) dX9_parse_62 fl_Works_55 rfl rfl (l56 (by decide)) rfl ?_
        refine ex_cV (ν := m_Parser_run) (a := 32) (ci := 4) (as := [.ref (51)]) dX9_parse_65 ln_Works_210 mf_Parser_run rfl (l56 (by decide)) rfl rfl np_Parser_run rfl rfl ⟨(Nat.le_of_ble_eq_true rfl), (Nat.le_of_ble_eq_true rfl), (Nat.le_of_ble_eq_true rfl), (Nat.le_of_ble_eq_true rfl)⟩ (by decide) ?_
        refine sp_Parser_run_51 sc gs h6 hnt hTT hD hG hL (fun o md nd tk i1 q1 r1 r2 r3 r4 r5 r6 r7 r8 => ?_)
        refine ⟨_, rfl, ?_⟩
        exact RUN o md nd tk i1 q1 r1 r2 r3 r4 r5 r6 r7 r8
end S54
