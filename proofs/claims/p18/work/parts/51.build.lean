/-! ===== the public methods: build ===== -/
/-- what a build leaves -/
def BL (n : Nat) (sy : Nat → Nat → Nat) (op xp yp fi lv kd : Nat → Nat) (i1 : Nat → Nat → Int32) : Prop := ∃ (F0 F tr : Nat → Nat) (f : Nat),
  (i1 16 6 = nI (KS n sy).length ∧ 1 ≤ (KS n sy).length ∧ (KS n sy).length ≤ 50) ∧
  (∀ s x, s < (KS n sy).length → 1 ≤ x → x < 14 → (nx n sy ((KS n sy).getD s 0) x = 0 ∨ nx n sy ((KS n sy).getD s 0) x ∈ KS n sy) ∧ i1 24 (s * 14 + x) = nI (tg n sy (KS n sy) s x)) ∧ (∀ s, s < 50 → i1 24 (s * 14) = 0) ∧
  (∀ s it, s < (KS n sy).length → it < 75 → (F0 (s * 75 + it) = 0 ∨ F0 (s * 75 + it) = 128) ∧ (F0 (s * 75 + it) ≠ 0 ↔ clP n sy (kst ((KS n sy).getD s 0)) it)) ∧
  (Vw i1 22 3750 F ∧ (∀ j, j < 3750 → F j < 256) ∧ (∀ j, upN F0 70 (F0 70 ||| 1) j ≤ F j) ∧ leL n sy fi (tg n sy (KS n sy)) (KS n sy).length (upN F0 70 (F0 70 ||| 1)) F ∧ CLa n sy fi (tg n sy (KS n sy)) (KS n sy).length F) ∧
  (i1 16 7 = nI (cjF (DcA sy lv kd F (tg n sy (KS n sy))) (7 * (KS n sy).length)) ∧ ∀ j, j < 7 * (KS n sy).length → i1 26 j = DcA sy lv kd F (tg n sy (KS n sy)) j) ∧
  (i1 27 3 = nI f ∧ f < 2 ∧ (f = 1 ↔ slA n sy op xp yp tr) ∧ clT n sy op xp yp tr ∧ leT n sy op xp yp tr)
theorem tg_lt {n : Nat} {sy : Nat → Nat → Nat} {ks : List Nat} {s x : Nat} (h0 : 1 ≤ ks.length) (h : nx n sy (ks.getD s 0) x = 0 ∨ nx n sy (ks.getD s 0) x ∈ ks) : tg n sy ks s x < ks.length := by
  unfold tg
  split
  · omega
  · rename_i hz
    exact List.idxOf_lt_length_of_mem (h.resolve_left hz)
section S51
variable {ζ g : Nat} {i : Nat → Nat → Int32} {q : Nat → Nat → Int64} {t : Bool} {Q : xRes → xMem → Prop} {n : Nat} {sy : Nat → Nat → Nat} {op xp yp fi lv kd : Nat → Nat}
theorem sp_Works_build (sc : SC i) (gs : GS i n sy) (es : ES i op xp yp) (hsb : SBd i) (hfi : Vw i 9 14 fi) (hfb : ∀ s, fi s < 128) (hlv : Vw i 5 7 lv) (hlb : ∀ s, lv s ≤ 9) (hkd : Vw i 7 7 kd) (hkb : ∀ s, kd s ≤ 2)
    (hX1 : n = 0 → Q (.error "java/lang/IllegalStateException") (56 + ζ, g + 1, xU i 0 7 (nI 0), q, RT t))
    (hX2 : ¬ n = 0 → 50 < (KS n sy).length → ∀ i1 q1, Fr [0, 16, 22, 24] i i1 → i1 0 7 = nI 0 → i1 0 8 = i 0 8 → qfr q q1 → SBd i1 → Q (.error "java/lang/UnsupportedOperationException") (56 + ζ, g + 1, i1, q1, RT t))
    (hQ : ¬ n = 0 → (KS n sy).length ≤ 50 → ∀ i1 q1, Fr [0, 16, 22, 24, 26, 27, 29, 31] i i1 → i1 0 7 = nI 1 → i1 0 8 = i 0 8 → qfr q q1 → BL n sy op xp yp fi lv kd i1 → Q (.ok (some (.int (nI (KS n sy).length)))) (56 + ζ, g, i1, q1, RT t)) :
    Wx m_Works_build 0 [some (.ref 0)] [] (56 + ζ, g, i, q, RT t) (1, 6) Q := by
  have hn14 := gs.2.2.1
  have hb0 : Fr [0] i (xU i 0 7 (nI 0)) := Fr.rf.U (by decide)
  by_cases n0 : n = 0
  · have g7 : i 1 7 = nI 0 := by rw [← n0]; exact gs.1
    refine ex_aload_n (i := 0) dX9_build_0 rfl rfl ?_
    refine ex_iconst (v := nI 0) dX9_build_1 (by decide) ?_
    refine ex_putI dX9_build_2 fl_Works_58 cf_9 rfl (Or.inl rfl) (by decide) (by decide) rfl (l56 (by decide)) ?_
    refine ex_aload_n (i := 0) dX9_build_5 rfl rfl ?_
    refine ex_getR (v := .ref (1)) dX9_build_6 fl_Works_12 rfl rfl (l56 (by decide)) rfl ?_
    refine ex_cV (ν := m_Grammar_size) (a := 1) (ci := 1) (as := []) dX9_build_9 ln_Works_86 mf_Grammar_size rfl (l56 (by decide)) rfl rfl np_Grammar_size rfl rfl ⟨(Nat.le_of_ble_eq_true rfl), (Nat.le_of_ble_eq_true rfl), (Nat.le_of_ble_eq_true rfl), (Nat.le_of_ble_eq_true rfl)⟩ (by decide) ?_
    refine sp_Grammar_size ?_
    refine ⟨_, rfl, ?_⟩
    refine ex_asN (a := 0) g7 ?_
    refine ex_if_neN (tgt := 25) dX9_build_12 (by decide) (by omega) (fun h12 => by exact absurd h12 (by decide)) (fun h12 => ?_)
    refine ex_throw th_Works_build_15 (by decide) ?_
    exact hX1 n0
  · by_cases hk : (KS n sy).length ≤ 50
    ·
      refine ex_aload_n (i := 0) dX9_build_0 rfl rfl ?_
      refine ex_iconst (v := nI 0) dX9_build_1 (by decide) ?_
      refine ex_putI dX9_build_2 fl_Works_58 cf_9 rfl (Or.inl rfl) (by decide) (by decide) rfl (l56 (by decide)) ?_
      refine ex_aload_n (i := 0) dX9_build_5 rfl rfl ?_
      refine ex_getR (v := .ref (1)) dX9_build_6 fl_Works_12 rfl rfl (l56 (by decide)) rfl ?_
      refine ex_cV (ν := m_Grammar_size) (a := 1) (ci := 1) (as := []) dX9_build_9 ln_Works_86 mf_Grammar_size rfl (l56 (by decide)) rfl rfl np_Grammar_size rfl rfl ⟨(Nat.le_of_ble_eq_true rfl), (Nat.le_of_ble_eq_true rfl), (Nat.le_of_ble_eq_true rfl), (Nat.le_of_ble_eq_true rfl)⟩ (by decide) ?_
      refine sp_Grammar_size ?_
      refine ⟨_, rfl, ?_⟩
      refine ex_asN (a := n) gs.1 ?_
      refine ex_if_neN (tgt := 25) dX9_build_12 (by decide) (by omega) (fun h12 => ?_) (fun h12 => by exact absurd h12 n0)
      refine ex_aload_n (i := 0) dX9_build_25 rfl rfl ?_
      refine ex_getR (v := .ref (16)) dX9_build_26 fl_Works_21 rfl rfl (l56 (by decide)) rfl ?_
      refine ex_cV (ν := m_States_findAll) (a := 16) (ci := 7) (as := []) dX9_build_29 ln_Works_145 mf_States_findAll rfl (l56 (by decide)) rfl rfl np_States_findAll rfl rfl ⟨(Nat.le_of_ble_eq_true rfl), (Nat.le_of_ble_eq_true rfl), (Nat.le_of_ble_eq_true rfl), (Nat.le_of_ble_eq_true rfl)⟩ (by decide) ?_
      refine sp_States_findAll (F0 := fun _ => 0) (SC_U (by decide) sc) (gs.fr hb0 (by decide) (by decide)) ⟨by obtain ⟨F, h1, h2⟩ := hsb.1; exact ⟨F, h1.ne (by decide), h2⟩, fun s hs => by rw [xU_ne _ _ _ (show (24 : Nat) ≠ 0 by decide)]; exact hsb.2 s hs⟩ (fun _ i1 q1 F0 f1 f2 f3 f4 => ?_) (fun z => absurd z (by omega))
      have k1 : 1 ≤ (KS n sy).length := f3.1.2.1
      have fA : Fr [0, 16, 22, 24] i i1 := (hb0.mono (by decide)).tr (f1.mono (by decide))
      have gs1 : GS i1 n sy := gs.fr fA (by decide) (by decide)
      have sc1 : SC i1 := SC_Fr (l := [0, 16, 22, 24]) rfl fA sc
      have hT : ∀ s x, s < (KS n sy).length → 1 ≤ x → x < 14 → i1 24 (s * 14 + x) = nI (tg n sy (KS n sy) s x) ∧ tg n sy (KS n sy) s x < (KS n sy).length := fun s x h1 h2 h3 => ⟨(f4.2 s x h1 h2 h3 (Or.inl h1)).2, tg_lt k1 (f4.2 s x h1 h2 h3 (Or.inl h1)).1⟩
      refine ⟨_, rfl, ?_⟩
      refine ex_if_neN (tgt := 45) dX9_build_32 (by decide) (by omega) (fun h32 => ?_) (fun h32 => by exact absurd h32 (by decide))
      refine ex_aload_n (i := 0) dX9_build_45 rfl rfl ?_
      refine ex_getR (v := .ref (16)) dX9_build_46 fl_Works_21 rfl rfl (l56 (by decide)) rfl ?_
      refine ex_cV (ν := m_States_spreadLookaheads) (a := 16) (ci := 7) (as := []) dX9_build_49 ln_Works_154 mf_States_spreadLookaheads rfl (l56 (by decide)) rfl rfl np_States_spreadLookaheads rfl rfl ⟨(Nat.le_of_ble_eq_true rfl), (Nat.le_of_ble_eq_true rfl), (Nat.le_of_ble_eq_true rfl), (Nat.le_of_ble_eq_true rfl)⟩ (by decide) ?_
      refine sp_States_spreadLookaheads (F0 := F0) (fi := fi) (T := tg n sy (KS n sy)) (S := (KS n sy).length) sc1 gs1 hk (by omega) f3.1.1 (hfi.fr fA (by decide)) hfb hT f3.2.2.2.2.1 f3.2.2.2.2.2.1 (fun i2 F g1 g2 g3 g4 g5 g6 => ?_)
      have fB : Fr [0, 16, 22, 24] i i2 := fA.tr (g1.mono (by decide))
      refine ⟨_, rfl, ?_⟩
      refine ex_aload_n (i := 0) dX9_build_52 rfl rfl ?_
      refine ex_getR (v := .ref (16)) dX9_build_53 fl_Works_21 rfl rfl (l56 (by decide)) rfl ?_
      refine ex_cV (ν := m_States_decideAll) (a := 16) (ci := 7) (as := []) dX9_build_56 ln_Works_157 mf_States_decideAll rfl (l56 (by decide)) rfl rfl np_States_decideAll rfl rfl ⟨(Nat.le_of_ble_eq_true rfl), (Nat.le_of_ble_eq_true rfl), (Nat.le_of_ble_eq_true rfl), (Nat.le_of_ble_eq_true rfl)⟩ (by decide) ?_
      refine sp_States_decideAll (F := F) (T := tg n sy (KS n sy)) (S := (KS n sy).length) (lv := lv) (kd := kd) (SC_Fr (l := [0, 16, 22, 24]) rfl fB sc) (gs.fr fB (by decide) (by decide)) hk (by rw [g1 16 (by decide)]; exact f3.1.1) g2 (fun s x h1 h2 h3 => by rw [g1 24 (by decide)]; exact hT s x h1 h2 h3) (fun s hs => by rw [g1 24 (by decide)]; exact f4.1 s hs) (hlv.fr fB (by decide)) hlb (hkd.fr fB (by decide)) hkb (fun i3 d => ?_)
      have fC : Fr [0, 16, 22, 24, 26] i i3 := (fB.mono (by decide)).tr (d.1.mono (by decide))
      refine ⟨_, rfl, ?_⟩
      refine ex_aload_n (i := 0) dX9_build_59 rfl rfl ?_
      refine ex_getR (v := .ref (27)) dX9_build_60 fl_Works_28 rfl rfl (l56 (by decide)) rfl ?_
      refine ex_cV (ν := m_Rings_search) (a := 27) (ci := 5) (as := []) dX9_build_63 ln_Works_160 mf_Rings_search rfl (l56 (by decide)) rfl rfl np_Rings_search rfl rfl ⟨(Nat.le_of_ble_eq_true rfl), (Nat.le_of_ble_eq_true rfl), (Nat.le_of_ble_eq_true rfl), (Nat.le_of_ble_eq_true rfl)⟩ (by decide) ?_
      refine sp_Rings_search (op := op) (xp := xp) (yp := yp) (SC_Fr (l := [0, 16, 22, 24, 26]) rfl fC sc) (gs.fr fC (by decide) (by decide)) (es.fr fC (by decide) (by decide) (by decide)) (fun f tr i4 r1 r2 r3 => ?_)
      refine ⟨_, rfl, ?_⟩
      refine ex_aload_n (i := 0) dX9_build_66 rfl rfl ?_
      refine ex_iconst (v := nI 1) dX9_build_67 (by decide) ?_
      refine ex_putI dX9_build_68 fl_Works_58 cf_9 rfl (Or.inl rfl) (by decide) (by decide) rfl (l56 (by decide)) ?_
      refine ex_aload_n (i := 0) dX9_build_71 rfl rfl ?_
      refine ex_getR (v := .ref (16)) dX9_build_72 fl_Works_21 rfl rfl (l56 (by decide)) rfl ?_
      refine ex_cV (ν := m_States_size) (a := 16) (ci := 7) (as := []) dX9_build_75 ln_Works_163 mf_States_size rfl (l56 (by decide)) rfl rfl np_States_size rfl rfl ⟨(Nat.le_of_ble_eq_true rfl), (Nat.le_of_ble_eq_true rfl), (Nat.le_of_ble_eq_true rfl), (Nat.le_of_ble_eq_true rfl)⟩ (by decide) ?_
      refine sp_States_size ?_
      refine ⟨_, rfl, ?_⟩
      refine ex_asI (y := i4 (16) (6)) (by first | rfl | simp [xU, upd]) ?_
      have e66 : i4 16 6 = nI (KS n sy).length := by rw [r1.1 16 (by decide), d.2.1, g1 16 (by decide)]; exact f3.1.1
      refine ex_asN (a := (KS n sy).length) e66 ?_
      refine ex_K0 ?_
      refine ex_iret dX9_build_78 rfl rfl ?_
      have e0 : ∀ c, c = 24 ∨ c = 22 → i4 c = i2 c := fun c hc => by rw [r1.1 c (by rcases hc with rfl | rfl <;> decide), d.1 c (by rcases hc with rfl | rfl <;> decide)]
      have e24 : i4 24 = i1 24 := by rw [e0 24 (Or.inl rfl), g1 24 (by decide)]
      refine hQ n0 hk _ q1 (((fC.mono (by decide)).tr (r1.1.mono (by decide))).U (by decide)) (by rw [xU_at]; simp [upd]) ?_ f2 ⟨F0, F, tr, f, ⟨?_, k1, hk⟩, fun s x h1 h2 h3 => ⟨(f4.2 s x h1 h2 h3 (Or.inl h1)).1, ?_⟩, ?_, fun s it h1 h2 => ⟨(f3.2.2.2.2.2.2 s it h1 h2).1, (f3.2.2.2.2.2.2 s it h1 h2).2.1 h1⟩, ⟨?_, g3, g4, g5, g6⟩, ⟨?_, ?_⟩, ⟨?_, r1.2.2.1, r3, r2, r1.2.2.2.2.2.1⟩⟩
      · rw [xU_at, r1.1 0 (by decide), d.1 0 (by decide), g1 0 (by decide), f1 0 (by decide), xU_at]; simp [upd]
      · rw [xU_ne _ _ _ (show (16 : Nat) ≠ 0 by decide)]; exact e66
      · rw [xU_ne _ _ _ (show (24 : Nat) ≠ 0 by decide), e24]; exact (hT s x h1 h2 h3).1
      · intro s hs; rw [xU_ne _ _ _ (show (24 : Nat) ≠ 0 by decide), e24]; exact f4.1 s hs
      · intro j hj; rw [xU_ne _ _ _ (show (22 : Nat) ≠ 0 by decide), e0 22 (Or.inr rfl)]; exact g2 j hj
      · rw [xU_ne _ _ _ (show (16 : Nat) ≠ 0 by decide), r1.1 16 (by decide)]; exact d.2.2.1
      · intro j hj; rw [xU_ne _ _ _ (show (26 : Nat) ≠ 0 by decide), r1.1 26 (by decide)]; exact d.2.2.2 j hj
      · rw [xU_ne _ _ _ (show (27 : Nat) ≠ 0 by decide)]; exact r1.2.1
    ·
      refine ex_aload_n (i := 0) dX9_build_0 rfl rfl ?_
      refine ex_iconst (v := nI 0) dX9_build_1 (by decide) ?_
      refine ex_putI dX9_build_2 fl_Works_58 cf_9 rfl (Or.inl rfl) (by decide) (by decide) rfl (l56 (by decide)) ?_
      refine ex_aload_n (i := 0) dX9_build_5 rfl rfl ?_
      refine ex_getR (v := .ref (1)) dX9_build_6 fl_Works_12 rfl rfl (l56 (by decide)) rfl ?_
      refine ex_cV (ν := m_Grammar_size) (a := 1) (ci := 1) (as := []) dX9_build_9 ln_Works_86 mf_Grammar_size rfl (l56 (by decide)) rfl rfl np_Grammar_size rfl rfl ⟨(Nat.le_of_ble_eq_true rfl), (Nat.le_of_ble_eq_true rfl), (Nat.le_of_ble_eq_true rfl), (Nat.le_of_ble_eq_true rfl)⟩ (by decide) ?_
      refine sp_Grammar_size ?_
      refine ⟨_, rfl, ?_⟩
      refine ex_asN (a := n) gs.1 ?_
      refine ex_if_neN (tgt := 25) dX9_build_12 (by decide) (by omega) (fun h12 => ?_) (fun h12 => by exact absurd h12 n0)
      refine ex_aload_n (i := 0) dX9_build_25 rfl rfl ?_
      refine ex_getR (v := .ref (16)) dX9_build_26 fl_Works_21 rfl rfl (l56 (by decide)) rfl ?_
      refine ex_cV (ν := m_States_findAll) (a := 16) (ci := 7) (as := []) dX9_build_29 ln_Works_145 mf_States_findAll rfl (l56 (by decide)) rfl rfl np_States_findAll rfl rfl ⟨(Nat.le_of_ble_eq_true rfl), (Nat.le_of_ble_eq_true rfl), (Nat.le_of_ble_eq_true rfl), (Nat.le_of_ble_eq_true rfl)⟩ (by decide) ?_
      refine sp_States_findAll (F0 := fun _ => 0) (SC_U (by decide) sc) (gs.fr hb0 (by decide) (by decide)) ⟨by obtain ⟨F, h1, h2⟩ := hsb.1; exact ⟨F, h1.ne (by decide), h2⟩, fun s hs => by rw [xU_ne _ _ _ (show (24 : Nat) ≠ 0 by decide)]; exact hsb.2 s hs⟩ (fun z => absurd z hk) (fun _ i1 q1 f1 f2 f3 => ?_)
      refine ⟨_, rfl, ?_⟩
      refine ex_if_neN (tgt := 45) dX9_build_32 (by decide) (by omega) (fun h32 => by exact absurd h32 (by decide)) (fun h32 => ?_)
      refine ex_throw th_Works_build_35 (by decide) ?_
      refine hX2 n0 (by omega) i1 q1 ((hb0.mono (by decide)).tr (f1.mono (by decide))) ?_ ?_ f2 f3
      · rw [f1 0 (by decide), xU_at]; simp [upd]
      · rw [f1 0 (by decide), xU_at]; simp [upd]
end S51
