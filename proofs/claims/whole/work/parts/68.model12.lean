/-! ===== the reference: makeStates, its loops ===== -/
section S68
variable {g : Nat} {i : Nat → Nat → Int32} {q : Nat → Nat → Int64} {t : Bool} {Q : xRes → xMem → Prop} {n : Nat} {sy : Nat → Nat → Nat} {op xp yp : Nat → Nat}
theorem lp_Model_ms_x {s : Nat} (rg : RG i n sy) (h14 : RG14 i sy) (hs50 : s < 50)
    (hE : ∀ ks i1 E m, s < ks.length → Fm [65, 66, 67] [11] i i1 → MFI n sy ks i1 E → MTI n sy ks i1 (s + 1) 1 → bfs n sy m (s + 1) 1 ks = KS n sy → (49 - s) * 14 + 14 ≤ m → Wx m_Model_makeStates 46 [some (.ref 56), some (.int (nI (s + 1))), none, none, none] [] (94, g, i1, q, RT t) (0, 0) Q)
    (hX : 50 < (KS n sy).length → ∀ i1, Fm [65, 66, 67] [11] i i1 → Q (.ok (some (.int (nI 0)))) (94, g, i1, q, RT t)) :
    ∀ d x ks i1 E m, x + d = 14 → 1 ≤ x → s < ks.length → Fm [65, 66, 67] [11] i i1 → MFI n sy ks i1 E → MTI n sy ks i1 s x → bfs n sy m s x ks = KS n sy → (50 - s) * 14 + (15 - x) ≤ m →
      Wx m_Model_makeStates 56 [some (.ref 56), some (.int (nI s)), some (.int (nI x)), none, none] [] (94, g, i1, q, RT t) (0, 0) Q := by
  have gw := rg.2.2.2.2
  have hn := gw.1
  intro d
  induction d with
  | zero =>
    intro x ks i1 E m hx h1 hsl hf hFI hTI hb hm
    have e : x = 14 := by omega
    subst e
    obtain ⟨m, rfl⟩ : ∃ m', m = m' + 1 := ⟨m - 1, by omega⟩
    rw [bfs_s hsl (by decide)] at hb
    have hTI2 : MTI n sy ks i1 (s + 1) 1 := fun s' x' hs' hx' => by
      obtain ⟨a, b⟩ := hTI s' x' hs' hx'
      exact ⟨fun z => a (by omega), fun z => b (by omega)⟩
    refine ex_iload_n (i := 2) dX10_makeStates_56 rfl rfl ?_
    refine ex_bipush (v := nI 14) dX10_makeStates_57 (by decide) ?_
    refine ex_icmp_geN (tgt := 196) dX10_makeStates_59 (by decide) (by decide) (by decide) (fun h59 => ?_) (fun h59 => by exact absurd h59 (by decide))
    refine ex_iincN (L' := [some (.ref (56)), some (.int (nI (s + 1))), some (.int (nI (14))), none, none]) dX10_makeStates_196 rfl rfl (by decide) rfl ?_
    refine ex_goto (tgt := 46) dX10_makeStates_199 (by decide) ?_
    exact ex_less (L' := [some (.ref 56), some (.int (nI (s + 1))), none, none, none]) (by simp [xSub]) (hE ks i1 E m hsl hf hFI hTI2 hb (by omega))
  | succ d ih =>
    intro x ks i1 E m hx h1 hsl hf hFI hTI hb hm
    have hx14 : x < 14 := by omega
    have hx0 : x ≠ 0 := by omega
    obtain ⟨m, rfl⟩ : ∃ m', m = m' + 1 := ⟨m - 1, by omega⟩
    rw [bfs_x hsl hx14] at hb
    obtain ⟨Kc, hKc⟩ : ∃ K, K = ks.getD s 0 := ⟨_, rfl⟩
    have rg1 := rg.fm hf (by decide) (by decide) (by decide) (by decide)
    have h141 := h14.fm hf (by decide) (by decide)
    have hFI' := hFI
    obtain ⟨⟨f1, f2, f3, f4⟩, f5, f6, f7, f8⟩ := hFI'
    have hlt : nx n sy Kc x < 2 ^ 60 := nkU_lt (Nat.le_refl _)
    have hokc : okK n Kc := by rw [hKc]; exact (f6 s).2
    have hE0 : ∀ it, it < 75 → i1 65 (75 * s + it) = nI (E (75 * s + it)) ∧ E (75 * s + it) < 2 ∧ (E (75 * s + it) ≠ 0 → it / 5 < n ∨ it / 5 = 14) := fun it hit => by
      obtain ⟨a, b⟩ := f7 (75 * s + it) (by omega)
      refine ⟨a, b, fun z => clP_ok (sy := sy) hn hokc ?_⟩
      have := (f8 s it hsl hit).mp z
      rw [← hKc] at this; exact this
    have AFTER : ∀ f i3 F, nx n sy Kc x ≠ 0 → Fm [66] [] i1 i3 → Vw i3 66 75 F → (∀ it, it < 75 → F it < 2 ∧ (F it ≠ 0 ↔ clP n sy (kst (nx n sy Kc x)) it)) → fnd E F ks.length 0 f → Wx m_Model_makeStates 155 [some (.ref 56), some (.int (nI s)), some (.int (nI x)), none, some (.int (nI f))] [] (94, g, i3, q, RT t) (0, 0) Q := by
      intro f i3 F h0 hf3 hV3 hF hfnd
      have hf03 : Fm [65, 66, 67] [11] i i3 := hf.tr (hf3.mono (by decide) (by decide))
      have hFI3 : MFI n sy ks i3 E := hFI.T (hf3.2 11 (by decide)) (hf3.1 65 (by decide) (by decide))
      have hTI3 : MTI n sy ks i3 s x := hTI.fr (fun j _ => by rw [hf3.1 67 (by decide) (by decide)])
      have e11 : i3 56 11 = nI ks.length := hFI3.1.1
      rcases fnd_idx hFI3 hlt hF hfnd with ⟨m1, m2, m3⟩ | ⟨m1, m2⟩
      · have hst : stp n sy ks s x = ks := by unfold stp; rw [← hKc, if_pos (Or.inr m1)]
        have htg : tg n sy ks s x = f := by unfold tg; rw [← hKc, if_neg h0]; exact m2.symm
        have hT2 := MTI.T hTI3 h1 hx14 (by rw [← hKc]; exact Or.inr m1)
        rw [hst] at hb
        rw [htg] at hT2
        refine ex_iload dX10_makeStates_155 rfl ?_
        refine ex_bipush (v := nI 50) dX10_makeStates_157 (by decide) ?_
        refine ex_icmp_neN (tgt := 164) dX10_makeStates_159 (by decide) (by omega) (by omega) (fun h159 => ?_) (fun h159 => by omega)
        refine ex_iload dX10_makeStates_164 rfl ?_
        refine ex_aload_n (i := 0) dX10_makeStates_166 rfl rfl ?_
        refine ex_getI dX10_makeStates_167 fl_Model_170 rfl rfl (by decide) ?_
        refine ex_asN (a := ks.length) e11 ?_
        refine ex_icmp_neN (tgt := 177) dX10_makeStates_170 (by decide) (by omega) (by omega) (fun h170 => ?_) (fun h170 => by omega)
        refine ex_aload_n (i := 0) dX10_makeStates_177 rfl rfl ?_
        refine ex_getR (v := .ref (67)) dX10_makeStates_178 fl_Model_41 rfl rfl (by decide) rfl ?_
        refine ex_bipush (v := nI 14) dX10_makeStates_181 (by decide) ?_
        refine ex_iload_n (i := 1) dX10_makeStates_183 rfl rfl ?_
        refine ex_imulN dX10_makeStates_184 ?_
        refine ex_iload_n (i := 2) dX10_makeStates_185 rfl rfl ?_
        refine ex_iaddN dX10_makeStates_186 ?_
        refine ex_iload dX10_makeStates_187 rfl ?_
        refine ex_iastN dX10_makeStates_189 rfl (by decide) (by omega) ?_
        refine ex_iincN (L' := [some (.ref (56)), some (.int (nI (s))), some (.int (nI (x + 1))), none, some (.int (nI (f)))]) dX10_makeStates_190 rfl rfl (by decide) rfl ?_
        refine ex_goto (tgt := 56) dX10_makeStates_193 (by decide) ?_
        exact ex_less (L' := [some (.ref 56), some (.int (nI s)), some (.int (nI (x + 1))), none, none]) (by simp [xSub]) (ih (x + 1) ks _ E m (by omega) (by omega) hsl (hf03.U (by decide) (by decide)) (hFI3.T (by rw [xU_ne _ _ _ (show (56 : Nat) ≠ 67 by decide)]) (by rw [xU_ne _ _ _ (show (65 : Nat) ≠ 67 by decide)])) hT2 hb (by omega))
      · by_cases hlen : ks.length = 50
        · have hbig : 50 < (KS n sy).length := by
            have hp := bfs_pre (n := n) (sy := sy) (m := m) (s := s) (x := x + 1) (ks := stp n sy ks s x)
            rw [hb] at hp
            have h3 := hp.length_le
            have hst : (stp n sy ks s x).length = ks.length + 1 := by
              unfold stp
              rw [← hKc, if_neg (fun h => h.elim h0 m1)]; simp
            omega
          refine ex_iload dX10_makeStates_155 rfl ?_
          refine ex_bipush (v := nI 50) dX10_makeStates_157 (by decide) ?_
          refine ex_icmp_neN (tgt := 164) dX10_makeStates_159 (by decide) (by omega) (by omega) (fun h159 => by omega) (fun h159 => ?_)
          refine ex_iconst (v := nI 0) dX10_makeStates_162 (by decide) ?_
          refine ex_iret dX10_makeStates_163 rfl (by decide) ?_
          exact hX hbig i3 hf03
        · have hst : stp n sy ks s x = ks ++ [nx n sy Kc x] := by
            unfold stp
            rw [← hKc, if_neg (fun h => h.elim h0 m1)]
          have htg : tg n sy (ks ++ [nx n sy Kc x]) s x = ks.length := by
            have := tg_new (n := n) (sy := sy) (x := x) hsl (by rw [← hKc]; exact h0) (by rw [← hKc]; exact m1)
            rw [← hKc] at this; exact this
          have hKc2 : (ks ++ [nx n sy Kc x]).getD s 0 = Kc := by rw [pre_getD (List.prefix_append _ _) hsl, hKc]
          rw [hst] at hb
          refine ex_iload dX10_makeStates_155 rfl ?_
          refine ex_bipush (v := nI 50) dX10_makeStates_157 (by decide) ?_
          refine ex_icmp_neN (tgt := 164) dX10_makeStates_159 (by decide) (by omega) (by omega) (fun h159 => ?_) (fun h159 => by omega)
          refine ex_iload dX10_makeStates_164 rfl ?_
          refine ex_aload_n (i := 0) dX10_makeStates_166 rfl rfl ?_
          refine ex_getI dX10_makeStates_167 fl_Model_170 rfl rfl (by decide) ?_
          refine ex_asN (a := ks.length) e11 ?_
          refine ex_icmp_neN (tgt := 177) dX10_makeStates_170 (by decide) (by omega) (by omega) (fun h170 => by omega) (fun h170 => ?_)
          refine ex_aload_n (i := 0) dX10_makeStates_173 rfl rfl ?_
          refine ex_cV (ν := m_Model_keep) (a := 56) (ci := 10) (as := []) dX10_makeStates_174 ln_Model_176 mf_Model_keep rfl (Nat.le_of_ble_eq_true rfl) rfl rfl np_Model_keep rfl rfl ⟨(Nat.le_of_ble_eq_true rfl), (Nat.le_of_ble_eq_true rfl), (Nat.le_of_ble_eq_true rfl), (Nat.le_of_ble_eq_true rfl)⟩ (by decide) ?_
          refine sp_Model_keep e11 (by omega) (fun j hj => ⟨hV3 j hj, (hF j hj).1⟩) (fun i4 c1 c2 c3 c4 c5 c6 => ?_)
          have hFI4 := hFI3.app (by omega) hlt h0 (okK_nx hn hokc hx0) c2 c3 c4 hF
          have hTI4 := (hTI3.fr (i2 := i4) (fun j hj => by rw [c5 j (by omega)])).app (K := nx n sy Kc x) hsl (fun x' hx' => c6 x' hx')
          refine ⟨_, rfl, ?_⟩
          refine ex_aload_n (i := 0) dX10_makeStates_177 rfl rfl ?_
          refine ex_getR (v := .ref (67)) dX10_makeStates_178 fl_Model_41 rfl rfl (by decide) rfl ?_
          refine ex_bipush (v := nI 14) dX10_makeStates_181 (by decide) ?_
          refine ex_iload_n (i := 1) dX10_makeStates_183 rfl rfl ?_
          refine ex_imulN dX10_makeStates_184 ?_
          refine ex_iload_n (i := 2) dX10_makeStates_185 rfl rfl ?_
          refine ex_iaddN dX10_makeStates_186 ?_
          refine ex_iload dX10_makeStates_187 rfl ?_
          refine ex_iastN dX10_makeStates_189 rfl (by decide) (by omega) ?_
          refine ex_iincN (L' := [some (.ref (56)), some (.int (nI (s))), some (.int (nI (x + 1))), none, some (.int (nI (f)))]) dX10_makeStates_190 rfl rfl (by decide) rfl ?_
          refine ex_goto (tgt := 56) dX10_makeStates_193 (by decide) ?_
          have hT2 := MTI.T hTI4 h1 hx14 (by rw [hKc2]; exact Or.inr (by simp))
          rw [htg, ← m2] at hT2
          exact ex_less (L' := [some (.ref 56), some (.int (nI s)), some (.int (nI (x + 1))), none, none]) (by simp [xSub]) (ih (x + 1) _ _ _ m (by omega) (by omega) (by simp; omega) ((hf03.tr (c1.mono (by decide) (by decide))).U (by decide) (by decide)) (hFI4.T (by rw [xU_ne _ _ _ (show (56 : Nat) ≠ 67 by decide)]) (by rw [xU_ne _ _ _ (show (65 : Nat) ≠ 67 by decide)])) hT2 hb (by omega))
    have CONT : ∀ any i2 F0, Fm [66] [] i1 i2 → Vw i2 66 75 F0 → (∀ j, j < 75 → F0 j < 2) → (∀ it, it < 75 → (F0 it ≠ 0 ↔ ∃ j, it = j + 1 ∧ E (75 * s + j) ≠ 0 ∧ bh sy j = x)) → any < 2 → (any = 1 ↔ ∃ j, j < 75 ∧ E (75 * s + j) ≠ 0 ∧ bh sy j = x) → Wx m_Model_makeStates 141 [some (.ref 56), some (.int (nI s)), some (.int (nI x)), some (.int (nI any)), none] [] (94, g, i2, q, RT t) (0, 0) Q := by
      intro any i2 F0 hf2 hV2 h01 hF0 ha2 han
      have hEj : ∀ j, j < 75 → (E (75 * s + j) ≠ 0 ↔ clP n sy (kst Kc) j) := fun j hj => by rw [hKc]; exact f8 s j hsl hj
      have hf02 : Fm [65, 66, 67] [11] i i2 := hf.tr (hf2.mono (by decide) (by decide))
      have hFI2 : MFI n sy ks i2 E := hFI.T (hf2.2 11 (by decide)) (hf2.1 65 (by decide) (by decide))
      have hTI2 : MTI n sy ks i2 s x := hTI.fr (fun j _ => by rw [hf2.1 67 (by decide) (by decide)])
      by_cases h0 : nx n sy Kc x = 0
      · have a0 : any = 0 := by
          have : ¬ any = 1 := fun z => by
            obtain ⟨j, j1, j2, j3⟩ := han.mp z
            exact (nx_0 hx0).mp h0 j j1 ⟨(hEj j j1).mp j2, j3⟩
          omega
        have hst : stp n sy ks s x = ks := by unfold stp; rw [← hKc, if_pos (Or.inl h0)]
        have hT2 := MTI.T0 hTI2 h1 hx14 (by rw [← hKc]; exact h0)
        rw [hst] at hb
        refine ex_iload_n (i := 3) dX10_makeStates_141 rfl rfl ?_
        refine ex_if_eqN (tgt := 190) dX10_makeStates_142 (by decide) (by omega) (fun h142 => ?_) (fun h142 => by omega)
        refine ex_iincN (L' := [some (.ref (56)), some (.int (nI (s))), some (.int (nI (x + 1))), some (.int (nI (any))), none]) dX10_makeStates_190 rfl rfl (by decide) rfl ?_
        refine ex_goto (tgt := 56) dX10_makeStates_193 (by decide) ?_
        exact ex_less (L' := [some (.ref 56), some (.int (nI s)), some (.int (nI (x + 1))), none, none]) (by simp [xSub]) (ih (x + 1) ks _ E m (by omega) (by omega) hsl hf02 hFI2 hT2 hb (by omega))
      · have a1 : any = 1 := by
          refine han.mpr (Classical.byContradiction fun z => h0 ((nx_0 hx0).mpr (fun j hj hc => z ⟨j, hj, (hEj j hj).mpr hc.1, hc.2⟩)))
        have rg2 := rg.fm hf02 (by decide) (by decide) (by decide) (by decide)
        have g142 := h14.fm hf02 (by decide) (by decide)
        have hkst : ∀ it, it < 75 → (F0 it ≠ 0 ↔ kst (nx n sy Kc x) it) := fun it hit => by
          rw [hF0 it hit, nx_kst hx0 h0 hit]
          exact ⟨fun ⟨j, j1, j2, j3⟩ => ⟨j, j1, (hEj j (by omega)).mp j2, j3⟩, fun ⟨j, j1, j2, j3⟩ => ⟨j, j1, (hEj j (by omega)).mpr j2, j3⟩⟩
        have hok2 := okK_nx (sy := sy) (x := x) hn hokc hx0
        refine ex_iload_n (i := 3) dX10_makeStates_141 rfl rfl ?_
        refine ex_if_eqN (tgt := 190) dX10_makeStates_142 (by decide) (by omega) (fun h142 => by omega) (fun h142 => ?_)
        refine ex_aload_n (i := 0) dX10_makeStates_145 rfl rfl ?_
        refine ex_cV (ν := m_Model_complete) (a := 56) (ci := 10) (as := []) dX10_makeStates_146 ln_Model_173 mf_Model_complete rfl (Nat.le_of_ble_eq_true rfl) rfl rfl np_Model_complete rfl rfl ⟨(Nat.le_of_ble_eq_true rfl), (Nat.le_of_ble_eq_true rfl), (Nat.le_of_ble_eq_true rfl), (Nat.le_of_ble_eq_true rfl)⟩ (by decide) ?_
        refine sp_Model_complete rg2 g142 hV2 h01 (fun j hj z => hok2 j hj ((hkst j hj).mp z)) (fun i3 F b1 b2 b3 b4 => ?_)
        have hFF : ∀ it, it < 75 → F it < 2 ∧ (F it ≠ 0 ↔ clP n sy (kst (nx n sy Kc x)) it) := fun it hit => ⟨b3 it hit, (b4 it hit).trans (clP_congr hkst)⟩
        have hf13 : Fm [66] [] i1 i3 := hf2.tr b1
        have hFI3 : MFI n sy ks i3 E := hFI.T (hf13.2 11 (by decide)) (hf13.1 65 (by decide) (by decide))
        refine ⟨_, rfl, ?_⟩
        refine ex_aload_n (i := 0) dX10_makeStates_149 rfl rfl ?_
        refine ex_cV (ν := m_Model_find) (a := 56) (ci := 10) (as := []) dX10_makeStates_150 ln_Model_179 mf_Model_find rfl (Nat.le_of_ble_eq_true rfl) rfl rfl np_Model_find rfl rfl ⟨(Nat.le_of_ble_eq_true rfl), (Nat.le_of_ble_eq_true rfl), (Nat.le_of_ble_eq_true rfl), (Nat.le_of_ble_eq_true rfl)⟩ (by decide) ?_
        refine sp_Model_find (E := E) (F := F) hFI3.1.1 f3 f2 hFI3.2.2.2.1 (fun j hj => ⟨b2 j hj, b3 j hj⟩) (fun f hfnd => ?_)
        refine ⟨_, rfl, ?_⟩
        refine ex_istore (L' := [some (.ref (56)), some (.int (nI (s))), some (.int (nI (x))), some (.int (nI (any))), some (.int (nI (f)))]) dX10_makeStates_153 (by decide) rfl ?_
        exact ex_less (L' := [some (.ref 56), some (.int (nI s)), some (.int (nI x)), none, some (.int (nI f))]) (by simp [xSub]) (AFTER f i3 F h0 hf13 b2 hFF hfnd)
    have MARK := lp_Model_mark (E := E) (s := s) (x := x) (g := g) (q := q) (t := t) (Q := Q) rg1 h141 hs50 ⟨h1, hx14⟩ hE0 CONT
    refine ex_iload_n (i := 2) dX10_makeStates_56 rfl rfl ?_
    refine ex_bipush (v := nI 14) dX10_makeStates_57 (by decide) ?_
    refine ex_icmp_geN (tgt := 196) dX10_makeStates_59 (by decide) (by omega) (by omega) (fun h59 => by omega) (fun h59 => ?_)
    exact MARK
theorem sp_Model_makeStates (rg : RG i n sy) (h14 : RG14 i sy)
    (hE : (KS n sy).length ≤ 50 → ∀ i1 E, Fm [65, 66, 67] [11] i i1 → MFI n sy (KS n sy) i1 E → MTI n sy (KS n sy) i1 (KS n sy).length 1 → Q (.ok (some (.int (nI 1)))) (94, g, i1, q, RT t))
    (hX : 50 < (KS n sy).length → ∀ i1, Fm [65, 66, 67] [11] i i1 → Q (.ok (some (.int (nI 0)))) (94, g, i1, q, RT t)) :
    Wx m_Model_makeStates 0 [some (.ref 56), none, none, none, none] [] (94, g, i, q, RT t) (0, 0) Q := by
  have outer : ∀ d s ks i1 E m, s + d = 51 → Fm [65, 66, 67] [11] i i1 → MFI n sy ks i1 E → MTI n sy ks i1 s 1 → s ≤ ks.length → bfs n sy m s 1 ks = KS n sy → (50 - s) * 14 + 14 ≤ m → Wx m_Model_makeStates 46 [some (.ref 56), some (.int (nI s)), none, none, none] [] (94, g, i1, q, RT t) (0, 0) Q := by
    intro d
    induction d with
    | zero =>
      intro s ks i1 E m hs hf hFI hTI hsl hb hm
      have := hFI.1.2.2.1
      omega
    | succ d ih =>
      intro s ks i1 E m hs hf hFI hTI hsl hb hm
      have f1 := hFI.1.1
      have f3 := hFI.1.2.2.1
      by_cases hend : s = ks.length
      · have hb2 := hb
        rw [bfs_end (by omega)] at hb2
        refine ex_iload_n (i := 1) dX10_makeStates_46 rfl rfl ?_
        refine ex_aload_n (i := 0) dX10_makeStates_47 rfl rfl ?_
        refine ex_getI dX10_makeStates_48 fl_Model_170 rfl rfl (by decide) ?_
        refine ex_asN (a := ks.length) f1 ?_
        refine ex_icmp_geN (tgt := 202) dX10_makeStates_51 (by decide) (by omega) (by omega) (fun h51 => ?_) (fun h51 => by omega)
        refine ex_iconst (v := nI 1) dX10_makeStates_202 (by decide) ?_
        refine ex_iret dX10_makeStates_203 rfl (by decide) ?_
        subst hend
        rw [← hb2] at hE
        exact hE f3 i1 E hf hFI hTI
      · have X := lp_Model_ms_x (s := s) (g := g) (q := q) (t := t) (Q := Q) rg h14 (by omega) (fun ks2 i2 E2 m2 a1 a2 a3 a4 a5 a6 => ih (s + 1) ks2 i2 E2 m2 (by omega) a2 a3 a4 (by omega) a5 (by omega)) hX 13 1 ks i1 E m rfl (by decide) (by omega) hf hFI hTI hb (by omega)
        refine ex_iload_n (i := 1) dX10_makeStates_46 rfl rfl ?_
        refine ex_aload_n (i := 0) dX10_makeStates_47 rfl rfl ?_
        refine ex_getI dX10_makeStates_48 fl_Model_170 rfl rfl (by decide) ?_
        refine ex_asN (a := ks.length) f1 ?_
        refine ex_icmp_geN (tgt := 202) dX10_makeStates_51 (by decide) (by omega) (by omega) (fun h51 => by omega) (fun h51 => ?_)
        refine ex_iconst (v := nI 1) dX10_makeStates_54 (by decide) ?_
        refine ex_istore_n (L' := [some (.ref (56)), some (.int (nI (s))), some (.int (nI (1))), none, none]) dX10_makeStates_55 (i := 2) rfl (by decide) rfl ?_
        exact X
  have ks0 : ∀ j, ([0] : List Nat).getD j 0 = 0 := fun j => by
    cases j with
    | zero => rfl
    | succ j => simp [List.getD_eq_getElem?_getD]
  have START : ∀ i1, Fm [65, 66, 67] [11] i i1 → i1 56 11 = nI 0 → (∀ j, j < 75 → i1 66 j = nI (if j = 70 then 1 else 0)) → Wx m_Model_makeStates 36 [some (.ref 56), none, none, none, none] [] (94, g, i1, q, RT t) (0, 0) Q := by
    intro i1 hf e11 h66
    have rg1 := rg.fm hf (by decide) (by decide) (by decide) (by decide)
    have h141 := h14.fm hf (by decide) (by decide)
    have hk0 : ∀ j, j < 75 → ((if j = 70 then 1 else 0) ≠ 0 ↔ kst 0 j) := fun j hj => by
      unfold kst
      by_cases e : j = 70
      · rw [if_pos e]; exact ⟨fun _ => Or.inl ⟨rfl, e⟩, fun _ => by decide⟩
      · rw [if_neg e]
        exact ⟨fun z => absurd rfl z, fun z => z.elim (fun y => absurd y.2 e) (fun y => absurd (Nat.zero_and _) y)⟩
    refine ex_aload_n (i := 0) dX10_makeStates_36 rfl rfl ?_
    refine ex_cV (ν := m_Model_complete) (a := 56) (ci := 10) (as := []) dX10_makeStates_37 ln_Model_173 mf_Model_complete rfl (Nat.le_of_ble_eq_true rfl) rfl rfl np_Model_complete rfl rfl ⟨(Nat.le_of_ble_eq_true rfl), (Nat.le_of_ble_eq_true rfl), (Nat.le_of_ble_eq_true rfl), (Nat.le_of_ble_eq_true rfl)⟩ (by decide) ?_
    refine sp_Model_complete (F0 := fun j => if j = 70 then 1 else 0) rg1 h141 h66 (fun j _ => by split <;> decide) (fun j hj z => okK_0 j hj ((hk0 j hj).mp z)) (fun i2 F b1 b2 b3 b4 => ?_)
    have hFF : ∀ it, it < 75 → F it < 2 ∧ (F it ≠ 0 ↔ clP n sy (kst 0) it) := fun it hit => ⟨b3 it hit, (b4 it hit).trans (clP_congr hk0)⟩
    have e112 : i2 56 11 = nI 0 := by rw [b1.2 11 (by decide)]; exact e11
    refine ⟨_, rfl, ?_⟩
    refine ex_aload_n (i := 0) dX10_makeStates_40 rfl rfl ?_
    refine ex_cV (ν := m_Model_keep) (a := 56) (ci := 10) (as := []) dX10_makeStates_41 ln_Model_176 mf_Model_keep rfl (Nat.le_of_ble_eq_true rfl) rfl rfl np_Model_keep rfl rfl ⟨(Nat.le_of_ble_eq_true rfl), (Nat.le_of_ble_eq_true rfl), (Nat.le_of_ble_eq_true rfl), (Nat.le_of_ble_eq_true rfl)⟩ (by decide) ?_
    refine sp_Model_keep (F := F) e112 (by decide) (fun j hj => ⟨b2 j hj, b3 j hj⟩) (fun i3 c1 c2 c3 c4 c5 c6 => ?_)
    refine ⟨_, rfl, ?_⟩
    refine ex_iconst (v := nI 0) dX10_makeStates_44 (by decide) ?_
    refine ex_istore_n (L' := [some (.ref (56)), some (.int (nI (0))), none, none, none]) dX10_makeStates_45 (i := 1) rfl (by decide) rfl ?_
    refine outer 51 0 [0] i3 F 1000 (by omega) ((hf.tr (b1.mono (by decide) (by decide))).tr (c1.mono (by decide) (by decide))) ⟨⟨c2, by decide, by decide, rfl⟩, fun j h0 hj => by simp at hj; omega, fun j => ?_, fun j hj => ?_, fun j it hj hit => ?_⟩ (fun s' x' hs' hx' => ?_) (Nat.zero_le _) rfl (by decide)
    · rw [ks0]; exact ⟨Nat.two_pow_pos 60, okK_0⟩
    · have hj75 : j < 75 := hj
      have := c4 j hj75
      rw [show 75 * 0 + j = j by omega] at this
      exact ⟨this, (hFF j hj75).1⟩
    · have e : j = 0 := by simp at hj; omega
      subst e
      rw [ks0, show 75 * 0 + it = it by omega]
      exact (hFF it hit).2
    · have e : s' = 0 := by simp at hs'; omega
      subst e
      exact ⟨fun z => by omega, fun _ => c6 x' hx'⟩
  have L0 : ∀ d k i1, k + d = 75 → Fm [65, 66, 67] [11] i i1 → i1 56 11 = nI 0 → (∀ j, j < k → i1 66 j = nI (if j = 70 then 1 else 0)) → Wx m_Model_makeStates 7 [some (.ref 56), some (.int (nI k)), none, none, none] [] (94, g, i1, q, RT t) (0, 0) Q := by
    intro d
    induction d with
    | zero =>
      intro k i1 hk hf e11 h
      have e : k = 75 := hk
      subst e
      refine ex_iload_n (i := 1) dX10_makeStates_7 rfl rfl ?_
      refine ex_bipush (v := nI 75) dX10_makeStates_8 (by decide) ?_
      refine ex_icmp_geN (tgt := 36) dX10_makeStates_10 (by decide) (by decide) (by decide) (fun h10 => ?_) (fun h10 => by exact absurd h10 (by decide))
      exact ex_less (L' := [some (.ref 56), none, none, none, none]) (by simp [xSub]) (START i1 hf e11 h)
    | succ d ih =>
      intro k i1 hk hf e11 h
      by_cases c : k = 70
      ·
        refine ex_iload_n (i := 1) dX10_makeStates_7 rfl rfl ?_
        refine ex_bipush (v := nI 75) dX10_makeStates_8 (by decide) ?_
        refine ex_icmp_geN (tgt := 36) dX10_makeStates_10 (by decide) (by omega) (by omega) (fun h10 => by omega) (fun h10 => ?_)
        refine ex_aload_n (i := 0) dX10_makeStates_13 rfl rfl ?_
        refine ex_getR (v := .ref (66)) dX10_makeStates_14 fl_Model_38 rfl rfl (by decide) rfl ?_
        refine ex_iload_n (i := 1) dX10_makeStates_17 rfl rfl ?_
        refine ex_iload_n (i := 1) dX10_makeStates_18 rfl rfl ?_
        refine ex_bipush (v := nI 70) dX10_makeStates_19 (by decide) ?_
        refine ex_icmp_neN (tgt := 28) dX10_makeStates_21 (by decide) (by omega) (by omega) (fun h21 => by omega) (fun h21 => ?_)
        refine ex_iconst (v := nI 1) dX10_makeStates_24 (by decide) ?_
        refine ex_goto (tgt := 29) dX10_makeStates_25 (by decide) ?_
        refine ex_bastN dX10_makeStates_29 rfl (by decide) (by decide) (by omega) ?_
        refine ex_iincN (L' := [some (.ref (56)), some (.int (nI (k + 1))), none, none, none]) dX10_makeStates_30 rfl rfl (by decide) rfl ?_
        refine ex_goto (tgt := 7) dX10_makeStates_33 (by decide) ?_
        refine ih (k + 1) _ (by omega) (hf.U (by decide) (by decide)) (by rw [xU_ne _ _ _ (show (56 : Nat) ≠ 66 by decide)]; exact e11) (fun j hj => ?_)
        rw [xU_at]; unfold upd
        by_cases e : j = k
        · rw [if_pos e, if_pos (by omega)]
        · rw [if_neg e]; exact h j (by omega)
      ·
        refine ex_iload_n (i := 1) dX10_makeStates_7 rfl rfl ?_
        refine ex_bipush (v := nI 75) dX10_makeStates_8 (by decide) ?_
        refine ex_icmp_geN (tgt := 36) dX10_makeStates_10 (by decide) (by omega) (by omega) (fun h10 => by omega) (fun h10 => ?_)
        refine ex_aload_n (i := 0) dX10_makeStates_13 rfl rfl ?_
        refine ex_getR (v := .ref (66)) dX10_makeStates_14 fl_Model_38 rfl rfl (by decide) rfl ?_
        refine ex_iload_n (i := 1) dX10_makeStates_17 rfl rfl ?_
        refine ex_iload_n (i := 1) dX10_makeStates_18 rfl rfl ?_
        refine ex_bipush (v := nI 70) dX10_makeStates_19 (by decide) ?_
        refine ex_icmp_neN (tgt := 28) dX10_makeStates_21 (by decide) (by omega) (by omega) (fun h21 => ?_) (fun h21 => by omega)
        refine ex_iconst (v := nI 0) dX10_makeStates_28 (by decide) ?_
        refine ex_bastN dX10_makeStates_29 rfl (by decide) (by decide) (by omega) ?_
        refine ex_iincN (L' := [some (.ref (56)), some (.int (nI (k + 1))), none, none, none]) dX10_makeStates_30 rfl rfl (by decide) rfl ?_
        refine ex_goto (tgt := 7) dX10_makeStates_33 (by decide) ?_
        refine ih (k + 1) _ (by omega) (hf.U (by decide) (by decide)) (by rw [xU_ne _ _ _ (show (56 : Nat) ≠ 66 by decide)]; exact e11) (fun j hj => ?_)
        rw [xU_at]; unfold upd
        by_cases e : j = k
        · rw [if_pos e, if_neg (by omega)]
        · rw [if_neg e]; exact h j (by omega)
  refine ex_aload_n (i := 0) dX10_makeStates_0 rfl rfl ?_
  refine ex_iconst (v := nI 0) dX10_makeStates_1 (by decide) ?_
  refine ex_putI dX10_makeStates_2 fl_Model_170 cf_10 rfl (Or.inl rfl) rfl rfl rfl (by decide) ?_
  refine ex_iconst (v := nI 0) dX10_makeStates_5 (by decide) ?_
  refine ex_istore_n (L' := [some (.ref (56)), some (.int (nI (0))), none, none, none]) dX10_makeStates_6 (i := 1) rfl (by decide) rfl ?_
  exact L0 75 0 _ rfl (Fm.rf.F (by decide)) (by rw [xU_at]; simp [upd]) (fun j h => by omega)
end S68
