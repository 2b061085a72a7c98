/-! ===== States.findAll ===== -/
def SBd (i : Nat → Nat → Int32) : Prop := (∃ F, Vw i 22 3750 F ∧ ∀ j, j < 3750 → F j < 256) ∧ ∀ s, s < 50 → i 24 (s * 14) = 0
theorem FI.T {n : Nat} {sy : Nat → Nat → Nat} {ks : List Nat} {i1 : Nat → Nat → Int32} {q1 : Nat → Nat → Int64} {F : Nat → Nat} {a k : Nat} {x : Int32} (h : FI n sy ks i1 q1 F a) : FI n sy ks (xU i1 24 k x) q1 F a := by
  obtain ⟨⟨a1, a2⟩, h2, h3, h4, h5, h6⟩ := h
  exact ⟨⟨by rw [xU_ne _ _ _ (by decide)]; exact a1, a2⟩, h2, h3, h4, h5.ne (by decide), h6⟩
theorem TI.T {n : Nat} {sy : Nat → Nat → Nat} {ks : List Nat} {i1 : Nat → Nat → Int32} {s x : Nat} (h : TI n sy ks i1 s x) (h1 : 1 ≤ x) (hx : x < 14) (hm : nx n sy (ks.getD s 0) x = 0 ∨ nx n sy (ks.getD s 0) x ∈ ks) : TI n sy ks (xU i1 24 (s * 14 + x) (nI (tg n sy ks s x))) s (x + 1) := by
  obtain ⟨hc, ht⟩ := h
  refine ⟨fun s' hs' => ?_, fun s' x' hs' a1 a2 a3 => ?_⟩
  · rw [xU_at]; unfold upd; rw [if_neg (by omega)]; exact hc s' hs'
  · by_cases e : s' = s ∧ x' = x
    · obtain ⟨rfl, rfl⟩ := e
      refine ⟨hm, ?_⟩
      rw [xU_at]; unfold upd; rw [if_pos rfl]
    · obtain ⟨b1, b2⟩ := ht s' x' hs' a1 a2 (by omega)
      refine ⟨b1, ?_⟩
      rw [xU_at]; unfold upd; rw [if_neg (by omega)]; exact b2
theorem TI.fr {n : Nat} {sy : Nat → Nat → Nat} {ks : List Nat} {i1 i2 : Nat → Nat → Int32} {s x : Nat} (h : TI n sy ks i1 s x) (e : i2 24 = i1 24) : TI n sy ks i2 s x := by
  unfold TI at h ⊢
  rw [e]; exact h
theorem TI.app {n : Nat} {sy : Nat → Nat → Nat} {ks l : List Nat} {i1 : Nat → Nat → Int32} {s x : Nat} (h : TI n sy ks i1 s x) (hp : ks <+: l) (hs : s < ks.length) : TI n sy l i1 s x := by
  obtain ⟨hc, ht⟩ := h
  refine ⟨hc, fun s' x' hs' a1 a2 a3 => ?_⟩
  have hs2 : s' < ks.length := by omega
  obtain ⟨b1, b2⟩ := ht s' x' hs2 a1 a2 a3
  refine ⟨?_, by rw [tg_pre hp hs2 b1]; exact b2⟩
  rw [pre_getD hp hs2]
  rcases b1 with b1 | b1
  · exact Or.inl b1
  · exact Or.inr (hp.subset b1)
theorem FI.app {n : Nat} {sy : Nat → Nat → Nat} {ks : List Nat} {i1 i2 : Nat → Nat → Int32} {q1 : Nat → Nat → Int64} {F F1 : Nat → Nat} {a K : Nat} (h : FI n sy ks i1 q1 F a) (ha : a ≤ ks.length) (hl : ks.length < 50) (hK : K < 2 ^ 60) (hK0 : K ≠ 0)
    (h6 : i2 16 6 = nI (ks.length + 1)) (hV : Vw i2 22 3750 F1) (hF1 : ∀ j, ¬ (ks.length * 75 ≤ j ∧ j < ks.length * 75 + 75) → F1 j = F j) (hF2 : ∀ it, it < 75 → (F1 (ks.length * 75 + it) = 0 ∨ F1 (ks.length * 75 + it) = 128) ∧ (F1 (ks.length * 75 + it) ≠ 0 ↔ kst K it)) : FI n sy (ks ++ [K]) i2 (xUL q1 18 ks.length (lN K)) F1 a := by
  obtain ⟨⟨a1, a2, a3, a4⟩, h2, h3, h4, h5, h7, h8⟩ := h
  have hlen : (ks ++ [K]).length = ks.length + 1 := by simp
  have hg1 : ∀ j, j < ks.length → (ks ++ [K]).getD j 0 = ks.getD j 0 := fun j hj => pre_getD (List.prefix_append _ _) hj
  have hg2 : (ks ++ [K]).getD ks.length 0 = K := by simp [List.getD_eq_getElem?_getD]
  refine ⟨⟨by rw [hlen]; exact h6, by omega, by omega, by rw [hg1 0 (by omega)]; exact a4⟩, fun j hj => ?_, fun j h0 hj => ?_, fun j => ?_, hV, fun j hj => ?_, fun j it hj hit => ?_⟩
  · rw [xUL_at]; unfold vp_updL
    by_cases e : j = ks.length
    · subst e; rw [if_pos rfl, hg2]
    · rw [if_neg e, hg1 j (by omega)]; exact h2 j (by omega)
  · by_cases e : j = ks.length
    · subst e; rw [hg2]; exact hK0
    · rw [hg1 j (by omega)]; exact h3 j h0 (by omega)
  · by_cases e : j = ks.length
    · subst e; rw [hg2]; exact hK
    · by_cases e2 : j < ks.length
      · rw [hg1 j e2]; exact h4 j
      · have : (ks ++ [K]).getD j 0 = 0 := by
          rw [List.getD_eq_getElem?_getD, List.getElem?_eq_none (by rw [hlen]; omega)]; rfl
        rw [this]; exact Nat.two_pow_pos 60
  · by_cases e : ks.length * 75 ≤ j ∧ j < ks.length * 75 + 75
    · have := (hF2 (j - ks.length * 75) (by omega)).1
      rw [show ks.length * 75 + (j - ks.length * 75) = j by omega] at this
      omega
    · rw [hF1 j e]; exact h7 j hj
  · by_cases e : j = ks.length
    · subst e
      rw [hg2]
      exact ⟨(hF2 it hit).1, fun h => by omega, fun _ => (hF2 it hit).2⟩
    · rw [hF1 _ (by omega), hg1 j (by omega)]
      exact h8 j it (by omega) hit
theorem FI.sbd {n : Nat} {sy : Nat → Nat → Nat} {ks : List Nat} {i1 : Nat → Nat → Int32} {q1 : Nat → Nat → Int64} {F : Nat → Nat} {a s x : Nat} (h : FI n sy ks i1 q1 F a) (ht : TI n sy ks i1 s x) : SBd i1 := ⟨⟨F, h.2.2.2.2.1, h.2.2.2.2.2.1⟩, ht.1⟩
theorem tg_new {n : Nat} {sy : Nat → Nat → Nat} {ks : List Nat} {s x : Nat} (hs : s < ks.length) (h0 : nx n sy (ks.getD s 0) x ≠ 0) (hn : nx n sy (ks.getD s 0) x ∉ ks) : tg n sy (ks ++ [nx n sy (ks.getD s 0) x]) s x = ks.length := by
  unfold tg
  rw [pre_getD (List.prefix_append _ _) hs, if_neg h0, List.idxOf_append, if_neg hn]
  simp
section S23
variable {ζ g : Nat} {i : Nat → Nat → Int32} {q : Nat → Nat → Int64} {t : Bool} {Q : xRes → xMem → Prop} {n : Nat} {sy : Nat → Nat → Nat}
theorem lp_States_findAll_in {s Kc : Nat} (sc : SC i) (gs : GS i n sy) (hs50 : s < 50)
    (hE : ∀ ks i1 q1 F m, s < ks.length → Fr [16, 22, 24] i i1 → qfr q q1 → FI n sy ks i1 q1 F (s + 1) → TI n sy ks i1 s 14 → bfs n sy m (s + 1) 1 ks = KS n sy → (49 - s) * 14 + 14 ≤ m → Wx m_States_findAll 12 [some (.ref 16), some (.int (nI (s + 1))), none, none, none, none] [] (56 + ζ, g, i1, q1, RT t) (0, 0) Q)
    (hX : 50 < (KS n sy).length → ∀ i1 q1, Fr [16, 22, 24] i i1 → qfr q q1 → SBd i1 → Q (.ok (some (.int (nI 0)))) (56 + ζ, g, i1, q1, RT t)) :
    ∀ d x ks i1 q1 F m, x + d = 14 → 1 ≤ x → s < ks.length → ks.getD s 0 = Kc → Fr [16, 22, 24] i i1 → qfr q q1 → FI n sy ks i1 q1 F (s + 1) → TI n sy ks i1 s x → (∀ x', 1 ≤ x' → x' < 14 → q1 20 x' = lN (nx n sy Kc x')) → bfs n sy m s x ks = KS n sy → (50 - s) * 14 + (15 - x) ≤ m →
      Wx m_States_findAll 38 [some (.ref 16), some (.int (nI s)), some (.int (nI x)), none, none, none] [] (56 + ζ, g, i1, q1, RT t) (0, 0) Q := by
  intro d
  induction d with
  | zero =>
    intro x ks i1 q1 F m hx h1 hsl hKc hf hqf hFI hTI hnx hb hm
    have e : x = 14 := by omega
    subst e
    obtain ⟨m, rfl⟩ : ∃ m', m = m' + 1 := ⟨m - 1, by omega⟩
    rw [bfs_s hsl (by decide)] at hb
    refine ex_iload_n (i := 2) dX7_findAll_38 rfl rfl ?_
    refine ex_bipush (v := nI 14) dX7_findAll_39 (by decide) ?_
    refine ex_icmp_geN (tgt := 96) dX7_findAll_41 (by decide) (by decide) (by decide) (fun h41 => ?_) (fun h41 => by exact absurd h41 (by decide))
    refine ex_iincN (L' := [some (.ref (16)), some (.int (nI (s + 1))), some (.int (nI (14))), none, none, none]) dX7_findAll_96 rfl rfl (by decide) rfl ?_
    refine ex_goto (tgt := 12) dX7_findAll_99 (by decide) ?_
    exact ex_less (L' := [some (.ref 16), some (.int (nI (s + 1))), none, none, none, none]) (by simp [xSub]) (hE ks i1 q1 F m hsl hf hqf hFI hTI hb (by omega))
  | succ d ih =>
    intro x ks i1 q1 F m hx h1 hsl hKc hf hqf hFI hTI hnx hb hm
    have hx14 : x < 14 := by omega
    obtain ⟨m, rfl⟩ : ∃ m', m = m' + 1 := ⟨m - 1, by omega⟩
    rw [bfs_x hsl hx14] at hb
    have sc1 := SC_Fr (by decide) hf sc
    have gs1 := gs.fr hf (by decide) (by decide)
    have hv := hnx x h1 hx14
    have hlt : nx n sy Kc x < 2 ^ 60 := nkU_lt (Nat.le_refl _)
    by_cases h0 : nx n sy Kc x = 0
    · have hst : stp n sy ks s x = ks := by unfold stp; rw [hKc, if_pos (Or.inl h0)]
      have htg : tg n sy ks s x = 0 := by unfold tg; rw [hKc, if_pos h0]
      have hlg := (lg_z hlt).mpr h0
      have hT2 := TI.T hTI h1 hx14 (by rw [hKc]; exact Or.inl h0)
      rw [hst] at hb
      rw [htg] at hT2
      refine ex_iload_n (i := 2) dX7_findAll_38 rfl rfl ?_
      refine ex_bipush (v := nI 14) dX7_findAll_39 (by decide) ?_
      refine ex_icmp_geN (tgt := 96) dX7_findAll_41 (by decide) (by omega) (by omega) (fun h41 => by omega) (fun h41 => ?_)
      refine ex_aload_n (i := 0) dX7_findAll_44 rfl rfl ?_
      refine ex_getR (v := .ref (19)) dX7_findAll_45 fl_States_24 rfl rfl (l56 (by decide)) rfl ?_
      refine ex_iload_n (i := 2) dX7_findAll_48 rfl rfl ?_
      refine ex_cV (ν := m_LongRow_get) (a := 19) (ci := 3) (as := [.int (nI (x))]) dX7_findAll_49 ln_States_75 mf_LongRow_get rfl (l56 (by decide)) rfl rfl np_LongRow_get rfl rfl ⟨(Nat.le_of_ble_eq_true rfl), (Nat.le_of_ble_eq_true rfl), (Nat.le_of_ble_eq_true rfl), (Nat.le_of_ble_eq_true rfl)⟩ (by decide) ?_
      refine sp_LongRow_get (r := 19) (c := 20) rfl rfl rfl (l56 (by decide)) (l56 (by decide)) (by omega) ?_
      refine ⟨_, rfl, ?_⟩
      refine ex_asJ hv ?_
      refine ex_lstore_n (L' := [some (.ref (16)), some (.int (nI (s))), some (.int (nI (x))), some (.long (lN (nx n sy Kc x))), none, none]) dX7_findAll_52 (i := 3) rfl (by decide) rfl ?_
      refine ex_lload_n (i := 3) dX7_findAll_53 rfl rfl ?_
      refine ex_lconst (v := 0) dX7_findAll_54 (by decide) ?_
      refine ex_lcmp dX7_findAll_55 ?_
      refine ex_if_ne (tgt := 63) dX7_findAll_56 (by decide) (fun h56 => by exact absurd hlg h56) (fun h56 => ?_)
      refine ex_iconst (v := nI 0) dX7_findAll_59 (by decide) ?_
      refine ex_goto (tgt := 68) dX7_findAll_60 (by decide) ?_
      refine ex_istore (L' := [some (.ref (16)), some (.int (nI (s))), some (.int (nI (x))), some (.long (lN (nx n sy Kc x))), none, some (.int (nI (0)))]) dX7_findAll_68 (by decide) rfl ?_
      refine ex_iload dX7_findAll_70 rfl ?_
      refine ex_bipush (v := nI 50) dX7_findAll_72 (by decide) ?_
      refine ex_icmp_ltN (tgt := 79) dX7_findAll_74 (by decide) (by decide) (by decide) (fun h74 => ?_) (fun h74 => by exact absurd h74 (by decide))
      refine ex_aload_n (i := 0) dX7_findAll_79 rfl rfl ?_
      refine ex_getR (v := .ref (23)) dX7_findAll_80 fl_States_36 rfl rfl (l56 (by decide)) rfl ?_
      refine ex_iload_n (i := 1) dX7_findAll_83 rfl rfl ?_
      refine ex_iload_n (i := 2) dX7_findAll_84 rfl rfl ?_
      refine ex_iload dX7_findAll_85 rfl ?_
      refine ex_cV (ν := m_Grid_set) (a := 23) (ci := 2) (as := [.int (nI (s)), .int (nI (x)), .int (nI (0))]) dX7_findAll_87 ln_States_82 mf_Grid_set rfl (l56 (by decide)) rfl rfl np_Grid_set rfl rfl ⟨(Nat.le_of_ble_eq_true rfl), (Nat.le_of_ble_eq_true rfl), (Nat.le_of_ble_eq_true rfl), (Nat.le_of_ble_eq_true rfl)⟩ (by decide) ?_
      refine sp_Grid_set (r := 23) (c := 24) rfl rfl rfl (l56 (by decide)) (l56 (by decide)) (sc_23_0 sc1) (sc_23_1 sc1) rfl (by omega) (by omega) ?_
      refine ⟨_, rfl, ?_⟩
      refine ex_iincN (L' := [some (.ref (16)), some (.int (nI (s))), some (.int (nI (x + 1))), some (.long (lN (nx n sy Kc x))), none, some (.int (nI (0)))]) dX7_findAll_90 rfl rfl (by decide) rfl ?_
      refine ex_goto (tgt := 38) dX7_findAll_93 (by decide) ?_
      exact ex_less (L' := [some (.ref 16), some (.int (nI s)), some (.int (nI (x + 1))), none, none, none]) (by simp [xSub]) (ih (x + 1) ks _ q1 F m (by omega) (by omega) hsl hKc (hf.U (by decide)) hqf hFI.T hT2 hnx hb (by omega))
    · have hlg : ¬ lg_cmp (lN (nx n sy Kc x)) 0 = 0 := fun h => h0 ((lg_z hlt).mp h)
      have hFI' := hFI
      obtain ⟨⟨f1, f2, f3, f4⟩, f5, f6, f7, f8, f9, f10⟩ := hFI'
      by_cases hmem : nx n sy Kc x ∈ ks
      · have hst : stp n sy ks s x = ks := by unfold stp; rw [hKc, if_pos (Or.inr hmem)]
        have htg : tg n sy ks s x = ks.idxOf (nx n sy Kc x) := by unfold tg; rw [hKc, if_neg h0]
        have hT2 := TI.T hTI h1 hx14 (by rw [hKc]; exact Or.inr hmem)
        have hil := List.idxOf_lt_length_of_mem hmem
        rw [hst] at hb
        rw [htg] at hT2
        refine ex_iload_n (i := 2) dX7_findAll_38 rfl rfl ?_
        refine ex_bipush (v := nI 14) dX7_findAll_39 (by decide) ?_
        refine ex_icmp_geN (tgt := 96) dX7_findAll_41 (by decide) (by omega) (by omega) (fun h41 => by omega) (fun h41 => ?_)
        refine ex_aload_n (i := 0) dX7_findAll_44 rfl rfl ?_
        refine ex_getR (v := .ref (19)) dX7_findAll_45 fl_States_24 rfl rfl (l56 (by decide)) rfl ?_
        refine ex_iload_n (i := 2) dX7_findAll_48 rfl rfl ?_
        refine ex_cV (ν := m_LongRow_get) (a := 19) (ci := 3) (as := [.int (nI (x))]) dX7_findAll_49 ln_States_75 mf_LongRow_get rfl (l56 (by decide)) rfl rfl np_LongRow_get rfl rfl ⟨(Nat.le_of_ble_eq_true rfl), (Nat.le_of_ble_eq_true rfl), (Nat.le_of_ble_eq_true rfl), (Nat.le_of_ble_eq_true rfl)⟩ (by decide) ?_
        refine sp_LongRow_get (r := 19) (c := 20) rfl rfl rfl (l56 (by decide)) (l56 (by decide)) (by omega) ?_
        refine ⟨_, rfl, ?_⟩
        refine ex_asJ hv ?_
        refine ex_lstore_n (L' := [some (.ref (16)), some (.int (nI (s))), some (.int (nI (x))), some (.long (lN (nx n sy Kc x))), none, none]) dX7_findAll_52 (i := 3) rfl (by decide) rfl ?_
        refine ex_lload_n (i := 3) dX7_findAll_53 rfl rfl ?_
        refine ex_lconst (v := 0) dX7_findAll_54 (by decide) ?_
        refine ex_lcmp dX7_findAll_55 ?_
        refine ex_if_ne (tgt := 63) dX7_findAll_56 (by decide) (fun h56 => ?_) (fun h56 => by exact absurd h56 hlg)
        refine ex_aload_n (i := 0) dX7_findAll_63 rfl rfl ?_
        refine ex_lload_n (i := 3) dX7_findAll_64 rfl rfl ?_
        refine ex_cV (ν := m_States_stateWith) (a := 16) (ci := 7) (as := [.long (lN (nx n sy Kc x))]) dX7_findAll_65 ln_States_78 mf_States_stateWith rfl (l56 (by decide)) rfl rfl np_States_stateWith rfl rfl ⟨(Nat.le_of_ble_eq_true rfl), (Nat.le_of_ble_eq_true rfl), (Nat.le_of_ble_eq_true rfl), (Nat.le_of_ble_eq_true rfl)⟩ (by decide) ?_
        refine sp_States_stateWith sc1 f1 f3 f2 f4 f5 f7 hlt h0 f8 (fun _ hidx => ?_) (fun hnot => absurd hmem hnot) (fun hnot => absurd hmem hnot)
        refine ⟨_, rfl, ?_⟩
        refine ex_istore (L' := [some (.ref (16)), some (.int (nI (s))), some (.int (nI (x))), some (.long (lN (nx n sy Kc x))), none, some (.int (nI (ks.idxOf (nx n sy Kc x))))]) dX7_findAll_68 (by decide) rfl ?_
        refine ex_iload dX7_findAll_70 rfl ?_
        refine ex_bipush (v := nI 50) dX7_findAll_72 (by decide) ?_
        refine ex_icmp_ltN (tgt := 79) dX7_findAll_74 (by decide) (by omega) (by omega) (fun h74 => ?_) (fun h74 => by omega)
        refine ex_aload_n (i := 0) dX7_findAll_79 rfl rfl ?_
        refine ex_getR (v := .ref (23)) dX7_findAll_80 fl_States_36 rfl rfl (l56 (by decide)) rfl ?_
        refine ex_iload_n (i := 1) dX7_findAll_83 rfl rfl ?_
        refine ex_iload_n (i := 2) dX7_findAll_84 rfl rfl ?_
        refine ex_iload dX7_findAll_85 rfl ?_
        refine ex_cV (ν := m_Grid_set) (a := 23) (ci := 2) (as := [.int (nI (s)), .int (nI (x)), .int (nI (ks.idxOf (nx n sy Kc x)))]) dX7_findAll_87 ln_States_82 mf_Grid_set rfl (l56 (by decide)) rfl rfl np_Grid_set rfl rfl ⟨(Nat.le_of_ble_eq_true rfl), (Nat.le_of_ble_eq_true rfl), (Nat.le_of_ble_eq_true rfl), (Nat.le_of_ble_eq_true rfl)⟩ (by decide) ?_
        refine sp_Grid_set (r := 23) (c := 24) rfl rfl rfl (l56 (by decide)) (l56 (by decide)) (sc_23_0 sc1) (sc_23_1 sc1) rfl (by omega) (by omega) ?_
        refine ⟨_, rfl, ?_⟩
        refine ex_iincN (L' := [some (.ref (16)), some (.int (nI (s))), some (.int (nI (x + 1))), some (.long (lN (nx n sy Kc x))), none, some (.int (nI (ks.idxOf (nx n sy Kc x))))]) dX7_findAll_90 rfl rfl (by decide) rfl ?_
        refine ex_goto (tgt := 38) dX7_findAll_93 (by decide) ?_
        exact ex_less (L' := [some (.ref 16), some (.int (nI s)), some (.int (nI (x + 1))), none, none, none]) (by simp [xSub]) (ih (x + 1) ks _ q1 F m (by omega) (by omega) hsl hKc (hf.U (by decide)) hqf hFI.T hT2 hnx hb (by omega))
      · by_cases hlen : ks.length < 50
        · have hst : stp n sy ks s x = ks ++ [nx n sy Kc x] := by
            unfold stp
            rw [hKc, if_neg (fun h => h.elim h0 hmem)]
          have htg : tg n sy (ks ++ [nx n sy Kc x]) s x = ks.length := by
            have := tg_new (n := n) (sy := sy) (x := x) hsl (by rw [hKc]; exact h0) (by rw [hKc]; exact hmem)
            rw [hKc] at this; exact this
          have hKc2 : (ks ++ [nx n sy Kc x]).getD s 0 = Kc := by rw [pre_getD (List.prefix_append _ _) hsl]; exact hKc
          have hqf2 : qfr q (xUL q1 18 ks.length (lN (nx n sy Kc x))) := fun c c1 c2 => (xUL_ne _ _ _ c1).trans (hqf c c1 c2)
          have hnx2 : ∀ x', 1 ≤ x' → x' < 14 → xUL q1 18 ks.length (lN (nx n sy Kc x)) 20 x' = lN (nx n sy Kc x') := fun x' a1 a2 => by rw [xUL_ne _ _ _ (by decide)]; exact hnx x' a1 a2
          rw [hst] at hb
          refine ex_iload_n (i := 2) dX7_findAll_38 rfl rfl ?_
          refine ex_bipush (v := nI 14) dX7_findAll_39 (by decide) ?_
          refine ex_icmp_geN (tgt := 96) dX7_findAll_41 (by decide) (by omega) (by omega) (fun h41 => by omega) (fun h41 => ?_)
          refine ex_aload_n (i := 0) dX7_findAll_44 rfl rfl ?_
          refine ex_getR (v := .ref (19)) dX7_findAll_45 fl_States_24 rfl rfl (l56 (by decide)) rfl ?_
          refine ex_iload_n (i := 2) dX7_findAll_48 rfl rfl ?_
          refine ex_cV (ν := m_LongRow_get) (a := 19) (ci := 3) (as := [.int (nI (x))]) dX7_findAll_49 ln_States_75 mf_LongRow_get rfl (l56 (by decide)) rfl rfl np_LongRow_get rfl rfl ⟨(Nat.le_of_ble_eq_true rfl), (Nat.le_of_ble_eq_true rfl), (Nat.le_of_ble_eq_true rfl), (Nat.le_of_ble_eq_true rfl)⟩ (by decide) ?_
          refine sp_LongRow_get (r := 19) (c := 20) rfl rfl rfl (l56 (by decide)) (l56 (by decide)) (by omega) ?_
          refine ⟨_, rfl, ?_⟩
          refine ex_asJ hv ?_
          refine ex_lstore_n (L' := [some (.ref (16)), some (.int (nI (s))), some (.int (nI (x))), some (.long (lN (nx n sy Kc x))), none, none]) dX7_findAll_52 (i := 3) rfl (by decide) rfl ?_
          refine ex_lload_n (i := 3) dX7_findAll_53 rfl rfl ?_
          refine ex_lconst (v := 0) dX7_findAll_54 (by decide) ?_
          refine ex_lcmp dX7_findAll_55 ?_
          refine ex_if_ne (tgt := 63) dX7_findAll_56 (by decide) (fun h56 => ?_) (fun h56 => by exact absurd h56 hlg)
          refine ex_aload_n (i := 0) dX7_findAll_63 rfl rfl ?_
          refine ex_lload_n (i := 3) dX7_findAll_64 rfl rfl ?_
          refine ex_cV (ν := m_States_stateWith) (a := 16) (ci := 7) (as := [.long (lN (nx n sy Kc x))]) dX7_findAll_65 ln_States_78 mf_States_stateWith rfl (l56 (by decide)) rfl rfl np_States_stateWith rfl rfl ⟨(Nat.le_of_ble_eq_true rfl), (Nat.le_of_ble_eq_true rfl), (Nat.le_of_ble_eq_true rfl), (Nat.le_of_ble_eq_true rfl)⟩ (by decide) ?_
          refine sp_States_stateWith sc1 f1 f3 f2 f4 f5 f7 hlt h0 f8 (fun hm2 _ => absurd hm2 hmem) (fun _ _ i2 F2 b1 b2 b3 b4 b5 => ?_) (fun _ h50 => by omega)
          have hf2 : Fr [16, 22, 24] i i2 := hf.tr (b1.mono (by decide))
          have sc2 := SC_Fr (by decide) hf2 sc
          refine ⟨_, rfl, ?_⟩
          refine ex_istore (L' := [some (.ref (16)), some (.int (nI (s))), some (.int (nI (x))), some (.long (lN (nx n sy Kc x))), none, some (.int (nI (ks.length)))]) dX7_findAll_68 (by decide) rfl ?_
          refine ex_iload dX7_findAll_70 rfl ?_
          refine ex_bipush (v := nI 50) dX7_findAll_72 (by decide) ?_
          refine ex_icmp_ltN (tgt := 79) dX7_findAll_74 (by decide) (by omega) (by omega) (fun h74 => ?_) (fun h74 => by omega)
          refine ex_aload_n (i := 0) dX7_findAll_79 rfl rfl ?_
          refine ex_getR (v := .ref (23)) dX7_findAll_80 fl_States_36 rfl rfl (l56 (by decide)) rfl ?_
          refine ex_iload_n (i := 1) dX7_findAll_83 rfl rfl ?_
          refine ex_iload_n (i := 2) dX7_findAll_84 rfl rfl ?_
          refine ex_iload dX7_findAll_85 rfl ?_
          refine ex_cV (ν := m_Grid_set) (a := 23) (ci := 2) (as := [.int (nI (s)), .int (nI (x)), .int (nI (ks.length))]) dX7_findAll_87 ln_States_82 mf_Grid_set rfl (l56 (by decide)) rfl rfl np_Grid_set rfl rfl ⟨(Nat.le_of_ble_eq_true rfl), (Nat.le_of_ble_eq_true rfl), (Nat.le_of_ble_eq_true rfl), (Nat.le_of_ble_eq_true rfl)⟩ (by decide) ?_
          refine sp_Grid_set (r := 23) (c := 24) rfl rfl rfl (l56 (by decide)) (l56 (by decide)) (sc_23_0 sc2) (sc_23_1 sc2) rfl (by omega) (by omega) ?_
          refine ⟨_, rfl, ?_⟩
          refine ex_iincN (L' := [some (.ref (16)), some (.int (nI (s))), some (.int (nI (x + 1))), some (.long (lN (nx n sy Kc x))), none, some (.int (nI (ks.length)))]) dX7_findAll_90 rfl rfl (by decide) rfl ?_
          refine ex_goto (tgt := 38) dX7_findAll_93 (by decide) ?_
          have hT2 := TI.T ((hTI.app (List.prefix_append ks [nx n sy Kc x]) hsl).fr (b1 24 (by decide))) h1 hx14 (by rw [hKc2]; exact Or.inr (by simp))
          rw [htg] at hT2
          have hF2 := hFI.app (by omega) hlen hlt h0 b2 b3 b4 b5
          exact ex_less (L' := [some (.ref 16), some (.int (nI s)), some (.int (nI (x + 1))), none, none, none]) (by simp [xSub]) (ih (x + 1) _ _ _ F2 m (by omega) (by omega) (by simp; omega) hKc2 (hf2.U (by decide)) hqf2 hF2.T hT2 hnx2 hb (by omega))
        · have hbig : 50 < (KS n sy).length := by
            have hp := bfs_pre (n := n) (sy := sy) (m := m) (s := s) (x := x + 1) (ks := stp n sy ks s x)
            rw [hb] at hp
            have h3 := hp.length_le
            have hst : (stp n sy ks s x).length = ks.length + 1 := by
              unfold stp
              rw [hKc, if_neg (fun h => h.elim h0 hmem)]; simp
            omega
          have hdone := hX hbig i1 q1 hf hqf (hFI.sbd hTI)
          refine ex_iload_n (i := 2) dX7_findAll_38 rfl rfl ?_
          refine ex_bipush (v := nI 14) dX7_findAll_39 (by decide) ?_
          refine ex_icmp_geN (tgt := 96) dX7_findAll_41 (by decide) (by omega) (by omega) (fun h41 => by omega) (fun h41 => ?_)
          refine ex_aload_n (i := 0) dX7_findAll_44 rfl rfl ?_
          refine ex_getR (v := .ref (19)) dX7_findAll_45 fl_States_24 rfl rfl (l56 (by decide)) rfl ?_
          refine ex_iload_n (i := 2) dX7_findAll_48 rfl rfl ?_
          refine ex_cV (ν := m_LongRow_get) (a := 19) (ci := 3) (as := [.int (nI (x))]) dX7_findAll_49 ln_States_75 mf_LongRow_get rfl (l56 (by decide)) rfl rfl np_LongRow_get rfl rfl ⟨(Nat.le_of_ble_eq_true rfl), (Nat.le_of_ble_eq_true rfl), (Nat.le_of_ble_eq_true rfl), (Nat.le_of_ble_eq_true rfl)⟩ (by decide) ?_
          refine sp_LongRow_get (r := 19) (c := 20) rfl rfl rfl (l56 (by decide)) (l56 (by decide)) (by omega) ?_
          refine ⟨_, rfl, ?_⟩
          refine ex_asJ hv ?_
          refine ex_lstore_n (L' := [some (.ref (16)), some (.int (nI (s))), some (.int (nI (x))), some (.long (lN (nx n sy Kc x))), none, none]) dX7_findAll_52 (i := 3) rfl (by decide) rfl ?_
          refine ex_lload_n (i := 3) dX7_findAll_53 rfl rfl ?_
          refine ex_lconst (v := 0) dX7_findAll_54 (by decide) ?_
          refine ex_lcmp dX7_findAll_55 ?_
          refine ex_if_ne (tgt := 63) dX7_findAll_56 (by decide) (fun h56 => ?_) (fun h56 => by exact absurd h56 hlg)
          refine ex_aload_n (i := 0) dX7_findAll_63 rfl rfl ?_
          refine ex_lload_n (i := 3) dX7_findAll_64 rfl rfl ?_
          refine ex_cV (ν := m_States_stateWith) (a := 16) (ci := 7) (as := [.long (lN (nx n sy Kc x))]) dX7_findAll_65 ln_States_78 mf_States_stateWith rfl (l56 (by decide)) rfl rfl np_States_stateWith rfl rfl ⟨(Nat.le_of_ble_eq_true rfl), (Nat.le_of_ble_eq_true rfl), (Nat.le_of_ble_eq_true rfl), (Nat.le_of_ble_eq_true rfl)⟩ (by decide) ?_
          refine sp_States_stateWith sc1 f1 f3 f2 f4 f5 f7 hlt h0 f8 (fun hm2 _ => absurd hm2 hmem) (fun _ h50 => by omega) (fun _ h50 => ?_)
          refine ⟨_, rfl, ?_⟩
          refine ex_istore (L' := [some (.ref (16)), some (.int (nI (s))), some (.int (nI (x))), some (.long (lN (nx n sy Kc x))), none, some (.int (nI (50)))]) dX7_findAll_68 (by decide) rfl ?_
          refine ex_iload dX7_findAll_70 rfl ?_
          refine ex_bipush (v := nI 50) dX7_findAll_72 (by decide) ?_
          refine ex_icmp_ltN (tgt := 79) dX7_findAll_74 (by decide) (by decide) (by decide) (fun h74 => by exact absurd h74 (by decide)) (fun h74 => ?_)
          refine ex_iconst (v := nI 0) dX7_findAll_77 (by decide) ?_
          refine ex_iret dX7_findAll_78 rfl (by decide) ?_
          exact hdone
theorem sp_States_findAll {F0 : Nat → Nat} (sc : SC i) (gs : GS i n sy) (hsb : SBd i)
    (hE : (KS n sy).length ≤ 50 → ∀ i1 q1 F, Fr [16, 22, 24] i i1 → qfr q q1 → FI n sy (KS n sy) i1 q1 F (KS n sy).length → TI n sy (KS n sy) i1 (KS n sy).length 1 → Q (.ok (some (.int (nI 1)))) (56 + ζ, g, i1, q1, RT t))
    (hX : 50 < (KS n sy).length → ∀ i1 q1, Fr [16, 22, 24] i i1 → qfr q q1 → SBd i1 → Q (.ok (some (.int (nI 0)))) (56 + ζ, g, i1, q1, RT t)) :
    Wx m_States_findAll 0 [some (.ref 16), none, none, none, none, none] [] (56 + ζ, g, i, q, RT t) (0, 0) Q := by
  have outer : ∀ d s ks i1 q1 F m, s + d = 51 → Fr [16, 22, 24] i i1 → qfr q q1 → FI n sy ks i1 q1 F s → TI n sy ks i1 s 1 → s ≤ ks.length → bfs n sy m s 1 ks = KS n sy → (50 - s) * 14 + 14 ≤ m → Wx m_States_findAll 12 [some (.ref 16), some (.int (nI s)), none, none, none, none] [] (56 + ζ, g, i1, q1, RT t) (0, 0) Q := by
    intro d
    induction d with
    | zero =>
      intro s ks i1 q1 F m hs hf hqf hFI hTI hsl hb hm
      have := hFI.1.2.2.1
      omega
    | succ d ih =>
      intro s ks i1 q1 F m hs hf hqf hFI hTI hsl hb hm
      have f1 := hFI.1.1
      have f3 := hFI.1.2.2.1
      by_cases hlt : s < ks.length
      · have sc1 := SC_Fr (by decide) hf sc
        have gs1 := gs.fr hf (by decide) (by decide)
        have f8 := hFI.2.2.2.2.1
        have f9 := hFI.2.2.2.2.2.1
        have f10 := hFI.2.2.2.2.2.2
        refine ex_iload_n (i := 1) dX7_findAll_12 rfl rfl ?_
        refine ex_aload_n (i := 0) dX7_findAll_13 rfl rfl ?_
        refine ex_getI dX7_findAll_14 fl_States_42 rfl rfl (l56 (by decide)) ?_
        refine ex_asN (a := ks.length) f1 ?_
        refine ex_icmp_geN (tgt := 102) dX7_findAll_17 (by decide) (by omega) (by omega) (fun h17 => by omega) (fun h17 => ?_)
        refine ex_iload_n (i := 1) dX7_findAll_20 rfl rfl ?_
        refine ex_bipush (v := nI 50) dX7_findAll_21 (by decide) ?_
        refine ex_icmp_geN (tgt := 102) dX7_findAll_23 (by decide) (by omega) (by omega) (fun h23 => by omega) (fun h23 => ?_)
        refine ex_aload_n (i := 0) dX7_findAll_26 rfl rfl ?_
        refine ex_iload_n (i := 1) dX7_findAll_27 rfl rfl ?_
        refine ex_cV (ν := m_States_close) (a := 16) (ci := 7) (as := [.int (nI (s))]) dX7_findAll_28 ln_States_69 mf_States_close rfl (l56 (by decide)) rfl rfl np_States_close rfl rfl ⟨(Nat.le_of_ble_eq_true rfl), (Nat.le_of_ble_eq_true rfl), (Nat.le_of_ble_eq_true rfl), (Nat.le_of_ble_eq_true rfl)⟩ (by decide) ?_
        refine sp_States_close sc1 gs1 (by omega) f8 f9 (fun it hit => (f10 s it hlt hit).1) (fun i2 F2 c1 c2 c3 c4 c5 => ?_)
        have hf2 : Fr [16, 22, 24] i i2 := hf.tr (c1.mono (by decide))
        have sc2 := SC_Fr (by decide) hf2 sc
        have gs2 := gs.fr hf2 (by decide) (by decide)
        refine ⟨_, rfl, ?_⟩
        refine ex_aload_n (i := 0) dX7_findAll_31 rfl rfl ?_
        refine ex_iload_n (i := 1) dX7_findAll_32 rfl rfl ?_
        refine ex_cV (ν := m_States_gatherNextKernels) (a := 16) (ci := 7) (as := [.int (nI (s))]) dX7_findAll_33 ln_States_72 mf_States_gatherNextKernels rfl (l56 (by decide)) rfl rfl np_States_gatherNextKernels rfl rfl ⟨(Nat.le_of_ble_eq_true rfl), (Nat.le_of_ble_eq_true rfl), (Nat.le_of_ble_eq_true rfl), (Nat.le_of_ble_eq_true rfl)⟩ (by decide) ?_
        refine sp_States_gather sc2 gs2 (by omega) c2 (fun j hj => (c3 j hj).1) (fun q2 d1 d2 => ?_)
        refine ⟨_, rfl, ?_⟩
        refine ex_iconst (v := nI 1) dX7_findAll_36 (by decide) ?_
        refine ex_istore_n (L' := [some (.ref (16)), some (.int (nI (s))), some (.int (nI (1))), none, none, none]) dX7_findAll_37 (i := 2) rfl (by decide) rfl ?_
        have hcl : ∀ it, it < 75 → (F2 (s * 75 + it) ≠ 0 ↔ clP n sy (kst (ks.getD s 0)) it) := fun it hit => (c5.iff hit).trans (clP_congr (fun j hj => (f10 s j hlt hj).2.2 (Nat.le_refl _)))
        have hnx : ∀ x', 1 ≤ x' → x' < 14 → q2 20 x' = lN (nx n sy (ks.getD s 0) x') := fun x' a1 a2 => by
          rw [d2 x' a1 a2]
          exact congrArg lN (nkU_congr (fun j hj => hcl j hj))
        have hFI2 : FI n sy ks i2 q2 F2 (s + 1) := by
          obtain ⟨⟨a1, a2⟩, b2, b3, b4, b5, b6, b7⟩ := hFI
          refine ⟨⟨by rw [c1 16 (by decide)]; exact a1, a2⟩, fun j hj => by rw [d1 18 (by decide)]; exact b2 j hj, b3, b4, c2, fun j hj => (c3 j hj).1, fun j it hj hit => ?_⟩
          by_cases e : j = s
          · subst e
            exact ⟨(c3 _ (by omega)).2 (by omega) (by omega), fun _ => hcl it hit, fun h => by omega⟩
          · rw [c4 _ (by omega)]
            obtain ⟨e1, e2, e3⟩ := b7 j it hj hit
            exact ⟨e1, fun h => e2 (by omega), fun h => e3 (by omega)⟩
        have hTI2 : TI n sy ks i2 s 1 := hTI.fr (c1 24 (by decide))
        refine ex_less (L' := [some (.ref 16), some (.int (nI s)), some (.int (nI 1)), none, none, none]) (by simp [xSub]) ?_
        refine lp_States_findAll_in (Kc := ks.getD s 0) (q := q) sc gs (by omega) (fun ks3 i3 q3 F3 m3 g1 g2 g3 g4 g5 g6 g7 => ?_) hX 13 1 ks i2 q2 F2 m (by omega) (by omega) hlt rfl hf2 (fun c e1 e2 => (d1 c e2).trans (hqf c e1 e2)) hFI2 hTI2 hnx hb (by omega)
        refine ih (s + 1) ks3 i3 q3 F3 m3 (by omega) g2 g3 g4 ?_ (by omega) g6 (by omega)
        obtain ⟨t1, t2⟩ := g5
        exact ⟨t1, fun s' x' hs' a1 a2 a3 => t2 s' x' hs' a1 a2 (by omega)⟩
      · have e : ks = KS n sy := by rw [← hb, bfs_end (by omega)]
        have es : s = ks.length := by omega
        subst es
        have hdone := hE (by rw [← e]; exact f3) i1 q1 F hf hqf (by rw [← e]; exact hFI) (by rw [← e]; exact hTI)
        refine ex_iload_n (i := 1) dX7_findAll_12 rfl rfl ?_
        refine ex_aload_n (i := 0) dX7_findAll_13 rfl rfl ?_
        refine ex_getI dX7_findAll_14 fl_States_42 rfl rfl (l56 (by decide)) ?_
        refine ex_asN (a := ks.length) f1 ?_
        refine ex_icmp_geN (tgt := 102) dX7_findAll_17 (by decide) (by omega) (by omega) (fun h17 => ?_) (fun h17 => by omega)
        refine ex_iconst (v := nI 1) dX7_findAll_102 (by decide) ?_
        refine ex_iret dX7_findAll_103 rfl (by decide) ?_
        exact hdone
  obtain ⟨⟨F, hV, hF⟩, h0⟩ := hsb
  have sc0 : SC (xU i 16 6 (nI 0)) := SC_U (by decide) sc
  have h60 : xU i 16 6 (nI 0) 16 6 = nI 0 := by rw [xU_at]; simp [upd]
  refine ex_aload_n (i := 0) dX7_findAll_0 rfl rfl ?_
  refine ex_iconst (v := nI 0) dX7_findAll_1 (by decide) ?_
  refine ex_putI dX7_findAll_2 fl_States_42 cf_7 rfl (Or.inl rfl) rfl rfl rfl (l56 (by decide)) ?_
  refine ex_aload_n (i := 0) dX7_findAll_5 rfl rfl ?_
  refine ex_lconst (v := 0) dX7_findAll_6 (by decide) ?_
  refine ex_cV (ν := m_States_enter) (a := 16) (ci := 7) (as := [.long (0)]) dX7_findAll_7 ln_States_65 mf_States_enter rfl (l56 (by decide)) rfl rfl np_States_enter rfl rfl ⟨(Nat.le_of_ble_eq_true rfl), (Nat.le_of_ble_eq_true rfl), (Nat.le_of_ble_eq_true rfl), (Nat.le_of_ble_eq_true rfl)⟩ (by decide) ?_
  refine sp_States_enter (K := 0) sc0 (by decide) h60 (by decide) ⟨fun _ => rfl, fun _ => rfl⟩ (hV.ne (by decide)) (fun i1 F1 a1 a2 a3 a4 a5 => ?_)
  have hf1 : Fr [16, 22, 24] i i1 := ((Fr.rf (i := i)).U (by decide)).tr (a1.mono (by decide))
  refine ⟨_, rfl, ?_⟩
  refine ex_iconst (v := nI 0) dX7_findAll_10 (by decide) ?_
  refine ex_istore_n (L' := [some (.ref (16)), some (.int (nI (0))), none, none, none, none]) dX7_findAll_11 (i := 1) rfl (by decide) rfl ?_
  refine ex_less (L' := [some (.ref 16), some (.int (nI 0)), none, none, none, none]) (by simp [xSub]) ?_
  refine outer 51 0 [0] i1 _ F1 1000 (by omega) hf1 (fun c c1 c2 => xUL_ne _ _ _ c1) ?_ ?_ (by decide) rfl (by decide)
  · refine ⟨⟨a2, by decide, by decide, rfl⟩, fun j hj => ?_, fun j h0 hj => ?_, fun j => ?_, a3, fun j hj => ?_, fun j it hj hit => ?_⟩
    · have e : j = 0 := by simpa using hj
      subst e
      rw [xUL_at]; simp [vp_updL]
    · simp at hj; omega
    · cases j with
      | zero => exact Nat.two_pow_pos 60
      | succ j => simp
    · by_cases e : j < 75
      · have := (a5 j e).1
        rw [show 0 * 75 + j = j by omega] at this
        omega
      · rw [a4 j (by omega)]; exact hF j hj
    · have e : j = 0 := by simpa using hj
      subst e
      exact ⟨(a5 it hit).1, fun h => by omega, fun _ => (a5 it hit).2⟩
  · refine ⟨fun s' hs' => by rw [a1 24 (by decide), xU_ne _ _ _ (by decide)]; exact h0 s' hs', fun s' x' hs' b1 b2 b3 => by omega⟩
end S23
