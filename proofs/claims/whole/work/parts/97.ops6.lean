/-! ===== the law: parse, the call ===== -/
theorem IvP.fr2 {i i1 : Nat → Nat → Int32} {q q1 : Nat → Nat → Int64} {t : Bool} {md : Nat} (h : IvP i q t md) (e : Eqc [(if t then 51 else 46), (if t then 53 else 48), 86, 87, 88, 89] [43] i i1) (e1 : q1 (if t then 55 else 50) = q (if t then 55 else 50)) (e2 : q1 91 = q 91) : IvP i1 q1 t md := by
  obtain ⟨a, b, c, d, f⟩ := h
  refine ⟨a, by rw [e.2 43 (by decide)]; exact b, ?_, fun j k hj hk => ?_, fun s hs => ?_⟩
  · rw [e.1 _ (by simp)]; exact c
  · rw [e.1 (if t then 53 else 48) (by simp), e.1 (86 + k) (by rcases (show k = 0 ∨ k = 1 ∨ k = 2 ∨ k = 3 by omega) with rfl | rfl | rfl | rfl <;> simp)]; exact d j k hj hk
  · rw [e1, e2]; exact f s hs
theorem IvM.fr2 {i i1 : Nat → Nat → Int32} {xs : Nat → Int32} {L : Nat} (h : IvM i xs L) (e : Eqc [2, 10, 12, 14, 21, 22, 23, 24, 25, 47, 52, 4096, 4097] [] i i1) (e1 : i1 0 8 = i1 56 44) : IvM i1 xs L := by
  obtain ⟨a, ⟨⟨F, b1, b2⟩, b3⟩, c, d, f⟩ := h
  refine ⟨?_, ⟨⟨F, b1.eq (e.1 22 (by decide)), b2⟩, by rw [e.1 24 (by decide)]; exact b3⟩, e1, by rw [e.1 4096 (by decide)]; exact d, by rw [e.1 4097 (by decide)]; exact f⟩
  unfold SC at a ⊢
  rw [e.1 2 (by decide), e.1 10 (by decide), e.1 12 (by decide), e.1 14 (by decide), e.1 21 (by decide), e.1 23 (by decide), e.1 25 (by decide), e.1 47 (by decide), e.1 52 (by decide)]
  exact a
theorem op_parse {xs : Nat → Int32} {L m g : Nat} {i : Nat → Nat → Int32} {q : Nat → Nat → Int64} {t : Bool} {K : Nat × Nat} {Q : xRes → xMem → Prop} (hIV : IV xs L i q t) (hL3 : L ≤ 3072) (hm : m + 6 ≤ L) (nxt : ∀ g' i' q' t', IV xs L i' q' t' → Wx m_Law_law 1037 [some (.ref 4096), some (.ref 0), some (.ref 56), some (.ref 93), some (.int (nI m)), none, none, none] [] (94, g', i', q', RT t') K Q) : Wx m_Law_law 776 [some (.ref 4096), some (.ref 0), some (.ref 56), some (.ref 93), some (.int (nI m)), none, none, none] [] (94, g, i, q, RT t) (K.1 + 1, K.2 + 6) Q := by
  obtain ⟨n, sy, f, lv, kd, op, xp, yp, b, nt, md, iG, iL, iE, iB9, iT, iP, iM⟩ := id hIV
  have h96 := iM.2.2.2.1
  have h97 := iM.2.2.2.2
  have gw := iG.1.2.2
  have hn14 := gw.1
  obtain ⟨⟨b1, b2, b3⟩, bD⟩ := id iB9
  obtain ⟨t1, t2, t3, TT, t4⟩ := id iT
  have hvl : ∀ b, b < nt → i 36 b = i 78 b := fun b hb => (t4 b hb).2.2.2.2
  have ev := iE.2.2.1
  refine ex_aload_n (i := 1) dL_law_776 rfl rfl ?_
  refine ex_aload_n (i := 3) dL_law_777 rfl rfl ?_
  refine ex_cHL (P := fun k x g' i' q' t' => Wx m_Law_law 781 [some (.ref 4096), some (.ref 0), some (.ref 56), some (.ref 93), some (.int (nI m)), none, none, none] [.int (nI k)] (94, g', i', (if k = 0 then xUL q' 93 0 x else q'), RT t') K Q) (ν := m_Law_parse) (as := [.ref (0), .ref (93)]) (K := K) dL_law_778 lnH_parse mfH_parse npH_parse rfl rfl ⟨(Nat.le_of_ble_eq_true rfl), (Nat.le_of_ble_eq_true rfl), (Nat.le_of_ble_eq_true rfl), (Nat.le_of_ble_eq_true rfl)⟩ ?_ (fun k x g' i' q' t' _ _ h => h)
  refine sp_Law_parse (zz := 0) ?_
  cases t with
  | false =>
    obtain ⟨S, cj, fl, D, G, o, mo, no, ko, k1, k2, k3, k4, k5, k6, k7, k8, k9, k10, k11, k12, k13⟩ := parse_key (i 53) gw iE.1.2.2.2 iE.2.2.2.1 ev bD t3 (fun j hj => ⟨(t4 j hj).2.2.1, (t4 j hj).2.2.2.1⟩)
    refine sp_Works_parse_51 (R := fun a b c d => a = o ∧ b = mo ∧ c = no ∧ d = ko) (TT := TT) (ss := fun _ => 0) (sn := fun _ => 0) (tk0 := fun _ => 0) iM.1 iG.1 iE.1 ev b1 b3 k1 k3 t1 t3 (fun j hj => ⟨(t4 j hj).1, (t4 j hj).2.2.1, (t4 j hj).2.2.2.1⟩) k5 k6 k11 (fun a _ _ _ h => by rw [h.1]; exact k12) (fun md nd tk h => by
      obtain ⟨e, rfl, rfl, rfl⟩ := h
      obtain ⟨val, v1, -⟩ := k13 e.symm
      exact ⟨val, v1⟩) (fun h => ?_) (fun hb c0 f0 mx nx kx i1 q1 hR hfr h7 h8 h6 hq => ?_) (fun hb c0 f0 kz mx nx kx i1 q1 hR hkz hfr h7 h8 h6 hq => ?_) (fun hb c0 f0 mx nx kx val i1 q1 hR hPT hfr h7 h8 h6 hmd hm150 hnd hq hval => ?_)
    · obtain ⟨i1, rfl⟩ : ∃ i1, i1 = i := ⟨_, rfl⟩
      have hfr : Fr [0, 32, 38, 40, 43, 45, 51, 53] i1 i1 := Fr.rf
      have f56 : i1 56 = i1 56 := hfr 56 (by decide)
      have rg1 : RG i1 n sy := ⟨by rw [f56]; exact iG.2.1.1, by rw [hfr 57 (by decide)]; exact iG.2.1.2.1, by rw [hfr 58 (by decide)]; exact iG.2.1.2.2.1, by rw [hfr 59 (by decide)]; exact iG.2.1.2.2.2.1, gw⟩
      have re1 : RE i1 op xp yp := by intro j hj; rw [hfr 62 (by decide), hfr 63 (by decide), hfr 64 (by decide)]; exact iE.2.1 j hj
      have h9 : i1 56 9 = nI b := by rw [f56]; exact b2
      have kc : b = 1 → i1 56 12 = nI cj ∧ cj < 4096 := by rw [f56]; exact k2
      have kf : b = 1 → i1 56 10 = nI fl ∧ fl < 2 := by rw [f56]; exact k4
      have h27 : i1 56 27 = nI nt := by rw [f56]; exact t2
      have hT2 : ∀ j, j < nt → i1 77 j = nI (TT j) ∧ 1 ≤ TT j ∧ TT j ≤ 6 := fun j hj => by rw [hfr 77 (by decide)]; exact ⟨(t4 j hj).2.1, (t4 j hj).2.2.1, (t4 j hj).2.2.2.1⟩
      have hD2 : b = 1 → ∀ s x, s < S → x < 7 → i1 73 (7 * s + x) = D s x := by rw [hfr 73 (by decide)]; exact k8
      have hG2 : b = 1 → ∀ s x, s < S → 8 ≤ x → x < 14 → i1 67 (14 * s + x) = nI (G s x) ∧ G s x < S := by rw [hfr 67 (by decide)]; exact k9
      have e78 : i1 78 = i1 78 := hfr 78 (by decide)
      have hRt2 : ∀ md nd tk, (-1 = o ∧ md = mo ∧ nd = no ∧ tk = ko) → ∃ val, PT2 n sy op xp yp nt (i1 78) md nd tk val := fun md nd tk h => by
        obtain ⟨e, rfl, rfl, rfl⟩ := h
        obtain ⟨val, -, v2⟩ := k13 e.symm
        exact ⟨val, by rw [e78]; exact v2.vl hvl⟩
      have h96b : i1 4096 = xs := (hfr 4096 (by decide)).trans h96
      have h97b : i1 4097 0 = nI L := by rw [hfr 4097 (by decide)]; exact h97
      refine WQ.er ⟨_, _, _, _, rfl, by decide, ⟨rfl, rfl⟩, ex_thr (k' := 1) (by decide) (by decide) ?_⟩
      refine ex_istore (L' := [some (.ref (4096)), some (.ref (0)), some (.ref (56)), some (.ref (93)), some (.int (nI (m))), some (.int (nI (1))), none, none]) dL_law_781 (by decide) rfl ?_
      refine ex_aload_n (i := 2) dL_law_783 rfl rfl ?_
      refine ex_cVL (ν := m_Model_parse) (a := 56) (ci := 10) (as := []) dL_law_784 ln_Law_105 mf_Model_parse rfl (Nat.le_of_ble_eq_true rfl) rfl rfl np_Model_parse rfl rfl ⟨(Nat.le_of_ble_eq_true rfl), (Nat.le_of_ble_eq_true rfl), (Nat.le_of_ble_eq_true rfl), (Nat.le_of_ble_eq_true rfl)⟩ ?_
      refine sp_Model_parse (R := fun a b c d => a = o ∧ b = mo ∧ c = no ∧ d = ko) (ss := fun _ => 0) (sn := fun _ => 0) (tk0 := fun _ => 0) rg1 re1 ev h9 b3 kc kf h27 t3 hT2 k7 hD2 hG2 k10 k11 hRt2 (fun _ i2 hf hc => ?_) (fun z1 z2 z3 => absurd h (by omega)) (fun z1 z2 z3 => absurd h (by omega)) (fun z1 z2 z3 => absurd h (by omega))
      exact ⟨_, rfl, ⟨hf.1 4096 (by decide) (by decide), hf.1 4097 (by decide) (by decide)⟩, tail_parse hc (by decide) (fun z => absurd z (by decide)) (nxt _ _ _ _ (hIV.fm (hf.mono (by decide) (by decide)) (fun c hc => rfl)))⟩
      skip
    · have f56 : i1 56 = i 56 := hfr 56 (by decide)
      have rg1 : RG i1 n sy := ⟨by rw [f56]; exact iG.2.1.1, by rw [hfr 57 (by decide)]; exact iG.2.1.2.1, by rw [hfr 58 (by decide)]; exact iG.2.1.2.2.1, by rw [hfr 59 (by decide)]; exact iG.2.1.2.2.2.1, gw⟩
      have re1 : RE i1 op xp yp := by intro j hj; rw [hfr 62 (by decide), hfr 63 (by decide), hfr 64 (by decide)]; exact iE.2.1 j hj
      have h9 : i1 56 9 = nI b := by rw [f56]; exact b2
      have kc : b = 1 → i1 56 12 = nI cj ∧ cj < 4096 := by rw [f56]; exact k2
      have kf : b = 1 → i1 56 10 = nI fl ∧ fl < 2 := by rw [f56]; exact k4
      have h27 : i1 56 27 = nI nt := by rw [f56]; exact t2
      have hT2 : ∀ j, j < nt → i1 77 j = nI (TT j) ∧ 1 ≤ TT j ∧ TT j ≤ 6 := fun j hj => by rw [hfr 77 (by decide)]; exact ⟨(t4 j hj).2.1, (t4 j hj).2.2.1, (t4 j hj).2.2.2.1⟩
      have hD2 : b = 1 → ∀ s x, s < S → x < 7 → i1 73 (7 * s + x) = D s x := by rw [hfr 73 (by decide)]; exact k8
      have hG2 : b = 1 → ∀ s x, s < S → 8 ≤ x → x < 14 → i1 67 (14 * s + x) = nI (G s x) ∧ G s x < S := by rw [hfr 67 (by decide)]; exact k9
      have e78 : i1 78 = i 78 := hfr 78 (by decide)
      have hRt2 : ∀ md nd tk, (-1 = o ∧ md = mo ∧ nd = no ∧ tk = ko) → ∃ val, PT2 n sy op xp yp nt (i1 78) md nd tk val := fun md nd tk h => by
        obtain ⟨e, rfl, rfl, rfl⟩ := h
        obtain ⟨val, -, v2⟩ := k13 e.symm
        exact ⟨val, by rw [e78]; exact v2.vl hvl⟩
      have h96b : i1 4096 = xs := (hfr 4096 (by decide)).trans h96
      have h97b : i1 4097 0 = nI L := by rw [hfr 4097 (by decide)]; exact h97
      refine WQ.er ⟨_, _, _, _, rfl, by decide, ⟨hfr 4096 (by decide), hfr 4097 (by decide)⟩, ex_thr (k' := 2) (by decide) (by decide) ?_⟩
      refine ex_istore (L' := [some (.ref (4096)), some (.ref (0)), some (.ref (56)), some (.ref (93)), some (.int (nI (m))), some (.int (nI (2))), none, none]) dL_law_781 (by decide) rfl ?_
      refine ex_aload_n (i := 2) dL_law_783 rfl rfl ?_
      refine ex_cVL (ν := m_Model_parse) (a := 56) (ci := 10) (as := []) dL_law_784 ln_Law_105 mf_Model_parse rfl (Nat.le_of_ble_eq_true rfl) rfl rfl np_Model_parse rfl rfl ⟨(Nat.le_of_ble_eq_true rfl), (Nat.le_of_ble_eq_true rfl), (Nat.le_of_ble_eq_true rfl), (Nat.le_of_ble_eq_true rfl)⟩ ?_
      refine sp_Model_parse (R := fun a b c d => a = o ∧ b = mo ∧ c = no ∧ d = ko) (ss := fun _ => 0) (sn := fun _ => 0) (tk0 := fun _ => 0) rg1 re1 ev h9 b3 kc kf h27 t3 hT2 k7 hD2 hG2 k10 k11 hRt2 (fun z => absurd z (by omega)) (fun _ _ _ m2 n2 k2 i2 hR2 hf hc h44 h27z => ?_) (fun _ _ _ k m2 n2 k2 i2 hR2 hk => (nI_ne2 (by omega) (hR2.1.trans hR.1.symm)).elim) (fun _ _ _ m2 n2 k2 v2 i2 q2 hR2 => absurd (hR2.1.trans hR.1.symm) (by decide))
      have j0 : i2 0 = i1 0 := hf.1 0 (by decide) (by decide)
      have j1 : i2 1 = i 1 := (hf.1 1 (by decide) (by decide)).trans (hfr 1 (by decide))
      have j32 : i2 32 = i1 32 := hf.1 32 (by decide) (by decide)
      have iv : IV xs L i2 q1 false := ⟨n, sy, f, lv, kd, op, xp, yp, b, 0, md, iG.fr (.of hfr hf (by decide) (by decide) (by decide)) (by rw [j1]), iL.fr (.of hfr hf (by decide) (by decide) (by decide)), iE.fr (.of hfr hf (by decide) (by decide) (by decide)) (by rw [j1]), iB9.fr (.of hfr hf (by decide) (by decide) (by decide)) (by rw [j0, h7, b1]), ⟨by rw [j32]; exact h6, h27z, by decide, fun _ => 0, fun j hj => absurd hj (Nat.not_lt_zero j)⟩, iP.fr2 (.of hfr hf (by decide) (by decide) (by decide)) (hq 50 (by decide)) (hq 91 (by decide)), iM.fr2 (.of hfr hf (by decide) (by decide) (by decide)) (by rw [j0, h8, h44])⟩
      exact ⟨_, rfl, ⟨hf.1 4096 (by decide) (by decide), hf.1 4097 (by decide) (by decide)⟩, tail_parse hc (by decide) (fun z => absurd z (by decide)) (nxt _ _ _ _ (iv))⟩
      skip
    · have f56 : i1 56 = i 56 := hfr 56 (by decide)
      have rg1 : RG i1 n sy := ⟨by rw [f56]; exact iG.2.1.1, by rw [hfr 57 (by decide)]; exact iG.2.1.2.1, by rw [hfr 58 (by decide)]; exact iG.2.1.2.2.1, by rw [hfr 59 (by decide)]; exact iG.2.1.2.2.2.1, gw⟩
      have re1 : RE i1 op xp yp := by intro j hj; rw [hfr 62 (by decide), hfr 63 (by decide), hfr 64 (by decide)]; exact iE.2.1 j hj
      have h9 : i1 56 9 = nI b := by rw [f56]; exact b2
      have kc : b = 1 → i1 56 12 = nI cj ∧ cj < 4096 := by rw [f56]; exact k2
      have kf : b = 1 → i1 56 10 = nI fl ∧ fl < 2 := by rw [f56]; exact k4
      have h27 : i1 56 27 = nI nt := by rw [f56]; exact t2
      have hT2 : ∀ j, j < nt → i1 77 j = nI (TT j) ∧ 1 ≤ TT j ∧ TT j ≤ 6 := fun j hj => by rw [hfr 77 (by decide)]; exact ⟨(t4 j hj).2.1, (t4 j hj).2.2.1, (t4 j hj).2.2.2.1⟩
      have hD2 : b = 1 → ∀ s x, s < S → x < 7 → i1 73 (7 * s + x) = D s x := by rw [hfr 73 (by decide)]; exact k8
      have hG2 : b = 1 → ∀ s x, s < S → 8 ≤ x → x < 14 → i1 67 (14 * s + x) = nI (G s x) ∧ G s x < S := by rw [hfr 67 (by decide)]; exact k9
      have e78 : i1 78 = i 78 := hfr 78 (by decide)
      have hRt2 : ∀ md nd tk, (-1 = o ∧ md = mo ∧ nd = no ∧ tk = ko) → ∃ val, PT2 n sy op xp yp nt (i1 78) md nd tk val := fun md nd tk h => by
        obtain ⟨e, rfl, rfl, rfl⟩ := h
        obtain ⟨val, -, v2⟩ := k13 e.symm
        exact ⟨val, by rw [e78]; exact v2.vl hvl⟩
      have h96b : i1 4096 = xs := (hfr 4096 (by decide)).trans h96
      have h97b : i1 4097 0 = nI L := by rw [hfr 4097 (by decide)]; exact h97
      refine WQ.er ⟨_, _, _, _, rfl, by decide, ⟨hfr 4096 (by decide), hfr 4097 (by decide)⟩, ex_thr (k' := 3) (by decide) (by decide) ?_⟩
      refine ex_istore (L' := [some (.ref (4096)), some (.ref (0)), some (.ref (56)), some (.ref (93)), some (.int (nI (m))), some (.int (nI (3))), none, none]) dL_law_781 (by decide) rfl ?_
      refine ex_aload_n (i := 2) dL_law_783 rfl rfl ?_
      refine ex_cVL (ν := m_Model_parse) (a := 56) (ci := 10) (as := []) dL_law_784 ln_Law_105 mf_Model_parse rfl (Nat.le_of_ble_eq_true rfl) rfl rfl np_Model_parse rfl rfl ⟨(Nat.le_of_ble_eq_true rfl), (Nat.le_of_ble_eq_true rfl), (Nat.le_of_ble_eq_true rfl), (Nat.le_of_ble_eq_true rfl)⟩ ?_
      refine sp_Model_parse (R := fun a b c d => a = o ∧ b = mo ∧ c = no ∧ d = ko) (ss := fun _ => 0) (sn := fun _ => 0) (tk0 := fun _ => 0) rg1 re1 ev h9 b3 kc kf h27 t3 hT2 k7 hD2 hG2 k10 k11 hRt2 (fun z => absurd z (by omega)) (fun _ _ _ m2 n2 k2 i2 hR2 => (nI_ne2 (k := kz) (by omega) (hR.1.trans hR2.1.symm)).elim) (fun _ _ _ k m2 n2 k2 i2 hR2 hk hf hc h44 h27z => ?_) (fun _ _ _ m2 n2 k2 v2 i2 q2 hR2 => (nI_ne1 (k := kz) (by omega) (hR.1.trans hR2.1.symm)).elim)
      rw [hR2.1.trans hR.1.symm] at h44
      have j0 : i2 0 = i1 0 := hf.1 0 (by decide) (by decide)
      have j1 : i2 1 = i 1 := (hf.1 1 (by decide) (by decide)).trans (hfr 1 (by decide))
      have j32 : i2 32 = i1 32 := hf.1 32 (by decide) (by decide)
      have iv : IV xs L i2 q1 false := ⟨n, sy, f, lv, kd, op, xp, yp, b, 0, md, iG.fr (.of hfr hf (by decide) (by decide) (by decide)) (by rw [j1]), iL.fr (.of hfr hf (by decide) (by decide) (by decide)), iE.fr (.of hfr hf (by decide) (by decide) (by decide)) (by rw [j1]), iB9.fr (.of hfr hf (by decide) (by decide) (by decide)) (by rw [j0, h7, b1]), ⟨by rw [j32]; exact h6, h27z, by decide, fun _ => 0, fun j hj => absurd hj (Nat.not_lt_zero j)⟩, iP.fr2 (.of hfr hf (by decide) (by decide) (by decide)) (hq 50 (by decide)) (hq 91 (by decide)), iM.fr2 (.of hfr hf (by decide) (by decide) (by decide)) (by rw [j0, h8, h44])⟩
      exact ⟨_, rfl, ⟨hf.1 4096 (by decide) (by decide), hf.1 4097 (by decide) (by decide)⟩, tail_parse hc (by decide) (fun z => absurd z (by decide)) (nxt _ _ _ _ (iv))⟩
      skip
    · have f56 : i1 56 = i 56 := hfr 56 (by decide)
      have rg1 : RG i1 n sy := ⟨by rw [f56]; exact iG.2.1.1, by rw [hfr 57 (by decide)]; exact iG.2.1.2.1, by rw [hfr 58 (by decide)]; exact iG.2.1.2.2.1, by rw [hfr 59 (by decide)]; exact iG.2.1.2.2.2.1, gw⟩
      have re1 : RE i1 op xp yp := by intro j hj; rw [hfr 62 (by decide), hfr 63 (by decide), hfr 64 (by decide)]; exact iE.2.1 j hj
      have h9 : i1 56 9 = nI b := by rw [f56]; exact b2
      have kc : b = 1 → i1 56 12 = nI cj ∧ cj < 4096 := by rw [f56]; exact k2
      have kf : b = 1 → i1 56 10 = nI fl ∧ fl < 2 := by rw [f56]; exact k4
      have h27 : i1 56 27 = nI nt := by rw [f56]; exact t2
      have hT2 : ∀ j, j < nt → i1 77 j = nI (TT j) ∧ 1 ≤ TT j ∧ TT j ≤ 6 := fun j hj => by rw [hfr 77 (by decide)]; exact ⟨(t4 j hj).2.1, (t4 j hj).2.2.1, (t4 j hj).2.2.2.1⟩
      have hD2 : b = 1 → ∀ s x, s < S → x < 7 → i1 73 (7 * s + x) = D s x := by rw [hfr 73 (by decide)]; exact k8
      have hG2 : b = 1 → ∀ s x, s < S → 8 ≤ x → x < 14 → i1 67 (14 * s + x) = nI (G s x) ∧ G s x < S := by rw [hfr 67 (by decide)]; exact k9
      have e78 : i1 78 = i 78 := hfr 78 (by decide)
      have hRt2 : ∀ md nd tk, (-1 = o ∧ md = mo ∧ nd = no ∧ tk = ko) → ∃ val, PT2 n sy op xp yp nt (i1 78) md nd tk val := fun md nd tk h => by
        obtain ⟨e, rfl, rfl, rfl⟩ := h
        obtain ⟨val, -, v2⟩ := k13 e.symm
        exact ⟨val, by rw [e78]; exact v2.vl hvl⟩
      have h96b : i1 4096 = xs := (hfr 4096 (by decide)).trans h96
      have h97b : i1 4097 0 = nI L := by rw [hfr 4097 (by decide)]; exact h97
      refine WQ.ok ⟨_, _, _, _, _, rfl, rfl, ⟨hfr 4096 (by decide), hfr 4097 (by decide)⟩, ex_okk ?_⟩
      refine ex_istore (L' := [some (.ref (4096)), some (.ref (0)), some (.ref (56)), some (.ref (93)), some (.int (nI (m))), some (.int (nI (0))), none, none]) dL_law_781 (by decide) rfl ?_
      refine ex_aload_n (i := 2) dL_law_783 rfl rfl ?_
      refine ex_cVL (ν := m_Model_parse) (a := 56) (ci := 10) (as := []) dL_law_784 ln_Law_105 mf_Model_parse rfl (Nat.le_of_ble_eq_true rfl) rfl rfl np_Model_parse rfl rfl ⟨(Nat.le_of_ble_eq_true rfl), (Nat.le_of_ble_eq_true rfl), (Nat.le_of_ble_eq_true rfl), (Nat.le_of_ble_eq_true rfl)⟩ ?_
      refine sp_Model_parse (R := fun a b c d => a = o ∧ b = mo ∧ c = no ∧ d = ko) (ss := fun _ => 0) (sn := fun _ => 0) (tk0 := fun _ => 0) rg1 re1 ev h9 b3 kc kf h27 t3 hT2 k7 hD2 hG2 k10 k11 hRt2 (fun z => absurd z (by omega)) (fun _ _ _ m2 n2 k2 i2 hR2 => absurd (hR.1.trans hR2.1.symm) (by decide)) (fun _ _ _ k m2 n2 k2 i2 hR2 hk => (nI_ne1 (by omega) (hR2.1.trans hR.1.symm)).elim) (fun _ _ _ m2 n2 k2 v2 i2 q2 hR2 hm2 hPT2 hf hc h44 h27z hq2 hT => ?_)
      have em : m2 = mx := hR2.2.1.trans hR.2.1.symm
      have en : n2 = nx := hR2.2.2.1.trans hR.2.2.1.symm
      have ek : k2 = kx := hR2.2.2.2.trans hR.2.2.2.symm
      subst em en ek
      have j0 : i2 0 = i1 0 := hf.1 0 (by decide) (by decide)
      have j1 : i2 1 = i 1 := (hf.1 1 (by decide) (by decide)).trans (hfr 1 (by decide))
      have j32 : i2 32 = i1 32 := hf.1 32 (by decide) (by decide)
      have pv := pt_uniq hn14 ev hPT hPT2 (fun b hb => by rw [e78]; exact hvl b hb)
      have ip : IvP i2 q2 true m2 := by
        refine ⟨hm150, hT.1, (congrFun (hf.1 51 (by decide) (by decide)) 2).trans hmd, fun j k hj hk => ?_, fun s hs => ?_⟩
        · show i2 53 (j * 8 + k) = i2 (86 + k) j
          rw [hf.1 53 (by decide) (by decide), hnd]
          obtain ⟨y0, y1, y2, y3⟩ := hT.2.1 j hj
          rcases (show k = 0 ∨ k = 1 ∨ k = 2 ∨ k = 3 by omega) with rfl | rfl | rfl | rfl
          · exact y0.symm
          · exact y1.symm
          · exact y2.symm
          · exact y3.symm
        · show q2 55 s = q2 91 s
          rw [hq2 55 (by decide), qU_ne (show 55 ≠ 93 by decide), hval s hs, hT.2.2 s hs]
          exact pv s hs
      have iv : IV xs L i2 q2 true := ⟨n, sy, f, lv, kd, op, xp, yp, b, 0, m2, iG.fr (.of hfr hf (by decide) (by decide) (by decide)) (by rw [j1]), iL.fr (.of hfr hf (by decide) (by decide) (by decide)), iE.fr (.of hfr hf (by decide) (by decide) (by decide)) (by rw [j1]), iB9.fr (.of hfr hf (by decide) (by decide) (by decide)) (by rw [j0, h7, b1]), ⟨by rw [j32]; exact h6, h27z, by decide, fun _ => 0, fun j hj => absurd hj (Nat.not_lt_zero j)⟩, ip, iM.fr2 (.of hfr hf (by decide) (by decide) (by decide)) (by rw [j0, h8, h44])⟩
      exact ⟨_, rfl, ⟨hf.1 4096 (by decide) (by decide), hf.1 4097 (by decide) (by decide)⟩, tail_parse hc (by decide) (fun _ => by rw [hq2 93 (by decide), qU_at]) (nxt _ _ _ _ (iv))⟩
      skip
  | true =>
    obtain ⟨S, cj, fl, D, G, o, mo, no, ko, k1, k2, k3, k4, k5, k6, k7, k8, k9, k10, k11, k12, k13⟩ := parse_key (i 48) gw iE.1.2.2.2 iE.2.2.2.1 ev bD t3 (fun j hj => ⟨(t4 j hj).2.2.1, (t4 j hj).2.2.2.1⟩)
    refine sp_Works_parse_46 (R := fun a b c d => a = o ∧ b = mo ∧ c = no ∧ d = ko) (TT := TT) (ss := fun _ => 0) (sn := fun _ => 0) (tk0 := fun _ => 0) iM.1 iG.1 iE.1 ev b1 b3 k1 k3 t1 t3 (fun j hj => ⟨(t4 j hj).1, (t4 j hj).2.2.1, (t4 j hj).2.2.2.1⟩) k5 k6 k11 (fun a _ _ _ h => by rw [h.1]; exact k12) (fun md nd tk h => by
      obtain ⟨e, rfl, rfl, rfl⟩ := h
      obtain ⟨val, v1, -⟩ := k13 e.symm
      exact ⟨val, v1⟩) (fun h => ?_) (fun hb c0 f0 mx nx kx i1 q1 hR hfr h7 h8 h6 hq => ?_) (fun hb c0 f0 kz mx nx kx i1 q1 hR hkz hfr h7 h8 h6 hq => ?_) (fun hb c0 f0 mx nx kx val i1 q1 hR hPT hfr h7 h8 h6 hmd hm150 hnd hq hval => ?_)
    · obtain ⟨i1, rfl⟩ : ∃ i1, i1 = i := ⟨_, rfl⟩
      have hfr : Fr [0, 32, 38, 40, 43, 45, 46, 48] i1 i1 := Fr.rf
      have f56 : i1 56 = i1 56 := hfr 56 (by decide)
      have rg1 : RG i1 n sy := ⟨by rw [f56]; exact iG.2.1.1, by rw [hfr 57 (by decide)]; exact iG.2.1.2.1, by rw [hfr 58 (by decide)]; exact iG.2.1.2.2.1, by rw [hfr 59 (by decide)]; exact iG.2.1.2.2.2.1, gw⟩
      have re1 : RE i1 op xp yp := by intro j hj; rw [hfr 62 (by decide), hfr 63 (by decide), hfr 64 (by decide)]; exact iE.2.1 j hj
      have h9 : i1 56 9 = nI b := by rw [f56]; exact b2
      have kc : b = 1 → i1 56 12 = nI cj ∧ cj < 4096 := by rw [f56]; exact k2
      have kf : b = 1 → i1 56 10 = nI fl ∧ fl < 2 := by rw [f56]; exact k4
      have h27 : i1 56 27 = nI nt := by rw [f56]; exact t2
      have hT2 : ∀ j, j < nt → i1 77 j = nI (TT j) ∧ 1 ≤ TT j ∧ TT j ≤ 6 := fun j hj => by rw [hfr 77 (by decide)]; exact ⟨(t4 j hj).2.1, (t4 j hj).2.2.1, (t4 j hj).2.2.2.1⟩
      have hD2 : b = 1 → ∀ s x, s < S → x < 7 → i1 73 (7 * s + x) = D s x := by rw [hfr 73 (by decide)]; exact k8
      have hG2 : b = 1 → ∀ s x, s < S → 8 ≤ x → x < 14 → i1 67 (14 * s + x) = nI (G s x) ∧ G s x < S := by rw [hfr 67 (by decide)]; exact k9
      have e78 : i1 78 = i1 78 := hfr 78 (by decide)
      have hRt2 : ∀ md nd tk, (-1 = o ∧ md = mo ∧ nd = no ∧ tk = ko) → ∃ val, PT2 n sy op xp yp nt (i1 78) md nd tk val := fun md nd tk h => by
        obtain ⟨e, rfl, rfl, rfl⟩ := h
        obtain ⟨val, -, v2⟩ := k13 e.symm
        exact ⟨val, by rw [e78]; exact v2.vl hvl⟩
      have h96b : i1 4096 = xs := (hfr 4096 (by decide)).trans h96
      have h97b : i1 4097 0 = nI L := by rw [hfr 4097 (by decide)]; exact h97
      refine WQ.er ⟨_, _, _, _, rfl, by decide, ⟨rfl, rfl⟩, ex_thr (k' := 1) (by decide) (by decide) ?_⟩
      refine ex_istore (L' := [some (.ref (4096)), some (.ref (0)), some (.ref (56)), some (.ref (93)), some (.int (nI (m))), some (.int (nI (1))), none, none]) dL_law_781 (by decide) rfl ?_
      refine ex_aload_n (i := 2) dL_law_783 rfl rfl ?_
      refine ex_cVL (ν := m_Model_parse) (a := 56) (ci := 10) (as := []) dL_law_784 ln_Law_105 mf_Model_parse rfl (Nat.le_of_ble_eq_true rfl) rfl rfl np_Model_parse rfl rfl ⟨(Nat.le_of_ble_eq_true rfl), (Nat.le_of_ble_eq_true rfl), (Nat.le_of_ble_eq_true rfl), (Nat.le_of_ble_eq_true rfl)⟩ ?_
      refine sp_Model_parse (R := fun a b c d => a = o ∧ b = mo ∧ c = no ∧ d = ko) (ss := fun _ => 0) (sn := fun _ => 0) (tk0 := fun _ => 0) rg1 re1 ev h9 b3 kc kf h27 t3 hT2 k7 hD2 hG2 k10 k11 hRt2 (fun _ i2 hf hc => ?_) (fun z1 z2 z3 => absurd h (by omega)) (fun z1 z2 z3 => absurd h (by omega)) (fun z1 z2 z3 => absurd h (by omega))
      exact ⟨_, rfl, ⟨hf.1 4096 (by decide) (by decide), hf.1 4097 (by decide) (by decide)⟩, tail_parse hc (by decide) (fun z => absurd z (by decide)) (nxt _ _ _ _ (hIV.fm (hf.mono (by decide) (by decide)) (fun c hc => rfl)))⟩
      skip
    · have f56 : i1 56 = i 56 := hfr 56 (by decide)
      have rg1 : RG i1 n sy := ⟨by rw [f56]; exact iG.2.1.1, by rw [hfr 57 (by decide)]; exact iG.2.1.2.1, by rw [hfr 58 (by decide)]; exact iG.2.1.2.2.1, by rw [hfr 59 (by decide)]; exact iG.2.1.2.2.2.1, gw⟩
      have re1 : RE i1 op xp yp := by intro j hj; rw [hfr 62 (by decide), hfr 63 (by decide), hfr 64 (by decide)]; exact iE.2.1 j hj
      have h9 : i1 56 9 = nI b := by rw [f56]; exact b2
      have kc : b = 1 → i1 56 12 = nI cj ∧ cj < 4096 := by rw [f56]; exact k2
      have kf : b = 1 → i1 56 10 = nI fl ∧ fl < 2 := by rw [f56]; exact k4
      have h27 : i1 56 27 = nI nt := by rw [f56]; exact t2
      have hT2 : ∀ j, j < nt → i1 77 j = nI (TT j) ∧ 1 ≤ TT j ∧ TT j ≤ 6 := fun j hj => by rw [hfr 77 (by decide)]; exact ⟨(t4 j hj).2.1, (t4 j hj).2.2.1, (t4 j hj).2.2.2.1⟩
      have hD2 : b = 1 → ∀ s x, s < S → x < 7 → i1 73 (7 * s + x) = D s x := by rw [hfr 73 (by decide)]; exact k8
      have hG2 : b = 1 → ∀ s x, s < S → 8 ≤ x → x < 14 → i1 67 (14 * s + x) = nI (G s x) ∧ G s x < S := by rw [hfr 67 (by decide)]; exact k9
      have e78 : i1 78 = i 78 := hfr 78 (by decide)
      have hRt2 : ∀ md nd tk, (-1 = o ∧ md = mo ∧ nd = no ∧ tk = ko) → ∃ val, PT2 n sy op xp yp nt (i1 78) md nd tk val := fun md nd tk h => by
        obtain ⟨e, rfl, rfl, rfl⟩ := h
        obtain ⟨val, -, v2⟩ := k13 e.symm
        exact ⟨val, by rw [e78]; exact v2.vl hvl⟩
      have h96b : i1 4096 = xs := (hfr 4096 (by decide)).trans h96
      have h97b : i1 4097 0 = nI L := by rw [hfr 4097 (by decide)]; exact h97
      refine WQ.er ⟨_, _, _, _, rfl, by decide, ⟨hfr 4096 (by decide), hfr 4097 (by decide)⟩, ex_thr (k' := 2) (by decide) (by decide) ?_⟩
      refine ex_istore (L' := [some (.ref (4096)), some (.ref (0)), some (.ref (56)), some (.ref (93)), some (.int (nI (m))), some (.int (nI (2))), none, none]) dL_law_781 (by decide) rfl ?_
      refine ex_aload_n (i := 2) dL_law_783 rfl rfl ?_
      refine ex_cVL (ν := m_Model_parse) (a := 56) (ci := 10) (as := []) dL_law_784 ln_Law_105 mf_Model_parse rfl (Nat.le_of_ble_eq_true rfl) rfl rfl np_Model_parse rfl rfl ⟨(Nat.le_of_ble_eq_true rfl), (Nat.le_of_ble_eq_true rfl), (Nat.le_of_ble_eq_true rfl), (Nat.le_of_ble_eq_true rfl)⟩ ?_
      refine sp_Model_parse (R := fun a b c d => a = o ∧ b = mo ∧ c = no ∧ d = ko) (ss := fun _ => 0) (sn := fun _ => 0) (tk0 := fun _ => 0) rg1 re1 ev h9 b3 kc kf h27 t3 hT2 k7 hD2 hG2 k10 k11 hRt2 (fun z => absurd z (by omega)) (fun _ _ _ m2 n2 k2 i2 hR2 hf hc h44 h27z => ?_) (fun _ _ _ k m2 n2 k2 i2 hR2 hk => (nI_ne2 (by omega) (hR2.1.trans hR.1.symm)).elim) (fun _ _ _ m2 n2 k2 v2 i2 q2 hR2 => absurd (hR2.1.trans hR.1.symm) (by decide))
      have j0 : i2 0 = i1 0 := hf.1 0 (by decide) (by decide)
      have j1 : i2 1 = i 1 := (hf.1 1 (by decide) (by decide)).trans (hfr 1 (by decide))
      have j32 : i2 32 = i1 32 := hf.1 32 (by decide) (by decide)
      have iv : IV xs L i2 q1 true := ⟨n, sy, f, lv, kd, op, xp, yp, b, 0, md, iG.fr (.of hfr hf (by decide) (by decide) (by decide)) (by rw [j1]), iL.fr (.of hfr hf (by decide) (by decide) (by decide)), iE.fr (.of hfr hf (by decide) (by decide) (by decide)) (by rw [j1]), iB9.fr (.of hfr hf (by decide) (by decide) (by decide)) (by rw [j0, h7, b1]), ⟨by rw [j32]; exact h6, h27z, by decide, fun _ => 0, fun j hj => absurd hj (Nat.not_lt_zero j)⟩, iP.fr2 (.of hfr hf (by decide) (by decide) (by decide)) (hq 55 (by decide)) (hq 91 (by decide)), iM.fr2 (.of hfr hf (by decide) (by decide) (by decide)) (by rw [j0, h8, h44])⟩
      exact ⟨_, rfl, ⟨hf.1 4096 (by decide) (by decide), hf.1 4097 (by decide) (by decide)⟩, tail_parse hc (by decide) (fun z => absurd z (by decide)) (nxt _ _ _ _ (iv))⟩
      skip
    · have f56 : i1 56 = i 56 := hfr 56 (by decide)
      have rg1 : RG i1 n sy := ⟨by rw [f56]; exact iG.2.1.1, by rw [hfr 57 (by decide)]; exact iG.2.1.2.1, by rw [hfr 58 (by decide)]; exact iG.2.1.2.2.1, by rw [hfr 59 (by decide)]; exact iG.2.1.2.2.2.1, gw⟩
      have re1 : RE i1 op xp yp := by intro j hj; rw [hfr 62 (by decide), hfr 63 (by decide), hfr 64 (by decide)]; exact iE.2.1 j hj
      have h9 : i1 56 9 = nI b := by rw [f56]; exact b2
      have kc : b = 1 → i1 56 12 = nI cj ∧ cj < 4096 := by rw [f56]; exact k2
      have kf : b = 1 → i1 56 10 = nI fl ∧ fl < 2 := by rw [f56]; exact k4
      have h27 : i1 56 27 = nI nt := by rw [f56]; exact t2
      have hT2 : ∀ j, j < nt → i1 77 j = nI (TT j) ∧ 1 ≤ TT j ∧ TT j ≤ 6 := fun j hj => by rw [hfr 77 (by decide)]; exact ⟨(t4 j hj).2.1, (t4 j hj).2.2.1, (t4 j hj).2.2.2.1⟩
      have hD2 : b = 1 → ∀ s x, s < S → x < 7 → i1 73 (7 * s + x) = D s x := by rw [hfr 73 (by decide)]; exact k8
      have hG2 : b = 1 → ∀ s x, s < S → 8 ≤ x → x < 14 → i1 67 (14 * s + x) = nI (G s x) ∧ G s x < S := by rw [hfr 67 (by decide)]; exact k9
      have e78 : i1 78 = i 78 := hfr 78 (by decide)
      have hRt2 : ∀ md nd tk, (-1 = o ∧ md = mo ∧ nd = no ∧ tk = ko) → ∃ val, PT2 n sy op xp yp nt (i1 78) md nd tk val := fun md nd tk h => by
        obtain ⟨e, rfl, rfl, rfl⟩ := h
        obtain ⟨val, -, v2⟩ := k13 e.symm
        exact ⟨val, by rw [e78]; exact v2.vl hvl⟩
      have h96b : i1 4096 = xs := (hfr 4096 (by decide)).trans h96
      have h97b : i1 4097 0 = nI L := by rw [hfr 4097 (by decide)]; exact h97
      refine WQ.er ⟨_, _, _, _, rfl, by decide, ⟨hfr 4096 (by decide), hfr 4097 (by decide)⟩, ex_thr (k' := 3) (by decide) (by decide) ?_⟩
      refine ex_istore (L' := [some (.ref (4096)), some (.ref (0)), some (.ref (56)), some (.ref (93)), some (.int (nI (m))), some (.int (nI (3))), none, none]) dL_law_781 (by decide) rfl ?_
      refine ex_aload_n (i := 2) dL_law_783 rfl rfl ?_
      refine ex_cVL (ν := m_Model_parse) (a := 56) (ci := 10) (as := []) dL_law_784 ln_Law_105 mf_Model_parse rfl (Nat.le_of_ble_eq_true rfl) rfl rfl np_Model_parse rfl rfl ⟨(Nat.le_of_ble_eq_true rfl), (Nat.le_of_ble_eq_true rfl), (Nat.le_of_ble_eq_true rfl), (Nat.le_of_ble_eq_true rfl)⟩ ?_
      refine sp_Model_parse (R := fun a b c d => a = o ∧ b = mo ∧ c = no ∧ d = ko) (ss := fun _ => 0) (sn := fun _ => 0) (tk0 := fun _ => 0) rg1 re1 ev h9 b3 kc kf h27 t3 hT2 k7 hD2 hG2 k10 k11 hRt2 (fun z => absurd z (by omega)) (fun _ _ _ m2 n2 k2 i2 hR2 => (nI_ne2 (k := kz) (by omega) (hR.1.trans hR2.1.symm)).elim) (fun _ _ _ k m2 n2 k2 i2 hR2 hk hf hc h44 h27z => ?_) (fun _ _ _ m2 n2 k2 v2 i2 q2 hR2 => (nI_ne1 (k := kz) (by omega) (hR.1.trans hR2.1.symm)).elim)
      rw [hR2.1.trans hR.1.symm] at h44
      have j0 : i2 0 = i1 0 := hf.1 0 (by decide) (by decide)
      have j1 : i2 1 = i 1 := (hf.1 1 (by decide) (by decide)).trans (hfr 1 (by decide))
      have j32 : i2 32 = i1 32 := hf.1 32 (by decide) (by decide)
      have iv : IV xs L i2 q1 true := ⟨n, sy, f, lv, kd, op, xp, yp, b, 0, md, iG.fr (.of hfr hf (by decide) (by decide) (by decide)) (by rw [j1]), iL.fr (.of hfr hf (by decide) (by decide) (by decide)), iE.fr (.of hfr hf (by decide) (by decide) (by decide)) (by rw [j1]), iB9.fr (.of hfr hf (by decide) (by decide) (by decide)) (by rw [j0, h7, b1]), ⟨by rw [j32]; exact h6, h27z, by decide, fun _ => 0, fun j hj => absurd hj (Nat.not_lt_zero j)⟩, iP.fr2 (.of hfr hf (by decide) (by decide) (by decide)) (hq 55 (by decide)) (hq 91 (by decide)), iM.fr2 (.of hfr hf (by decide) (by decide) (by decide)) (by rw [j0, h8, h44])⟩
      exact ⟨_, rfl, ⟨hf.1 4096 (by decide) (by decide), hf.1 4097 (by decide) (by decide)⟩, tail_parse hc (by decide) (fun z => absurd z (by decide)) (nxt _ _ _ _ (iv))⟩
      skip
    · have f56 : i1 56 = i 56 := hfr 56 (by decide)
      have rg1 : RG i1 n sy := ⟨by rw [f56]; exact iG.2.1.1, by rw [hfr 57 (by decide)]; exact iG.2.1.2.1, by rw [hfr 58 (by decide)]; exact iG.2.1.2.2.1, by rw [hfr 59 (by decide)]; exact iG.2.1.2.2.2.1, gw⟩
      have re1 : RE i1 op xp yp := by intro j hj; rw [hfr 62 (by decide), hfr 63 (by decide), hfr 64 (by decide)]; exact iE.2.1 j hj
      have h9 : i1 56 9 = nI b := by rw [f56]; exact b2
      have kc : b = 1 → i1 56 12 = nI cj ∧ cj < 4096 := by rw [f56]; exact k2
      have kf : b = 1 → i1 56 10 = nI fl ∧ fl < 2 := by rw [f56]; exact k4
      have h27 : i1 56 27 = nI nt := by rw [f56]; exact t2
      have hT2 : ∀ j, j < nt → i1 77 j = nI (TT j) ∧ 1 ≤ TT j ∧ TT j ≤ 6 := fun j hj => by rw [hfr 77 (by decide)]; exact ⟨(t4 j hj).2.1, (t4 j hj).2.2.1, (t4 j hj).2.2.2.1⟩
      have hD2 : b = 1 → ∀ s x, s < S → x < 7 → i1 73 (7 * s + x) = D s x := by rw [hfr 73 (by decide)]; exact k8
      have hG2 : b = 1 → ∀ s x, s < S → 8 ≤ x → x < 14 → i1 67 (14 * s + x) = nI (G s x) ∧ G s x < S := by rw [hfr 67 (by decide)]; exact k9
      have e78 : i1 78 = i 78 := hfr 78 (by decide)
      have hRt2 : ∀ md nd tk, (-1 = o ∧ md = mo ∧ nd = no ∧ tk = ko) → ∃ val, PT2 n sy op xp yp nt (i1 78) md nd tk val := fun md nd tk h => by
        obtain ⟨e, rfl, rfl, rfl⟩ := h
        obtain ⟨val, -, v2⟩ := k13 e.symm
        exact ⟨val, by rw [e78]; exact v2.vl hvl⟩
      have h96b : i1 4096 = xs := (hfr 4096 (by decide)).trans h96
      have h97b : i1 4097 0 = nI L := by rw [hfr 4097 (by decide)]; exact h97
      refine WQ.ok ⟨_, _, _, _, _, rfl, rfl, ⟨hfr 4096 (by decide), hfr 4097 (by decide)⟩, ex_okk ?_⟩
      refine ex_istore (L' := [some (.ref (4096)), some (.ref (0)), some (.ref (56)), some (.ref (93)), some (.int (nI (m))), some (.int (nI (0))), none, none]) dL_law_781 (by decide) rfl ?_
      refine ex_aload_n (i := 2) dL_law_783 rfl rfl ?_
      refine ex_cVL (ν := m_Model_parse) (a := 56) (ci := 10) (as := []) dL_law_784 ln_Law_105 mf_Model_parse rfl (Nat.le_of_ble_eq_true rfl) rfl rfl np_Model_parse rfl rfl ⟨(Nat.le_of_ble_eq_true rfl), (Nat.le_of_ble_eq_true rfl), (Nat.le_of_ble_eq_true rfl), (Nat.le_of_ble_eq_true rfl)⟩ ?_
      refine sp_Model_parse (R := fun a b c d => a = o ∧ b = mo ∧ c = no ∧ d = ko) (ss := fun _ => 0) (sn := fun _ => 0) (tk0 := fun _ => 0) rg1 re1 ev h9 b3 kc kf h27 t3 hT2 k7 hD2 hG2 k10 k11 hRt2 (fun z => absurd z (by omega)) (fun _ _ _ m2 n2 k2 i2 hR2 => absurd (hR.1.trans hR2.1.symm) (by decide)) (fun _ _ _ k m2 n2 k2 i2 hR2 hk => (nI_ne1 (by omega) (hR2.1.trans hR.1.symm)).elim) (fun _ _ _ m2 n2 k2 v2 i2 q2 hR2 hm2 hPT2 hf hc h44 h27z hq2 hT => ?_)
      have em : m2 = mx := hR2.2.1.trans hR.2.1.symm
      have en : n2 = nx := hR2.2.2.1.trans hR.2.2.1.symm
      have ek : k2 = kx := hR2.2.2.2.trans hR.2.2.2.symm
      subst em en ek
      have j0 : i2 0 = i1 0 := hf.1 0 (by decide) (by decide)
      have j1 : i2 1 = i 1 := (hf.1 1 (by decide) (by decide)).trans (hfr 1 (by decide))
      have j32 : i2 32 = i1 32 := hf.1 32 (by decide) (by decide)
      have pv := pt_uniq hn14 ev hPT hPT2 (fun b hb => by rw [e78]; exact hvl b hb)
      have ip : IvP i2 q2 false m2 := by
        refine ⟨hm150, hT.1, (congrFun (hf.1 46 (by decide) (by decide)) 2).trans hmd, fun j k hj hk => ?_, fun s hs => ?_⟩
        · show i2 48 (j * 8 + k) = i2 (86 + k) j
          rw [hf.1 48 (by decide) (by decide), hnd]
          obtain ⟨y0, y1, y2, y3⟩ := hT.2.1 j hj
          rcases (show k = 0 ∨ k = 1 ∨ k = 2 ∨ k = 3 by omega) with rfl | rfl | rfl | rfl
          · exact y0.symm
          · exact y1.symm
          · exact y2.symm
          · exact y3.symm
        · show q2 50 s = q2 91 s
          rw [hq2 50 (by decide), qU_ne (show 50 ≠ 93 by decide), hval s hs, hT.2.2 s hs]
          exact pv s hs
      have iv : IV xs L i2 q2 false := ⟨n, sy, f, lv, kd, op, xp, yp, b, 0, m2, iG.fr (.of hfr hf (by decide) (by decide) (by decide)) (by rw [j1]), iL.fr (.of hfr hf (by decide) (by decide) (by decide)), iE.fr (.of hfr hf (by decide) (by decide) (by decide)) (by rw [j1]), iB9.fr (.of hfr hf (by decide) (by decide) (by decide)) (by rw [j0, h7, b1]), ⟨by rw [j32]; exact h6, h27z, by decide, fun _ => 0, fun j hj => absurd hj (Nat.not_lt_zero j)⟩, ip, iM.fr2 (.of hfr hf (by decide) (by decide) (by decide)) (by rw [j0, h8, h44])⟩
      exact ⟨_, rfl, ⟨hf.1 4096 (by decide) (by decide), hf.1 4097 (by decide) (by decide)⟩, tail_parse hc (by decide) (fun _ => by rw [hq2 93 (by decide), qU_at]) (nxt _ _ _ _ (iv))⟩
      skip
