/-! ===== the law: node, attribute, count, fault, level, token, clear ===== -/
theorem op_node {xs : Nat → Int32} {L m g : Nat} {i : Nat → Nat → Int32} {q : Nat → Nat → Int64} {t : Bool} {K : Nat × Nat} {Q : xRes → xMem → Prop} (hIV : IV xs L i q t) (hL3 : L ≤ 3072) (hm : m + 6 ≤ L) (nxt : ∀ g' i' q' t', IV xs L i' q' t' → Wx m_Law_law 1037 [some (.ref 4096), some (.ref 0), some (.ref 56), some (.ref 93), some (.int (nI m)), none, none, none] [] (94, g', i', q', RT t') K Q) : Wx m_Law_law 833 [some (.ref 4096), some (.ref 0), some (.ref 56), some (.ref 93), some (.int (nI m)), none, none, none] [] (94, g, i, q, RT t) (K.1 + 1, K.2 + 6) Q := by
  obtain ⟨n, sy, f, lv, kd, op, xp, yp, b, nt, md, iG, iL, iE, iB9, iT, iP, iM⟩ := id hIV
  have h96 := iM.2.2.2.1
  have h97 := iM.2.2.2.2
  refine ex_aload_n (i := 1) dL_law_833 rfl rfl ?_
  refine ex_aload_n (i := 0) dL_law_834 rfl rfl ?_
  refine ex_iload dL_law_835 rfl ?_
  refine ex_iconst (v := nI 1) dL_law_837 (by decide) ?_
  refine ex_iaddN dL_law_838 ?_
  refine ex_sldN rfl dL_law_839 h97 hL3 (by omega) (congrFun h96 _) ?_
  refine ex_aload_n (i := 0) dL_law_840 rfl rfl ?_
  refine ex_iload dL_law_841 rfl ?_
  refine ex_iconst (v := nI 2) dL_law_843 (by decide) ?_
  refine ex_iaddN dL_law_844 ?_
  refine ex_sldN rfl dL_law_845 h97 hL3 (by omega) (congrFun h96 _) ?_
  refine ex_aload_n (i := 3) dL_law_846 rfl rfl ?_
  refine ex_cHL (P := fun k x g' i' q' t' => Wx m_Law_law 850 [some (.ref 4096), some (.ref 0), some (.ref 56), some (.ref 93), some (.int (nI m)), none, none, none] [.int (nI k)] (94, g', i', (if k = 0 then xUL q' 93 0 x else q'), RT t') K Q) (ν := m_Law_node) (as := [.ref (0), .int (xs (m + 1)), .int (xs (m + 2)), .ref (93)]) (K := K) dL_law_847 lnH_node mfH_node npH_node rfl rfl ⟨(Nat.le_of_ble_eq_true rfl), (Nat.le_of_ble_eq_true rfl), (Nat.le_of_ble_eq_true rfl), (Nat.le_of_ble_eq_true rfl)⟩ ?_ (fun k x g' i' q' t' _ _ h => h)
  refine sp_Law_node ?_
  obtain ⟨p1, p2, p3, p4, p5⟩ := iP
  cases t with
  | false =>
    have p3 : i 46 2 = nI md := p3
    have p4 : ∀ j k, j < md → k < 4 → i 48 (j * 8 + k) = i (86 + k) j := p4
    refine sp_Works_node_46 iM.1 p3 p1 (fun hx => ?_) (fun s hs hs2 hx => ?_) (fun s k hs hs2 hk hk2 => ?_)
    · refine WQ.er ⟨_, _, _, _, rfl, by decide, ⟨rfl, rfl⟩, ex_thr (k' := 1) (by decide) (by decide) ?_⟩
      refine ex_istore (L' := [some (.ref (4096)), some (.ref (0)), some (.ref (56)), some (.ref (93)), some (.int (nI (m))), some (.int (nI (1))), none, none]) dL_law_850 (by decide) rfl ?_
      refine ex_aload_n (i := 2) dL_law_852 rfl rfl ?_
      refine ex_aload_n (i := 0) dL_law_853 rfl rfl ?_
      refine ex_iload dL_law_854 rfl ?_
      refine ex_iconst (v := nI 1) dL_law_856 (by decide) ?_
      refine ex_iaddN dL_law_857 ?_
      refine ex_sldN rfl dL_law_858 h97 hL3 (by omega) (congrFun h96 _) ?_
      refine ex_aload_n (i := 0) dL_law_859 rfl rfl ?_
      refine ex_iload dL_law_860 rfl ?_
      refine ex_iconst (v := nI 2) dL_law_862 (by decide) ?_
      refine ex_iaddN dL_law_863 ?_
      refine ex_sldN rfl dL_law_864 h97 hL3 (by omega) (congrFun h96 _) ?_
      refine ex_cVL (ν := m_Model_node) (a := 56) (ci := 10) (as := [.int (xs (m + 1)), .int (xs (m + 2))]) dL_law_865 ln_Law_112 mf_Model_node rfl (Nat.le_of_ble_eq_true rfl) rfl rfl np_Model_node rfl rfl ⟨(Nat.le_of_ble_eq_true rfl), (Nat.le_of_ble_eq_true rfl), (Nat.le_of_ble_eq_true rfl), (Nat.le_of_ble_eq_true rfl)⟩ ?_
      refine sp_Model_node p2 p1 (fun _ i1 hf hc => ?_) (fun s hs hs2 => absurd ⟨s, hs, hs2⟩ hx) (fun s _ hs hs2 => absurd ⟨s, hs, hs2⟩ hx)
      exact ⟨_, rfl, ⟨hf.1 4096 (by decide) (by decide), hf.1 4097 (by decide) (by decide)⟩, tail_node hc (by decide) (fun z => absurd z (by decide)) (nxt _ _ _ _ (hIV.fm (hf.mono (by decide) (by decide)) (fun c hc => rfl)))⟩
      skip
    · refine WQ.er ⟨_, _, _, _, rfl, by decide, ⟨rfl, rfl⟩, ex_thr (k' := 2) (by decide) (by decide) ?_⟩
      refine ex_istore (L' := [some (.ref (4096)), some (.ref (0)), some (.ref (56)), some (.ref (93)), some (.int (nI (m))), some (.int (nI (2))), none, none]) dL_law_850 (by decide) rfl ?_
      refine ex_aload_n (i := 2) dL_law_852 rfl rfl ?_
      refine ex_aload_n (i := 0) dL_law_853 rfl rfl ?_
      refine ex_iload dL_law_854 rfl ?_
      refine ex_iconst (v := nI 1) dL_law_856 (by decide) ?_
      refine ex_iaddN dL_law_857 ?_
      refine ex_sldN rfl dL_law_858 h97 hL3 (by omega) (congrFun h96 _) ?_
      refine ex_aload_n (i := 0) dL_law_859 rfl rfl ?_
      refine ex_iload dL_law_860 rfl ?_
      refine ex_iconst (v := nI 2) dL_law_862 (by decide) ?_
      refine ex_iaddN dL_law_863 ?_
      refine ex_sldN rfl dL_law_864 h97 hL3 (by omega) (congrFun h96 _) ?_
      refine ex_cVL (ν := m_Model_node) (a := 56) (ci := 10) (as := [.int (xs (m + 1)), .int (xs (m + 2))]) dL_law_865 ln_Law_112 mf_Model_node rfl (Nat.le_of_ble_eq_true rfl) rfl rfl np_Model_node rfl rfl ⟨(Nat.le_of_ble_eq_true rfl), (Nat.le_of_ble_eq_true rfl), (Nat.le_of_ble_eq_true rfl), (Nat.le_of_ble_eq_true rfl)⟩ ?_
      refine sp_Model_node p2 p1 (fun z => absurd ⟨s, hs, hs2⟩ z) (fun _ _ _ _ i1 hf hc => ?_) (fun _ k _ _ hk hk2 => absurd ⟨k, hk, hk2⟩ hx)
      exact ⟨_, rfl, ⟨hf.1 4096 (by decide) (by decide), hf.1 4097 (by decide) (by decide)⟩, tail_node hc (by decide) (fun z => absurd z (by decide)) (nxt _ _ _ _ (hIV.fm (hf.mono (by decide) (by decide)) (fun c hc => rfl)))⟩
      skip
    · refine WQ.ok ⟨_, _, _, _, _, rfl, rfl, ⟨rfl, rfl⟩, ex_okk ?_⟩
      refine ex_istore (L' := [some (.ref (4096)), some (.ref (0)), some (.ref (56)), some (.ref (93)), some (.int (nI (m))), some (.int (nI (0))), none, none]) dL_law_850 (by decide) rfl ?_
      refine ex_aload_n (i := 2) dL_law_852 rfl rfl ?_
      refine ex_aload_n (i := 0) dL_law_853 rfl rfl ?_
      refine ex_iload dL_law_854 rfl ?_
      refine ex_iconst (v := nI 1) dL_law_856 (by decide) ?_
      refine ex_iaddN dL_law_857 ?_
      refine ex_sldN rfl dL_law_858 h97 hL3 (by omega) (congrFun h96 _) ?_
      refine ex_aload_n (i := 0) dL_law_859 rfl rfl ?_
      refine ex_iload dL_law_860 rfl ?_
      refine ex_iconst (v := nI 2) dL_law_862 (by decide) ?_
      refine ex_iaddN dL_law_863 ?_
      refine ex_sldN rfl dL_law_864 h97 hL3 (by omega) (congrFun h96 _) ?_
      refine ex_cVL (ν := m_Model_node) (a := 56) (ci := 10) (as := [.int (xs (m + 1)), .int (xs (m + 2))]) dL_law_865 ln_Law_112 mf_Model_node rfl (Nat.le_of_ble_eq_true rfl) rfl rfl np_Model_node rfl rfl ⟨(Nat.le_of_ble_eq_true rfl), (Nat.le_of_ble_eq_true rfl), (Nat.le_of_ble_eq_true rfl), (Nat.le_of_ble_eq_true rfl)⟩ ?_
      refine sp_Model_node p2 p1 (fun z => absurd ⟨s, hs, hs2⟩ z) (fun _ _ _ z => absurd ⟨k, hk, hk2⟩ z) (fun s9 k9 hs9 hs92 hk9 hk92 i1 hf hc => ?_)
      have e1 : s9 = s := by rw [hs] at hs9; exact ((nI_eq (by omega) (by omega)).mp hs9).symm
      have e2 : k9 = k := by rw [hk] at hk9; exact ((nI_eq (by omega) (by omega)).mp hk9).symm
      subst e1 e2
      exact ⟨_, rfl, ⟨hf.1 4096 (by decide) (by decide), hf.1 4097 (by decide) (by decide)⟩, tail_node hc (by decide) (fun _ => by rw [qU_at, p4 _ _ hs2 hk2]) (nxt _ _ _ _ (hIV.fm (hf.mono (by decide) (by decide)) (fun c hc => qU_ne hc)))⟩
      skip
  | true =>
    have p3 : i 51 2 = nI md := p3
    have p4 : ∀ j k, j < md → k < 4 → i 53 (j * 8 + k) = i (86 + k) j := p4
    refine sp_Works_node_51 iM.1 p3 p1 (fun hx => ?_) (fun s hs hs2 hx => ?_) (fun s k hs hs2 hk hk2 => ?_)
    · refine WQ.er ⟨_, _, _, _, rfl, by decide, ⟨rfl, rfl⟩, ex_thr (k' := 1) (by decide) (by decide) ?_⟩
      refine ex_istore (L' := [some (.ref (4096)), some (.ref (0)), some (.ref (56)), some (.ref (93)), some (.int (nI (m))), some (.int (nI (1))), none, none]) dL_law_850 (by decide) rfl ?_
      refine ex_aload_n (i := 2) dL_law_852 rfl rfl ?_
      refine ex_aload_n (i := 0) dL_law_853 rfl rfl ?_
      refine ex_iload dL_law_854 rfl ?_
      refine ex_iconst (v := nI 1) dL_law_856 (by decide) ?_
      refine ex_iaddN dL_law_857 ?_
      refine ex_sldN rfl dL_law_858 h97 hL3 (by omega) (congrFun h96 _) ?_
      refine ex_aload_n (i := 0) dL_law_859 rfl rfl ?_
      refine ex_iload dL_law_860 rfl ?_
      refine ex_iconst (v := nI 2) dL_law_862 (by decide) ?_
      refine ex_iaddN dL_law_863 ?_
      refine ex_sldN rfl dL_law_864 h97 hL3 (by omega) (congrFun h96 _) ?_
      refine ex_cVL (ν := m_Model_node) (a := 56) (ci := 10) (as := [.int (xs (m + 1)), .int (xs (m + 2))]) dL_law_865 ln_Law_112 mf_Model_node rfl (Nat.le_of_ble_eq_true rfl) rfl rfl np_Model_node rfl rfl ⟨(Nat.le_of_ble_eq_true rfl), (Nat.le_of_ble_eq_true rfl), (Nat.le_of_ble_eq_true rfl), (Nat.le_of_ble_eq_true rfl)⟩ ?_
      refine sp_Model_node p2 p1 (fun _ i1 hf hc => ?_) (fun s hs hs2 => absurd ⟨s, hs, hs2⟩ hx) (fun s _ hs hs2 => absurd ⟨s, hs, hs2⟩ hx)
      exact ⟨_, rfl, ⟨hf.1 4096 (by decide) (by decide), hf.1 4097 (by decide) (by decide)⟩, tail_node hc (by decide) (fun z => absurd z (by decide)) (nxt _ _ _ _ (hIV.fm (hf.mono (by decide) (by decide)) (fun c hc => rfl)))⟩
      skip
    · refine WQ.er ⟨_, _, _, _, rfl, by decide, ⟨rfl, rfl⟩, ex_thr (k' := 2) (by decide) (by decide) ?_⟩
      refine ex_istore (L' := [some (.ref (4096)), some (.ref (0)), some (.ref (56)), some (.ref (93)), some (.int (nI (m))), some (.int (nI (2))), none, none]) dL_law_850 (by decide) rfl ?_
      refine ex_aload_n (i := 2) dL_law_852 rfl rfl ?_
      refine ex_aload_n (i := 0) dL_law_853 rfl rfl ?_
      refine ex_iload dL_law_854 rfl ?_
      refine ex_iconst (v := nI 1) dL_law_856 (by decide) ?_
      refine ex_iaddN dL_law_857 ?_
      refine ex_sldN rfl dL_law_858 h97 hL3 (by omega) (congrFun h96 _) ?_
      refine ex_aload_n (i := 0) dL_law_859 rfl rfl ?_
      refine ex_iload dL_law_860 rfl ?_
      refine ex_iconst (v := nI 2) dL_law_862 (by decide) ?_
      refine ex_iaddN dL_law_863 ?_
      refine ex_sldN rfl dL_law_864 h97 hL3 (by omega) (congrFun h96 _) ?_
      refine ex_cVL (ν := m_Model_node) (a := 56) (ci := 10) (as := [.int (xs (m + 1)), .int (xs (m + 2))]) dL_law_865 ln_Law_112 mf_Model_node rfl (Nat.le_of_ble_eq_true rfl) rfl rfl np_Model_node rfl rfl ⟨(Nat.le_of_ble_eq_true rfl), (Nat.le_of_ble_eq_true rfl), (Nat.le_of_ble_eq_true rfl), (Nat.le_of_ble_eq_true rfl)⟩ ?_
      refine sp_Model_node p2 p1 (fun z => absurd ⟨s, hs, hs2⟩ z) (fun _ _ _ _ i1 hf hc => ?_) (fun _ k _ _ hk hk2 => absurd ⟨k, hk, hk2⟩ hx)
      exact ⟨_, rfl, ⟨hf.1 4096 (by decide) (by decide), hf.1 4097 (by decide) (by decide)⟩, tail_node hc (by decide) (fun z => absurd z (by decide)) (nxt _ _ _ _ (hIV.fm (hf.mono (by decide) (by decide)) (fun c hc => rfl)))⟩
      skip
    · refine WQ.ok ⟨_, _, _, _, _, rfl, rfl, ⟨rfl, rfl⟩, ex_okk ?_⟩
      refine ex_istore (L' := [some (.ref (4096)), some (.ref (0)), some (.ref (56)), some (.ref (93)), some (.int (nI (m))), some (.int (nI (0))), none, none]) dL_law_850 (by decide) rfl ?_
      refine ex_aload_n (i := 2) dL_law_852 rfl rfl ?_
      refine ex_aload_n (i := 0) dL_law_853 rfl rfl ?_
      refine ex_iload dL_law_854 rfl ?_
      refine ex_iconst (v := nI 1) dL_law_856 (by decide) ?_
      refine ex_iaddN dL_law_857 ?_
      refine ex_sldN rfl dL_law_858 h97 hL3 (by omega) (congrFun h96 _) ?_
      refine ex_aload_n (i := 0) dL_law_859 rfl rfl ?_
      refine ex_iload dL_law_860 rfl ?_
      refine ex_iconst (v := nI 2) dL_law_862 (by decide) ?_
      refine ex_iaddN dL_law_863 ?_
      refine ex_sldN rfl dL_law_864 h97 hL3 (by omega) (congrFun h96 _) ?_
      refine ex_cVL (ν := m_Model_node) (a := 56) (ci := 10) (as := [.int (xs (m + 1)), .int (xs (m + 2))]) dL_law_865 ln_Law_112 mf_Model_node rfl (Nat.le_of_ble_eq_true rfl) rfl rfl np_Model_node rfl rfl ⟨(Nat.le_of_ble_eq_true rfl), (Nat.le_of_ble_eq_true rfl), (Nat.le_of_ble_eq_true rfl), (Nat.le_of_ble_eq_true rfl)⟩ ?_
      refine sp_Model_node p2 p1 (fun z => absurd ⟨s, hs, hs2⟩ z) (fun _ _ _ z => absurd ⟨k, hk, hk2⟩ z) (fun s9 k9 hs9 hs92 hk9 hk92 i1 hf hc => ?_)
      have e1 : s9 = s := by rw [hs] at hs9; exact ((nI_eq (by omega) (by omega)).mp hs9).symm
      have e2 : k9 = k := by rw [hk] at hk9; exact ((nI_eq (by omega) (by omega)).mp hk9).symm
      subst e1 e2
      exact ⟨_, rfl, ⟨hf.1 4096 (by decide) (by decide), hf.1 4097 (by decide) (by decide)⟩, tail_node hc (by decide) (fun _ => by rw [qU_at, p4 _ _ hs2 hk2]) (nxt _ _ _ _ (hIV.fm (hf.mono (by decide) (by decide)) (fun c hc => qU_ne hc)))⟩
      skip
theorem op_attribute {xs : Nat → Int32} {L m g : Nat} {i : Nat → Nat → Int32} {q : Nat → Nat → Int64} {t : Bool} {K : Nat × Nat} {Q : xRes → xMem → Prop} (hIV : IV xs L i q t) (hL3 : L ≤ 3072) (hm : m + 6 ≤ L) (nxt : ∀ g' i' q' t', IV xs L i' q' t' → Wx m_Law_law 1037 [some (.ref 4096), some (.ref 0), some (.ref 56), some (.ref 93), some (.int (nI m)), none, none, none] [] (94, g', i', q', RT t') K Q) : Wx m_Law_law 901 [some (.ref 4096), some (.ref 0), some (.ref 56), some (.ref 93), some (.int (nI m)), none, none, none] [] (94, g, i, q, RT t) (K.1 + 1, K.2 + 6) Q := by
  obtain ⟨n, sy, f, lv, kd, op, xp, yp, b, nt, md, iG, iL, iE, iB9, iT, iP, iM⟩ := id hIV
  have h96 := iM.2.2.2.1
  have h97 := iM.2.2.2.2
  refine ex_aload_n (i := 1) dL_law_901 rfl rfl ?_
  refine ex_aload_n (i := 0) dL_law_902 rfl rfl ?_
  refine ex_iload dL_law_903 rfl ?_
  refine ex_iconst (v := nI 1) dL_law_905 (by decide) ?_
  refine ex_iaddN dL_law_906 ?_
  refine ex_sldN rfl dL_law_907 h97 hL3 (by omega) (congrFun h96 _) ?_
  refine ex_aload_n (i := 0) dL_law_908 rfl rfl ?_
  refine ex_iload dL_law_909 rfl ?_
  refine ex_iconst (v := nI 2) dL_law_911 (by decide) ?_
  refine ex_iaddN dL_law_912 ?_
  refine ex_sldN rfl dL_law_913 h97 hL3 (by omega) (congrFun h96 _) ?_
  refine ex_aload_n (i := 3) dL_law_914 rfl rfl ?_
  refine ex_cHL (P := fun k x g' i' q' t' => Wx m_Law_law 918 [some (.ref 4096), some (.ref 0), some (.ref 56), some (.ref 93), some (.int (nI m)), none, none, none] [.int (nI k)] (94, g', i', (if k = 0 then xUL q' 93 0 x else q'), RT t') K Q) (ν := m_Law_attribute) (as := [.ref (0), .int (xs (m + 1)), .int (xs (m + 2)), .ref (93)]) (K := K) dL_law_915 lnH_attribute mfH_attribute npH_attribute rfl rfl ⟨(Nat.le_of_ble_eq_true rfl), (Nat.le_of_ble_eq_true rfl), (Nat.le_of_ble_eq_true rfl), (Nat.le_of_ble_eq_true rfl)⟩ ?_ (fun k x g' i' q' t' _ _ h => h)
  refine sp_Law_attribute ?_
  obtain ⟨p1, p2, p3, p4, p5⟩ := iP
  cases t with
  | false =>
    have p3 : i 46 2 = nI md := p3
    have p5 : ∀ s, s < 3 * md → q 50 s = q 91 s := p5
    refine sp_Works_attribute_46 p3 p1 (fun hx => ?_) (fun s hs hs2 hx => ?_) (fun s k hs hs2 hk hk2 => ?_)
    · refine WQ.er ⟨_, _, _, _, rfl, by decide, ⟨rfl, rfl⟩, ex_thr (k' := 1) (by decide) (by decide) ?_⟩
      refine ex_istore (L' := [some (.ref (4096)), some (.ref (0)), some (.ref (56)), some (.ref (93)), some (.int (nI (m))), some (.int (nI (1))), none, none]) dL_law_918 (by decide) rfl ?_
      refine ex_aload_n (i := 2) dL_law_920 rfl rfl ?_
      refine ex_aload_n (i := 0) dL_law_921 rfl rfl ?_
      refine ex_iload dL_law_922 rfl ?_
      refine ex_iconst (v := nI 1) dL_law_924 (by decide) ?_
      refine ex_iaddN dL_law_925 ?_
      refine ex_sldN rfl dL_law_926 h97 hL3 (by omega) (congrFun h96 _) ?_
      refine ex_aload_n (i := 0) dL_law_927 rfl rfl ?_
      refine ex_iload dL_law_928 rfl ?_
      refine ex_iconst (v := nI 2) dL_law_930 (by decide) ?_
      refine ex_iaddN dL_law_931 ?_
      refine ex_sldN rfl dL_law_932 h97 hL3 (by omega) (congrFun h96 _) ?_
      refine ex_cVL (ν := m_Model_attribute) (a := 56) (ci := 10) (as := [.int (xs (m + 1)), .int (xs (m + 2))]) dL_law_933 ln_Law_115 mf_Model_attribute rfl (Nat.le_of_ble_eq_true rfl) rfl rfl np_Model_attribute rfl rfl ⟨(Nat.le_of_ble_eq_true rfl), (Nat.le_of_ble_eq_true rfl), (Nat.le_of_ble_eq_true rfl), (Nat.le_of_ble_eq_true rfl)⟩ ?_
      refine sp_Model_attribute p2 p1 (fun _ i1 hf hc => ?_) (fun s hs hs2 => absurd ⟨s, hs, hs2⟩ hx) (fun s _ hs hs2 => absurd ⟨s, hs, hs2⟩ hx)
      exact ⟨_, rfl, ⟨hf.1 4096 (by decide) (by decide), hf.1 4097 (by decide) (by decide)⟩, tail_attribute hc (by decide) (fun z => absurd z (by decide)) (nxt _ _ _ _ (hIV.fm (hf.mono (by decide) (by decide)) (fun c hc => rfl)))⟩
      skip
    · refine WQ.er ⟨_, _, _, _, rfl, by decide, ⟨rfl, rfl⟩, ex_thr (k' := 2) (by decide) (by decide) ?_⟩
      refine ex_istore (L' := [some (.ref (4096)), some (.ref (0)), some (.ref (56)), some (.ref (93)), some (.int (nI (m))), some (.int (nI (2))), none, none]) dL_law_918 (by decide) rfl ?_
      refine ex_aload_n (i := 2) dL_law_920 rfl rfl ?_
      refine ex_aload_n (i := 0) dL_law_921 rfl rfl ?_
      refine ex_iload dL_law_922 rfl ?_
      refine ex_iconst (v := nI 1) dL_law_924 (by decide) ?_
      refine ex_iaddN dL_law_925 ?_
      refine ex_sldN rfl dL_law_926 h97 hL3 (by omega) (congrFun h96 _) ?_
      refine ex_aload_n (i := 0) dL_law_927 rfl rfl ?_
      refine ex_iload dL_law_928 rfl ?_
      refine ex_iconst (v := nI 2) dL_law_930 (by decide) ?_
      refine ex_iaddN dL_law_931 ?_
      refine ex_sldN rfl dL_law_932 h97 hL3 (by omega) (congrFun h96 _) ?_
      refine ex_cVL (ν := m_Model_attribute) (a := 56) (ci := 10) (as := [.int (xs (m + 1)), .int (xs (m + 2))]) dL_law_933 ln_Law_115 mf_Model_attribute rfl (Nat.le_of_ble_eq_true rfl) rfl rfl np_Model_attribute rfl rfl ⟨(Nat.le_of_ble_eq_true rfl), (Nat.le_of_ble_eq_true rfl), (Nat.le_of_ble_eq_true rfl), (Nat.le_of_ble_eq_true rfl)⟩ ?_
      refine sp_Model_attribute p2 p1 (fun z => absurd ⟨s, hs, hs2⟩ z) (fun _ _ _ _ i1 hf hc => ?_) (fun _ k _ _ hk hk2 => absurd ⟨k, hk, hk2⟩ hx)
      exact ⟨_, rfl, ⟨hf.1 4096 (by decide) (by decide), hf.1 4097 (by decide) (by decide)⟩, tail_attribute hc (by decide) (fun z => absurd z (by decide)) (nxt _ _ _ _ (hIV.fm (hf.mono (by decide) (by decide)) (fun c hc => rfl)))⟩
      skip
    · refine WQ.ok ⟨_, _, _, _, _, rfl, rfl, ⟨rfl, rfl⟩, ex_okk ?_⟩
      refine ex_istore (L' := [some (.ref (4096)), some (.ref (0)), some (.ref (56)), some (.ref (93)), some (.int (nI (m))), some (.int (nI (0))), none, none]) dL_law_918 (by decide) rfl ?_
      refine ex_aload_n (i := 2) dL_law_920 rfl rfl ?_
      refine ex_aload_n (i := 0) dL_law_921 rfl rfl ?_
      refine ex_iload dL_law_922 rfl ?_
      refine ex_iconst (v := nI 1) dL_law_924 (by decide) ?_
      refine ex_iaddN dL_law_925 ?_
      refine ex_sldN rfl dL_law_926 h97 hL3 (by omega) (congrFun h96 _) ?_
      refine ex_aload_n (i := 0) dL_law_927 rfl rfl ?_
      refine ex_iload dL_law_928 rfl ?_
      refine ex_iconst (v := nI 2) dL_law_930 (by decide) ?_
      refine ex_iaddN dL_law_931 ?_
      refine ex_sldN rfl dL_law_932 h97 hL3 (by omega) (congrFun h96 _) ?_
      refine ex_cVL (ν := m_Model_attribute) (a := 56) (ci := 10) (as := [.int (xs (m + 1)), .int (xs (m + 2))]) dL_law_933 ln_Law_115 mf_Model_attribute rfl (Nat.le_of_ble_eq_true rfl) rfl rfl np_Model_attribute rfl rfl ⟨(Nat.le_of_ble_eq_true rfl), (Nat.le_of_ble_eq_true rfl), (Nat.le_of_ble_eq_true rfl), (Nat.le_of_ble_eq_true rfl)⟩ ?_
      refine sp_Model_attribute p2 p1 (fun z => absurd ⟨s, hs, hs2⟩ z) (fun _ _ _ z => absurd ⟨k, hk, hk2⟩ z) (fun s9 k9 hs9 hs92 hk9 hk92 i1 hf hc => ?_)
      have e1 : s9 = s := by rw [hs] at hs9; exact ((nI_eq (by omega) (by omega)).mp hs9).symm
      have e2 : k9 = k := by rw [hk] at hk9; exact ((nI_eq (by omega) (by omega)).mp hk9).symm
      subst e1 e2
      exact ⟨_, rfl, ⟨hf.1 4096 (by decide) (by decide), hf.1 4097 (by decide) (by decide)⟩, tail_attribute hc (by decide) (fun _ => by rw [qU_ne (show 91 ≠ 93 by decide), qU_at, p5 _ (by omega), show 3 * s9 + k9 = s9 * 3 + k9 by omega]) (nxt _ _ _ _ (hIV.fm (hf.mono (by decide) (by decide)) (fun c hc => qU_ne hc)))⟩
      skip
  | true =>
    have p3 : i 51 2 = nI md := p3
    have p5 : ∀ s, s < 3 * md → q 55 s = q 91 s := p5
    refine sp_Works_attribute_51 p3 p1 (fun hx => ?_) (fun s hs hs2 hx => ?_) (fun s k hs hs2 hk hk2 => ?_)
    · refine WQ.er ⟨_, _, _, _, rfl, by decide, ⟨rfl, rfl⟩, ex_thr (k' := 1) (by decide) (by decide) ?_⟩
      refine ex_istore (L' := [some (.ref (4096)), some (.ref (0)), some (.ref (56)), some (.ref (93)), some (.int (nI (m))), some (.int (nI (1))), none, none]) dL_law_918 (by decide) rfl ?_
      refine ex_aload_n (i := 2) dL_law_920 rfl rfl ?_
      refine ex_aload_n (i := 0) dL_law_921 rfl rfl ?_
      refine ex_iload dL_law_922 rfl ?_
      refine ex_iconst (v := nI 1) dL_law_924 (by decide) ?_
      refine ex_iaddN dL_law_925 ?_
      refine ex_sldN rfl dL_law_926 h97 hL3 (by omega) (congrFun h96 _) ?_
      refine ex_aload_n (i := 0) dL_law_927 rfl rfl ?_
      refine ex_iload dL_law_928 rfl ?_
      refine ex_iconst (v := nI 2) dL_law_930 (by decide) ?_
      refine ex_iaddN dL_law_931 ?_
      refine ex_sldN rfl dL_law_932 h97 hL3 (by omega) (congrFun h96 _) ?_
      refine ex_cVL (ν := m_Model_attribute) (a := 56) (ci := 10) (as := [.int (xs (m + 1)), .int (xs (m + 2))]) dL_law_933 ln_Law_115 mf_Model_attribute rfl (Nat.le_of_ble_eq_true rfl) rfl rfl np_Model_attribute rfl rfl ⟨(Nat.le_of_ble_eq_true rfl), (Nat.le_of_ble_eq_true rfl), (Nat.le_of_ble_eq_true rfl), (Nat.le_of_ble_eq_true rfl)⟩ ?_
      refine sp_Model_attribute p2 p1 (fun _ i1 hf hc => ?_) (fun s hs hs2 => absurd ⟨s, hs, hs2⟩ hx) (fun s _ hs hs2 => absurd ⟨s, hs, hs2⟩ hx)
      exact ⟨_, rfl, ⟨hf.1 4096 (by decide) (by decide), hf.1 4097 (by decide) (by decide)⟩, tail_attribute hc (by decide) (fun z => absurd z (by decide)) (nxt _ _ _ _ (hIV.fm (hf.mono (by decide) (by decide)) (fun c hc => rfl)))⟩
      skip
    · refine WQ.er ⟨_, _, _, _, rfl, by decide, ⟨rfl, rfl⟩, ex_thr (k' := 2) (by decide) (by decide) ?_⟩
      refine ex_istore (L' := [some (.ref (4096)), some (.ref (0)), some (.ref (56)), some (.ref (93)), some (.int (nI (m))), some (.int (nI (2))), none, none]) dL_law_918 (by decide) rfl ?_
      refine ex_aload_n (i := 2) dL_law_920 rfl rfl ?_
      refine ex_aload_n (i := 0) dL_law_921 rfl rfl ?_
      refine ex_iload dL_law_922 rfl ?_
      refine ex_iconst (v := nI 1) dL_law_924 (by decide) ?_
      refine ex_iaddN dL_law_925 ?_
      refine ex_sldN rfl dL_law_926 h97 hL3 (by omega) (congrFun h96 _) ?_
      refine ex_aload_n (i := 0) dL_law_927 rfl rfl ?_
      refine ex_iload dL_law_928 rfl ?_
      refine ex_iconst (v := nI 2) dL_law_930 (by decide) ?_
      refine ex_iaddN dL_law_931 ?_
      refine ex_sldN rfl dL_law_932 h97 hL3 (by omega) (congrFun h96 _) ?_
      refine ex_cVL (ν := m_Model_attribute) (a := 56) (ci := 10) (as := [.int (xs (m + 1)), .int (xs (m + 2))]) dL_law_933 ln_Law_115 mf_Model_attribute rfl (Nat.le_of_ble_eq_true rfl) rfl rfl np_Model_attribute rfl rfl ⟨(Nat.le_of_ble_eq_true rfl), (Nat.le_of_ble_eq_true rfl), (Nat.le_of_ble_eq_true rfl), (Nat.le_of_ble_eq_true rfl)⟩ ?_
      refine sp_Model_attribute p2 p1 (fun z => absurd ⟨s, hs, hs2⟩ z) (fun _ _ _ _ i1 hf hc => ?_) (fun _ k _ _ hk hk2 => absurd ⟨k, hk, hk2⟩ hx)
      exact ⟨_, rfl, ⟨hf.1 4096 (by decide) (by decide), hf.1 4097 (by decide) (by decide)⟩, tail_attribute hc (by decide) (fun z => absurd z (by decide)) (nxt _ _ _ _ (hIV.fm (hf.mono (by decide) (by decide)) (fun c hc => rfl)))⟩
      skip
    · refine WQ.ok ⟨_, _, _, _, _, rfl, rfl, ⟨rfl, rfl⟩, ex_okk ?_⟩
      refine ex_istore (L' := [some (.ref (4096)), some (.ref (0)), some (.ref (56)), some (.ref (93)), some (.int (nI (m))), some (.int (nI (0))), none, none]) dL_law_918 (by decide) rfl ?_
      refine ex_aload_n (i := 2) dL_law_920 rfl rfl ?_
      refine ex_aload_n (i := 0) dL_law_921 rfl rfl ?_
      refine ex_iload dL_law_922 rfl ?_
      refine ex_iconst (v := nI 1) dL_law_924 (by decide) ?_
      refine ex_iaddN dL_law_925 ?_
      refine ex_sldN rfl dL_law_926 h97 hL3 (by omega) (congrFun h96 _) ?_
      refine ex_aload_n (i := 0) dL_law_927 rfl rfl ?_
      refine ex_iload dL_law_928 rfl ?_
      refine ex_iconst (v := nI 2) dL_law_930 (by decide) ?_
      refine ex_iaddN dL_law_931 ?_
      refine ex_sldN rfl dL_law_932 h97 hL3 (by omega) (congrFun h96 _) ?_
      refine ex_cVL (ν := m_Model_attribute) (a := 56) (ci := 10) (as := [.int (xs (m + 1)), .int (xs (m + 2))]) dL_law_933 ln_Law_115 mf_Model_attribute rfl (Nat.le_of_ble_eq_true rfl) rfl rfl np_Model_attribute rfl rfl ⟨(Nat.le_of_ble_eq_true rfl), (Nat.le_of_ble_eq_true rfl), (Nat.le_of_ble_eq_true rfl), (Nat.le_of_ble_eq_true rfl)⟩ ?_
      refine sp_Model_attribute p2 p1 (fun z => absurd ⟨s, hs, hs2⟩ z) (fun _ _ _ z => absurd ⟨k, hk, hk2⟩ z) (fun s9 k9 hs9 hs92 hk9 hk92 i1 hf hc => ?_)
      have e1 : s9 = s := by rw [hs] at hs9; exact ((nI_eq (by omega) (by omega)).mp hs9).symm
      have e2 : k9 = k := by rw [hk] at hk9; exact ((nI_eq (by omega) (by omega)).mp hk9).symm
      subst e1 e2
      exact ⟨_, rfl, ⟨hf.1 4096 (by decide) (by decide), hf.1 4097 (by decide) (by decide)⟩, tail_attribute hc (by decide) (fun _ => by rw [qU_ne (show 91 ≠ 93 by decide), qU_at, p5 _ (by omega), show 3 * s9 + k9 = s9 * 3 + k9 by omega]) (nxt _ _ _ _ (hIV.fm (hf.mono (by decide) (by decide)) (fun c hc => qU_ne hc)))⟩
      skip
theorem op_count {xs : Nat → Int32} {L m g : Nat} {i : Nat → Nat → Int32} {q : Nat → Nat → Int64} {t : Bool} {K : Nat × Nat} {Q : xRes → xMem → Prop} (hIV : IV xs L i q t) (hL3 : L ≤ 3072) (hm : m + 6 ≤ L) (nxt : ∀ g' i' q' t', IV xs L i' q' t' → Wx m_Law_law 1037 [some (.ref 4096), some (.ref 0), some (.ref 56), some (.ref 93), some (.int (nI m)), none, none, none] [] (94, g', i', q', RT t') K Q) : Wx m_Law_law 981 [some (.ref 4096), some (.ref 0), some (.ref 56), some (.ref 93), some (.int (nI m)), none, none, none] [] (94, g, i, q, RT t) (K.1 + 1, K.2 + 6) Q := by
  obtain ⟨n, sy, f, lv, kd, op, xp, yp, b, nt, md, iG, iL, iE, iB9, iT, iP, iM⟩ := id hIV
  have h96 := iM.2.2.2.1
  have h97 := iM.2.2.2.2
  obtain ⟨⟨b1, b2, b3⟩, bD⟩ := iB9
  obtain ⟨fl, hf1, hf2, hS⟩ : ∃ fl, (b = 1 → i 27 3 = nI fl ∧ fl < 2) ∧ (b = 1 → i 56 10 = nI fl ∧ fl < 2) ∧ (b = 1 → i 16 6 = i 56 11 ∧ i 16 7 = i 56 12) := by
    by_cases e : b = 1
    · obtain ⟨S, T, pr, F, E, fl, tr, -, tb, fs, -⟩ := bD e
      obtain ⟨-, t2, -, -, -, -, -, -, -, -, -, t14, t15⟩ := tb
      exact ⟨fl, fun _ => ⟨fs.1, fs.2.2⟩, fun _ => ⟨fs.2.1, fs.2.2⟩, fun _ => ⟨t2.1.trans t2.2.symm, t14.trans t15.symm⟩⟩
    · exact ⟨0, fun z => absurd z e, fun z => absurd z e, fun z => absurd z e⟩
  refine ex_aload_n (i := 1) dL_law_981 rfl rfl ?_
  refine ex_aload_n (i := 0) dL_law_982 rfl rfl ?_
  refine ex_iload dL_law_983 rfl ?_
  refine ex_iconst (v := nI 1) dL_law_985 (by decide) ?_
  refine ex_iaddN dL_law_986 ?_
  refine ex_sldN rfl dL_law_987 h97 hL3 (by omega) (congrFun h96 _) ?_
  refine ex_aload_n (i := 3) dL_law_988 rfl rfl ?_
  refine ex_cHL (P := fun k x g' i' q' t' => Wx m_Law_law 992 [some (.ref 4096), some (.ref 0), some (.ref 56), some (.ref 93), some (.int (nI m)), none, none, none] [.int (nI k)] (94, g', i', (if k = 0 then xUL q' 93 0 x else q'), RT t') K Q) (ν := m_Law_count) (as := [.ref (0), .int (xs (m + 1)), .ref (93)]) (K := K) dL_law_989 lnH_count mfH_count npH_count rfl rfl ⟨(Nat.le_of_ble_eq_true rfl), (Nat.le_of_ble_eq_true rfl), (Nat.le_of_ble_eq_true rfl), (Nat.le_of_ble_eq_true rfl)⟩ ?_ (fun k x g' i' q' t' _ _ h => h)
  refine sp_Law_count ?_
  obtain ⟨p1, p2, p3, p4, p5⟩ := iP
  cases t with
  | false =>
    have p3 : i 46 2 = nI md := p3
    refine sp_Works_count_46 b1 b3 hf1 (fun hx => ?_) (fun k hk hk2 => ?_)
    · refine WQ.er ⟨_, _, _, _, rfl, by decide, ⟨rfl, rfl⟩, ex_thr (k' := 1) (by decide) (by decide) ?_⟩
      refine ex_istore (L' := [some (.ref (4096)), some (.ref (0)), some (.ref (56)), some (.ref (93)), some (.int (nI (m))), some (.int (nI (1))), none, none]) dL_law_992 (by decide) rfl ?_
      refine ex_aload_n (i := 2) dL_law_994 rfl rfl ?_
      refine ex_aload_n (i := 0) dL_law_995 rfl rfl ?_
      refine ex_iload dL_law_996 rfl ?_
      refine ex_iconst (v := nI 1) dL_law_998 (by decide) ?_
      refine ex_iaddN dL_law_999 ?_
      refine ex_sldN rfl dL_law_1000 h97 hL3 (by omega) (congrFun h96 _) ?_
      refine ex_cVL (ν := m_Model_count) (a := 56) (ci := 10) (as := [.int (xs (m + 1))]) dL_law_1001 ln_Law_122 mf_Model_count rfl (Nat.le_of_ble_eq_true rfl) rfl rfl np_Model_count rfl rfl ⟨(Nat.le_of_ble_eq_true rfl), (Nat.le_of_ble_eq_true rfl), (Nat.le_of_ble_eq_true rfl), (Nat.le_of_ble_eq_true rfl)⟩ ?_
      refine sp_Model_count iE.2.1 b2 b3 hf2 (fun _ i1 hf hc => ?_) (fun k hk hk2 => absurd ⟨k, hk, hk2⟩ hx)
      exact ⟨_, rfl, ⟨hf.1 4096 (by decide) (by decide), hf.1 4097 (by decide) (by decide)⟩, tail_count hc (by decide) (fun z => absurd z (by decide)) (nxt _ _ _ _ (hIV.fm (hf.mono (by decide) (by decide)) (fun c hc => rfl)))⟩
      skip
    · have hv : (if k = 0 then i 1 7 else if k = 1 then i 1 8 else if k = 2 then (if b = 1 then i 16 6 else nI 0) else if k = 3 then (if b = 1 then i 16 7 else nI 0) else if k = 4 then (if b = 1 then nI fl else nI 0) else if k = 5 then i 46 2 else i 32 6) = (if k = 0 then i 56 3 else if k = 1 then nI (ceF op 210) else if k = 2 then (if b = 1 then i 56 11 else nI 0) else if k = 3 then (if b = 1 then i 56 12 else nI 0) else if k = 4 then (if b = 1 then nI fl else nI 0) else if k = 5 then i 56 43 else i 56 27) := by
        rw [iG.1.1, iG.2.1.1, iE.2.2.2.2.2, p3, p2, iT.1, iT.2.1]
        by_cases e : b = 1
        · simp only [if_pos e, (hS e).1, (hS e).2]
        · simp only [if_neg e]
      refine WQ.ok ⟨_, _, _, _, _, rfl, rfl, ⟨rfl, rfl⟩, ex_okk ?_⟩
      refine ex_istore (L' := [some (.ref (4096)), some (.ref (0)), some (.ref (56)), some (.ref (93)), some (.int (nI (m))), some (.int (nI (0))), none, none]) dL_law_992 (by decide) rfl ?_
      refine ex_aload_n (i := 2) dL_law_994 rfl rfl ?_
      refine ex_aload_n (i := 0) dL_law_995 rfl rfl ?_
      refine ex_iload dL_law_996 rfl ?_
      refine ex_iconst (v := nI 1) dL_law_998 (by decide) ?_
      refine ex_iaddN dL_law_999 ?_
      refine ex_sldN rfl dL_law_1000 h97 hL3 (by omega) (congrFun h96 _) ?_
      refine ex_cVL (ν := m_Model_count) (a := 56) (ci := 10) (as := [.int (xs (m + 1))]) dL_law_1001 ln_Law_122 mf_Model_count rfl (Nat.le_of_ble_eq_true rfl) rfl rfl np_Model_count rfl rfl ⟨(Nat.le_of_ble_eq_true rfl), (Nat.le_of_ble_eq_true rfl), (Nat.le_of_ble_eq_true rfl), (Nat.le_of_ble_eq_true rfl)⟩ ?_
      refine sp_Model_count iE.2.1 b2 b3 hf2 (fun z => absurd ⟨k, hk, hk2⟩ z) (fun k9 hk9 hk92 i1 hf hc => ?_)
      have e2 : k9 = k := by rw [hk] at hk9; exact ((nI_eq (by omega) (by omega)).mp hk9).symm
      subst e2
      exact ⟨_, rfl, ⟨hf.1 4096 (by decide) (by decide), hf.1 4097 (by decide) (by decide)⟩, tail_count hc (by decide) (fun _ => by rw [qU_at, ← hv]) (nxt _ _ _ _ (hIV.fm (hf.mono (by decide) (by decide)) (fun c hc => qU_ne hc)))⟩
      skip
  | true =>
    have p3 : i 51 2 = nI md := p3
    refine sp_Works_count_51 b1 b3 hf1 (fun hx => ?_) (fun k hk hk2 => ?_)
    · refine WQ.er ⟨_, _, _, _, rfl, by decide, ⟨rfl, rfl⟩, ex_thr (k' := 1) (by decide) (by decide) ?_⟩
      refine ex_istore (L' := [some (.ref (4096)), some (.ref (0)), some (.ref (56)), some (.ref (93)), some (.int (nI (m))), some (.int (nI (1))), none, none]) dL_law_992 (by decide) rfl ?_
      refine ex_aload_n (i := 2) dL_law_994 rfl rfl ?_
      refine ex_aload_n (i := 0) dL_law_995 rfl rfl ?_
      refine ex_iload dL_law_996 rfl ?_
      refine ex_iconst (v := nI 1) dL_law_998 (by decide) ?_
      refine ex_iaddN dL_law_999 ?_
      refine ex_sldN rfl dL_law_1000 h97 hL3 (by omega) (congrFun h96 _) ?_
      refine ex_cVL (ν := m_Model_count) (a := 56) (ci := 10) (as := [.int (xs (m + 1))]) dL_law_1001 ln_Law_122 mf_Model_count rfl (Nat.le_of_ble_eq_true rfl) rfl rfl np_Model_count rfl rfl ⟨(Nat.le_of_ble_eq_true rfl), (Nat.le_of_ble_eq_true rfl), (Nat.le_of_ble_eq_true rfl), (Nat.le_of_ble_eq_true rfl)⟩ ?_
      refine sp_Model_count iE.2.1 b2 b3 hf2 (fun _ i1 hf hc => ?_) (fun k hk hk2 => absurd ⟨k, hk, hk2⟩ hx)
      exact ⟨_, rfl, ⟨hf.1 4096 (by decide) (by decide), hf.1 4097 (by decide) (by decide)⟩, tail_count hc (by decide) (fun z => absurd z (by decide)) (nxt _ _ _ _ (hIV.fm (hf.mono (by decide) (by decide)) (fun c hc => rfl)))⟩
      skip
    · have hv : (if k = 0 then i 1 7 else if k = 1 then i 1 8 else if k = 2 then (if b = 1 then i 16 6 else nI 0) else if k = 3 then (if b = 1 then i 16 7 else nI 0) else if k = 4 then (if b = 1 then nI fl else nI 0) else if k = 5 then i 51 2 else i 32 6) = (if k = 0 then i 56 3 else if k = 1 then nI (ceF op 210) else if k = 2 then (if b = 1 then i 56 11 else nI 0) else if k = 3 then (if b = 1 then i 56 12 else nI 0) else if k = 4 then (if b = 1 then nI fl else nI 0) else if k = 5 then i 56 43 else i 56 27) := by
        rw [iG.1.1, iG.2.1.1, iE.2.2.2.2.2, p3, p2, iT.1, iT.2.1]
        by_cases e : b = 1
        · simp only [if_pos e, (hS e).1, (hS e).2]
        · simp only [if_neg e]
      refine WQ.ok ⟨_, _, _, _, _, rfl, rfl, ⟨rfl, rfl⟩, ex_okk ?_⟩
      refine ex_istore (L' := [some (.ref (4096)), some (.ref (0)), some (.ref (56)), some (.ref (93)), some (.int (nI (m))), some (.int (nI (0))), none, none]) dL_law_992 (by decide) rfl ?_
      refine ex_aload_n (i := 2) dL_law_994 rfl rfl ?_
      refine ex_aload_n (i := 0) dL_law_995 rfl rfl ?_
      refine ex_iload dL_law_996 rfl ?_
      refine ex_iconst (v := nI 1) dL_law_998 (by decide) ?_
      refine ex_iaddN dL_law_999 ?_
      refine ex_sldN rfl dL_law_1000 h97 hL3 (by omega) (congrFun h96 _) ?_
      refine ex_cVL (ν := m_Model_count) (a := 56) (ci := 10) (as := [.int (xs (m + 1))]) dL_law_1001 ln_Law_122 mf_Model_count rfl (Nat.le_of_ble_eq_true rfl) rfl rfl np_Model_count rfl rfl ⟨(Nat.le_of_ble_eq_true rfl), (Nat.le_of_ble_eq_true rfl), (Nat.le_of_ble_eq_true rfl), (Nat.le_of_ble_eq_true rfl)⟩ ?_
      refine sp_Model_count iE.2.1 b2 b3 hf2 (fun z => absurd ⟨k, hk, hk2⟩ z) (fun k9 hk9 hk92 i1 hf hc => ?_)
      have e2 : k9 = k := by rw [hk] at hk9; exact ((nI_eq (by omega) (by omega)).mp hk9).symm
      subst e2
      exact ⟨_, rfl, ⟨hf.1 4096 (by decide) (by decide), hf.1 4097 (by decide) (by decide)⟩, tail_count hc (by decide) (fun _ => by rw [qU_at, ← hv]) (nxt _ _ _ _ (hIV.fm (hf.mono (by decide) (by decide)) (fun c hc => qU_ne hc)))⟩
      skip
theorem op_fault {xs : Nat → Int32} {L m g : Nat} {i : Nat → Nat → Int32} {q : Nat → Nat → Int64} {t : Bool} {K : Nat × Nat} {Q : xRes → xMem → Prop} (hIV : IV xs L i q t) (hL3 : L ≤ 3072) (hm : m + 6 ≤ L) (nxt : ∀ g' i' q' t', IV xs L i' q' t' → Wx m_Law_law 1037 [some (.ref 4096), some (.ref 0), some (.ref 56), some (.ref 93), some (.int (nI m)), none, none, none] [] (94, g', i', q', RT t') K Q) : Wx m_Law_law 820 [some (.ref 4096), some (.ref 0), some (.ref 56), some (.ref 93), some (.int (nI m)), none, none, none] [] (94, g, i, q, RT t) K Q := by
  obtain ⟨n, sy, f, lv, kd, op, xp, yp, b, nt, md, iG, iL, iE, iB9, iT, iP, iM⟩ := id hIV
  have X := nxt g (xU i 56 45 (nI 0)) q t (hIV.fm (Fm.rf.F (by decide)) (fun c hc => rfl))
  refine ex_aload_n (i := 1) dL_law_820 rfl rfl ?_
  refine ex_cVL (ν := m_Works_fault) (a := 0) (ci := 9) (as := []) dL_law_821 ln_Law_106 mf_Works_fault rfl (Nat.le_of_ble_eq_true rfl) rfl rfl np_Works_fault rfl rfl ⟨(Nat.le_of_ble_eq_true rfl), (Nat.le_of_ble_eq_true rfl), (Nat.le_of_ble_eq_true rfl), (Nat.le_of_ble_eq_true rfl)⟩ ?_
  refine sp_Works_fault ?_
  refine ⟨_, rfl, ⟨rfl, rfl⟩, ?_⟩
  refine ex_aload_n (i := 2) dL_law_824 rfl rfl ?_
  refine ex_cVL (ν := m_Model_fault) (a := 56) (ci := 10) (as := []) dL_law_825 ln_Law_109 mf_Model_fault rfl (Nat.le_of_ble_eq_true rfl) rfl rfl np_Model_fault rfl rfl ⟨(Nat.le_of_ble_eq_true rfl), (Nat.le_of_ble_eq_true rfl), (Nat.le_of_ble_eq_true rfl), (Nat.le_of_ble_eq_true rfl)⟩ ?_
  refine sp_Model_fault ?_
  refine ⟨_, rfl, ⟨rfl, rfl⟩, ?_⟩
  refine ex_icmp_eq (tgt := 1037) dL_law_828 (by decide) (fun h828 => ?_) (fun h828 => by exact absurd (by rw [iM.2.2.1]; simp [xU, upd]) h828)
  exact X
theorem op_level {xs : Nat → Int32} {L m g : Nat} {i : Nat → Nat → Int32} {q : Nat → Nat → Int64} {t : Bool} {K : Nat × Nat} {Q : xRes → xMem → Prop} (hIV : IV xs L i q t) (hL3 : L ≤ 3072) (hm : m + 6 ≤ L) (nxt : ∀ g' i' q' t', IV xs L i' q' t' → Wx m_Law_law 1037 [some (.ref 4096), some (.ref 0), some (.ref 56), some (.ref 93), some (.int (nI m)), none, none, none] [] (94, g', i', q', RT t') K Q) : Wx m_Law_law 220 [some (.ref 4096), some (.ref 0), some (.ref 56), some (.ref 93), some (.int (nI m)), none, none, none] [] (94, g, i, q, RT t) (K.1 + 1, K.2 + 6) Q := by
  obtain ⟨n, sy, f, lv, kd, op, xp, yp, b, nt, md, iG, iL, iE, iB9, iT, iP, iM⟩ := id hIV
  have h96 := iM.2.2.2.1
  have h97 := iM.2.2.2.2
  refine ex_aload_n (i := 1) dL_law_220 rfl rfl ?_
  refine ex_aload_n (i := 0) dL_law_221 rfl rfl ?_
  refine ex_iload dL_law_222 rfl ?_
  refine ex_iconst (v := nI 1) dL_law_224 (by decide) ?_
  refine ex_iaddN dL_law_225 ?_
  refine ex_sldN rfl dL_law_226 h97 hL3 (by omega) (congrFun h96 _) ?_
  refine ex_aload_n (i := 0) dL_law_227 rfl rfl ?_
  refine ex_iload dL_law_228 rfl ?_
  refine ex_iconst (v := nI 2) dL_law_230 (by decide) ?_
  refine ex_iaddN dL_law_231 ?_
  refine ex_sldN rfl dL_law_232 h97 hL3 (by omega) (congrFun h96 _) ?_
  refine ex_aload_n (i := 0) dL_law_233 rfl rfl ?_
  refine ex_iload dL_law_234 rfl ?_
  refine ex_iconst (v := nI 3) dL_law_236 (by decide) ?_
  refine ex_iaddN dL_law_237 ?_
  refine ex_sldN rfl dL_law_238 h97 hL3 (by omega) (congrFun h96 _) ?_
  refine ex_aload_n (i := 3) dL_law_239 rfl rfl ?_
  refine ex_cHL (P := fun k x g' i' q' t' => Wx m_Law_law 243 [some (.ref 4096), some (.ref 0), some (.ref 56), some (.ref 93), some (.int (nI m)), none, none, none] [.int (nI k)] (94, g', i', (if k = 0 then xUL q' 93 0 x else q'), RT t') K Q) (ν := m_Law_level) (as := [.ref (0), .int (xs (m + 1)), .int (xs (m + 2)), .int (xs (m + 3)), .ref (93)]) (K := K) dL_law_240 lnH_level mfH_level npH_level rfl rfl ⟨(Nat.le_of_ble_eq_true rfl), (Nat.le_of_ble_eq_true rfl), (Nat.le_of_ble_eq_true rfl), (Nat.le_of_ble_eq_true rfl)⟩ ?_ (fun k x g' i' q' t' _ _ h => h)
  refine sp_Law_level ?_
  refine sp_Works_level (fun hx => ?_) (fun s hs s1 s6 y1 y2 z1 z2 => ?_)
  · refine WQ.er ⟨_, _, _, _, rfl, by decide, ⟨rfl, rfl⟩, ex_thr (k' := 1) (by decide) (by decide) ?_⟩
    refine ex_istore (L' := [some (.ref (4096)), some (.ref (0)), some (.ref (56)), some (.ref (93)), some (.int (nI (m))), some (.int (nI (1))), none, none]) dL_law_243 (by decide) rfl ?_
    refine ex_aload_n (i := 2) dL_law_245 rfl rfl ?_
    refine ex_aload_n (i := 0) dL_law_246 rfl rfl ?_
    refine ex_iload dL_law_247 rfl ?_
    refine ex_iconst (v := nI 1) dL_law_249 (by decide) ?_
    refine ex_iaddN dL_law_250 ?_
    refine ex_sldN rfl dL_law_251 h97 hL3 (by omega) (congrFun h96 _) ?_
    refine ex_aload_n (i := 0) dL_law_252 rfl rfl ?_
    refine ex_iload dL_law_253 rfl ?_
    refine ex_iconst (v := nI 2) dL_law_255 (by decide) ?_
    refine ex_iaddN dL_law_256 ?_
    refine ex_sldN rfl dL_law_257 h97 hL3 (by omega) (congrFun h96 _) ?_
    refine ex_aload_n (i := 0) dL_law_258 rfl rfl ?_
    refine ex_iload dL_law_259 rfl ?_
    refine ex_iconst (v := nI 3) dL_law_261 (by decide) ?_
    refine ex_iaddN dL_law_262 ?_
    refine ex_sldN rfl dL_law_263 h97 hL3 (by omega) (congrFun h96 _) ?_
    refine ex_cVL (ν := m_Model_level) (a := 56) (ci := 10) (as := [.int (xs (m + 1)), .int (xs (m + 2)), .int (xs (m + 3))]) dL_law_264 ln_Law_78 mf_Model_level rfl (Nat.le_of_ble_eq_true rfl) rfl rfl np_Model_level rfl rfl ⟨(Nat.le_of_ble_eq_true rfl), (Nat.le_of_ble_eq_true rfl), (Nat.le_of_ble_eq_true rfl), (Nat.le_of_ble_eq_true rfl)⟩ ?_
    refine sp_Model_level (fun _ i1 hf hc => ?_) (fun s hs s1 s6 y1 y2 z1 z2 => absurd hx (by rintro (z | z | z | z | z); exact tmX_no ⟨s1, s6⟩ (by rw [← hs]; exact z); exact y1 z; exact y2 z; exact z1 z; exact z2 z))
    exact ⟨_, rfl, ⟨hf.1 4096 (by decide) (by decide), hf.1 4097 (by decide) (by decide)⟩, tail_level hc (by decide) (fun z => absurd z (by decide)) (nxt _ _ _ _ (hIV.fm (hf.mono (by decide) (by decide)) (fun c hc => rfl)))⟩
    skip
  · obtain ⟨y', hy, ey⟩ := nI_of y1
    obtain ⟨z', hz, ez⟩ := nI_of z1
    have hy9 : y' ≤ 9 := by
      rw [ey, Int32.lt_iff_toInt_lt, nI_toInt (by omega), nI_toInt (by omega)] at y2; omega
    have hz2 : z' ≤ 2 := by
      rw [ez, Int32.lt_iff_toInt_lt, nI_toInt (by omega), nI_toInt (by omega)] at z2; omega
    have r : Fr [0, 5, 7] i (xU (xU (xU i 0 7 (nI 0)) 5 s (xs (m + 2))) 7 s (xs (m + 3))) := ((Fr.rf.U (by decide)).U (by decide)).U (by decide)
    refine WQ.ok ⟨_, _, _, _, _, rfl, rfl, ⟨rfl, rfl⟩, ex_okk ?_⟩
    refine ex_istore (L' := [some (.ref (4096)), some (.ref (0)), some (.ref (56)), some (.ref (93)), some (.int (nI (m))), some (.int (nI (0))), none, none]) dL_law_243 (by decide) rfl ?_
    refine ex_aload_n (i := 2) dL_law_245 rfl rfl ?_
    refine ex_aload_n (i := 0) dL_law_246 rfl rfl ?_
    refine ex_iload dL_law_247 rfl ?_
    refine ex_iconst (v := nI 1) dL_law_249 (by decide) ?_
    refine ex_iaddN dL_law_250 ?_
    refine ex_sldN rfl dL_law_251 h97 hL3 (by omega) (congrFun h96 _) ?_
    refine ex_aload_n (i := 0) dL_law_252 rfl rfl ?_
    refine ex_iload dL_law_253 rfl ?_
    refine ex_iconst (v := nI 2) dL_law_255 (by decide) ?_
    refine ex_iaddN dL_law_256 ?_
    refine ex_sldN rfl dL_law_257 h97 hL3 (by omega) (congrFun h96 _) ?_
    refine ex_aload_n (i := 0) dL_law_258 rfl rfl ?_
    refine ex_iload dL_law_259 rfl ?_
    refine ex_iconst (v := nI 3) dL_law_261 (by decide) ?_
    refine ex_iaddN dL_law_262 ?_
    refine ex_sldN rfl dL_law_263 h97 hL3 (by omega) (congrFun h96 _) ?_
    refine ex_cVL (ν := m_Model_level) (a := 56) (ci := 10) (as := [.int (xs (m + 1)), .int (xs (m + 2)), .int (xs (m + 3))]) dL_law_264 ln_Law_78 mf_Model_level rfl (Nat.le_of_ble_eq_true rfl) rfl rfl np_Model_level rfl rfl ⟨(Nat.le_of_ble_eq_true rfl), (Nat.le_of_ble_eq_true rfl), (Nat.le_of_ble_eq_true rfl), (Nat.le_of_ble_eq_true rfl)⟩ ?_
    refine sp_Model_level (fun hx => absurd hx (by rintro (z | z | z | z | z); exact tmX_no ⟨s1, s6⟩ (by rw [← hs]; exact z); exact y1 z; exact y2 z; exact z1 z; exact z2 z)) (fun s9 hs9 _ _ _ _ _ _ i1 hf hc h9 h60 h61 => ?_)
    have e1 : s9 = s := by rw [hs] at hs9; exact ((nI_eq (by omega) (by omega)).mp hs9).symm
    subst e1
    have k0 : i1 0 = (xU (xU (xU i 0 7 (nI 0)) 5 s9 (xs (m + 2))) 7 s9 (xs (m + 3))) 0 := hf.1 0 (by decide) (by decide)
    have k1 : i1 1 = i 1 := (hf.1 1 (by decide) (by decide)).trans (r 1 (by decide))
    have k5 : i1 5 = upd (i 5) s9 (xs (m + 2)) := (hf.1 5 (by decide) (by decide)).trans (by funext j; simp [xU])
    have k7 : i1 7 = upd (i 7) s9 (xs (m + 3)) := (hf.1 7 (by decide) (by decide)).trans (by funext j; simp [xU])
    have k32 : i1 32 = i 32 := (hf.1 32 (by decide) (by decide)).trans (r 32 (by decide))
    have iv : IV xs L i1 (xUL q 93 0 (i 5 s9).toInt64) t := ⟨n, sy, f, upN lv s9 y', upN kd s9 z', op, xp, yp, 0, nt, md, iG.fr (.of r hf (by decide) (by decide) (by decide)) (by rw [k1]), ⟨⟨fun j hj => by rw [k5]; unfold upd upN; split; exact ey; exact iL.1.1 j hj, fun j hj => by rw [h60]; unfold upd upN; split; exact ey; rw [r 60 (by decide)]; exact iL.1.2.1 j hj, fun j => by unfold upN; split; exact hy9; exact iL.1.2.2 j⟩, fun j hj => by rw [k7]; unfold upd upN; split; exact ez; exact iL.2.1 j hj, fun j hj => by rw [h61]; unfold upd upN; split; exact ez; rw [r 61 (by decide)]; exact iL.2.2.1 j hj, fun j => by unfold upN; split; exact hz2; exact iL.2.2.2 j⟩, iE.fr (.of r hf (by decide) (by decide) (by decide)) (by rw [k1]), ⟨⟨by rw [k0]; simp [xU, upd], h9, by decide⟩, fun z => absurd z (by decide)⟩, iT.fr (.of r hf (by decide) (by decide) (by decide)) (by rw [k32]), iP.fr (.of r hf (by decide) (by decide) (by decide)) (fun c hc => qU_ne (by rintro rfl; exact absurd hc (by decide))), iM.fr (.of r hf (by decide) (by decide) (by decide)) (by rw [k0]; simp [xU, upd])⟩
    exact ⟨_, rfl, ⟨hf.1 4096 (by decide) (by decide), hf.1 4097 (by decide) (by decide)⟩, tail_level hc (by decide) (fun _ => by rw [qU_at, r 60 (by decide), iL.1.1 _ (by omega), iL.1.2.1 _ (by omega)]) (nxt _ _ _ _ (iv))⟩
    skip
theorem op_token {xs : Nat → Int32} {L m g : Nat} {i : Nat → Nat → Int32} {q : Nat → Nat → Int64} {t : Bool} {K : Nat × Nat} {Q : xRes → xMem → Prop} (hIV : IV xs L i q t) (hL3 : L ≤ 3072) (hm : m + 6 ≤ L) (nxt : ∀ g' i' q' t', IV xs L i' q' t' → Wx m_Law_law 1037 [some (.ref 4096), some (.ref 0), some (.ref 56), some (.ref 93), some (.int (nI m)), none, none, none] [] (94, g', i', q', RT t') K Q) : Wx m_Law_law 708 [some (.ref 4096), some (.ref 0), some (.ref 56), some (.ref 93), some (.int (nI m)), none, none, none] [] (94, g, i, q, RT t) (K.1 + 1, K.2 + 6) Q := by
  obtain ⟨n, sy, f, lv, kd, op, xp, yp, b, nt, md, iG, iL, iE, iB9, iT, iP, iM⟩ := id hIV
  have h96 := iM.2.2.2.1
  have h97 := iM.2.2.2.2
  obtain ⟨t1, t2, t3, TT, t4⟩ := id iT
  refine ex_aload_n (i := 1) dL_law_708 rfl rfl ?_
  refine ex_aload_n (i := 0) dL_law_709 rfl rfl ?_
  refine ex_iload dL_law_710 rfl ?_
  refine ex_iconst (v := nI 1) dL_law_712 (by decide) ?_
  refine ex_iaddN dL_law_713 ?_
  refine ex_sldN rfl dL_law_714 h97 hL3 (by omega) (congrFun h96 _) ?_
  refine ex_aload_n (i := 0) dL_law_715 rfl rfl ?_
  refine ex_iload dL_law_716 rfl ?_
  refine ex_iconst (v := nI 2) dL_law_718 (by decide) ?_
  refine ex_iaddN dL_law_719 ?_
  refine ex_sldN rfl dL_law_720 h97 hL3 (by omega) (congrFun h96 _) ?_
  refine ex_aload_n (i := 3) dL_law_721 rfl rfl ?_
  refine ex_cHL (P := fun k x g' i' q' t' => Wx m_Law_law 725 [some (.ref 4096), some (.ref 0), some (.ref 56), some (.ref 93), some (.int (nI m)), none, none, none] [.int (nI k)] (94, g', i', (if k = 0 then xUL q' 93 0 x else q'), RT t') K Q) (ν := m_Law_token) (as := [.ref (0), .int (xs (m + 1)), .int (xs (m + 2)), .ref (93)]) (K := K) dL_law_722 lnH_token mfH_token npH_token rfl rfl ⟨(Nat.le_of_ble_eq_true rfl), (Nat.le_of_ble_eq_true rfl), (Nat.le_of_ble_eq_true rfl), (Nat.le_of_ble_eq_true rfl)⟩ ?_ (fun k x g' i' q' t' _ _ h => h)
  refine sp_Law_token ?_
  refine sp_Works_token t1 t3 (fun hx => ?_) (fun hx ha => ?_) (fun hx ha => ?_)
  · refine WQ.er ⟨_, _, _, _, rfl, by decide, ⟨rfl, rfl⟩, ex_thr (k' := 1) (by decide) (by decide) ?_⟩
    refine ex_istore (L' := [some (.ref (4096)), some (.ref (0)), some (.ref (56)), some (.ref (93)), some (.int (nI (m))), some (.int (nI (1))), none, none]) dL_law_725 (by decide) rfl ?_
    refine ex_aload_n (i := 2) dL_law_727 rfl rfl ?_
    refine ex_aload_n (i := 0) dL_law_728 rfl rfl ?_
    refine ex_iload dL_law_729 rfl ?_
    refine ex_iconst (v := nI 1) dL_law_731 (by decide) ?_
    refine ex_iaddN dL_law_732 ?_
    refine ex_sldN rfl dL_law_733 h97 hL3 (by omega) (congrFun h96 _) ?_
    refine ex_aload_n (i := 0) dL_law_734 rfl rfl ?_
    refine ex_iload dL_law_735 rfl ?_
    refine ex_iconst (v := nI 2) dL_law_737 (by decide) ?_
    refine ex_iaddN dL_law_738 ?_
    refine ex_sldN rfl dL_law_739 h97 hL3 (by omega) (congrFun h96 _) ?_
    refine ex_cVL (ν := m_Model_token) (a := 56) (ci := 10) (as := [.int (xs (m + 1)), .int (xs (m + 2))]) dL_law_740 ln_Law_102 mf_Model_token rfl (Nat.le_of_ble_eq_true rfl) rfl rfl np_Model_token rfl rfl ⟨(Nat.le_of_ble_eq_true rfl), (Nat.le_of_ble_eq_true rfl), (Nat.le_of_ble_eq_true rfl), (Nat.le_of_ble_eq_true rfl)⟩ ?_
    refine sp_Model_token t2 t3 (fun _ i1 hf hc => ?_) (fun z => absurd hx z) (fun z => absurd hx z)
    exact ⟨_, rfl, ⟨hf.1 4096 (by decide) (by decide), hf.1 4097 (by decide) (by decide)⟩, tail_token hc (by decide) (fun z => absurd z (by decide)) (nxt _ _ _ _ (hIV.fm (hf.mono (by decide) (by decide)) (fun c hc => rfl)))⟩
    skip
  · refine WQ.er ⟨_, _, _, _, rfl, by decide, ⟨rfl, rfl⟩, ex_thr (k' := 2) (by decide) (by decide) ?_⟩
    refine ex_istore (L' := [some (.ref (4096)), some (.ref (0)), some (.ref (56)), some (.ref (93)), some (.int (nI (m))), some (.int (nI (2))), none, none]) dL_law_725 (by decide) rfl ?_
    refine ex_aload_n (i := 2) dL_law_727 rfl rfl ?_
    refine ex_aload_n (i := 0) dL_law_728 rfl rfl ?_
    refine ex_iload dL_law_729 rfl ?_
    refine ex_iconst (v := nI 1) dL_law_731 (by decide) ?_
    refine ex_iaddN dL_law_732 ?_
    refine ex_sldN rfl dL_law_733 h97 hL3 (by omega) (congrFun h96 _) ?_
    refine ex_aload_n (i := 0) dL_law_734 rfl rfl ?_
    refine ex_iload dL_law_735 rfl ?_
    refine ex_iconst (v := nI 2) dL_law_737 (by decide) ?_
    refine ex_iaddN dL_law_738 ?_
    refine ex_sldN rfl dL_law_739 h97 hL3 (by omega) (congrFun h96 _) ?_
    refine ex_cVL (ν := m_Model_token) (a := 56) (ci := 10) (as := [.int (xs (m + 1)), .int (xs (m + 2))]) dL_law_740 ln_Law_102 mf_Model_token rfl (Nat.le_of_ble_eq_true rfl) rfl rfl np_Model_token rfl rfl ⟨(Nat.le_of_ble_eq_true rfl), (Nat.le_of_ble_eq_true rfl), (Nat.le_of_ble_eq_true rfl), (Nat.le_of_ble_eq_true rfl)⟩ ?_
    refine sp_Model_token t2 t3 (fun z => absurd z hx) (fun _ _ i1 hf hc => ?_) (fun _ z => absurd ha (by omega))
    exact ⟨_, rfl, ⟨hf.1 4096 (by decide) (by decide), hf.1 4097 (by decide) (by decide)⟩, tail_token hc (by decide) (fun z => absurd z (by decide)) (nxt _ _ _ _ (hIV.fm (hf.mono (by decide) (by decide)) (fun c hc => rfl)))⟩
    skip
  · obtain ⟨s, hs, s1, s6⟩ := tmX_s hx
    have r : Fr [32, 34, 36] i (xU (xU (xU i 34 nt (xs (m + 1))) 36 nt (xs (m + 2))) 32 6 (nI (nt + 1))) := ((Fr.rf.U (by decide)).U (by decide)).U (by decide)
    refine WQ.ok ⟨_, _, _, _, _, rfl, rfl, ⟨rfl, rfl⟩, ex_okk ?_⟩
    refine ex_istore (L' := [some (.ref (4096)), some (.ref (0)), some (.ref (56)), some (.ref (93)), some (.int (nI (m))), some (.int (nI (0))), none, none]) dL_law_725 (by decide) rfl ?_
    refine ex_aload_n (i := 2) dL_law_727 rfl rfl ?_
    refine ex_aload_n (i := 0) dL_law_728 rfl rfl ?_
    refine ex_iload dL_law_729 rfl ?_
    refine ex_iconst (v := nI 1) dL_law_731 (by decide) ?_
    refine ex_iaddN dL_law_732 ?_
    refine ex_sldN rfl dL_law_733 h97 hL3 (by omega) (congrFun h96 _) ?_
    refine ex_aload_n (i := 0) dL_law_734 rfl rfl ?_
    refine ex_iload dL_law_735 rfl ?_
    refine ex_iconst (v := nI 2) dL_law_737 (by decide) ?_
    refine ex_iaddN dL_law_738 ?_
    refine ex_sldN rfl dL_law_739 h97 hL3 (by omega) (congrFun h96 _) ?_
    refine ex_cVL (ν := m_Model_token) (a := 56) (ci := 10) (as := [.int (xs (m + 1)), .int (xs (m + 2))]) dL_law_740 ln_Law_102 mf_Model_token rfl (Nat.le_of_ble_eq_true rfl) rfl rfl np_Model_token rfl rfl ⟨(Nat.le_of_ble_eq_true rfl), (Nat.le_of_ble_eq_true rfl), (Nat.le_of_ble_eq_true rfl), (Nat.le_of_ble_eq_true rfl)⟩ ?_
    refine sp_Model_token (a := nt) ((congrFun (r 56 (by decide)) 27).trans t2) t3 (fun z => absurd z hx) (fun _ z => absurd ha (by omega)) (fun _ _ i1 hf hc h27 h77 h78 => ?_)
    have k0 : i1 0 = i 0 := (hf.1 0 (by decide) (by decide)).trans (r 0 (by decide))
    have k1 : i1 1 = i 1 := (hf.1 1 (by decide) (by decide)).trans (r 1 (by decide))
    have k32 : i1 32 6 = nI (nt + 1) := by rw [hf.1 32 (by decide) (by decide)]; simp [xU, upd]
    have k34 : i1 34 = upd (i 34) nt (xs (m + 1)) := (hf.1 34 (by decide) (by decide)).trans (by funext j; simp [xU])
    have k36 : i1 36 = upd (i 36) nt (xs (m + 2)) := (hf.1 36 (by decide) (by decide)).trans (by funext j; simp [xU])
    have iv : IV xs L i1 (xUL q 93 0 (nI (nt + 1)).toInt64) t := ⟨n, sy, f, lv, kd, op, xp, yp, b, nt + 1, md, iG.fr (.of r hf (by decide) (by decide) (by decide)) (by rw [k1]), iL.fr (.of r hf (by decide) (by decide) (by decide)), iE.fr (.of r hf (by decide) (by decide) (by decide)) (by rw [k1]), iB9.fr (.of r hf (by decide) (by decide) (by decide)) (by rw [k0]), ⟨k32, h27, by omega, upN TT nt s, fun j hj => by
      rw [k34, k36, h77, h78, r 77 (by decide), r 78 (by decide)]
      unfold upd upN
      by_cases e : j = nt
      · rw [if_pos e, if_pos e, if_pos e, if_pos e, if_pos e]; exact ⟨hs, hs, s1, s6, rfl⟩
      · rw [if_neg e, if_neg e, if_neg e, if_neg e, if_neg e]; exact t4 j (by omega)⟩, iP.fr (.of r hf (by decide) (by decide) (by decide)) (fun c hc => qU_ne (by rintro rfl; exact absurd hc (by decide))), iM.fr (.of r hf (by decide) (by decide) (by decide)) (by rw [k0])⟩
    exact ⟨_, rfl, ⟨hf.1 4096 (by decide) (by decide), hf.1 4097 (by decide) (by decide)⟩, tail_token hc (by decide) (fun _ => by rw [qU_at]) (nxt _ _ _ _ (iv))⟩
    skip
