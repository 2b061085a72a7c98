/-! ===== the law: rule, clear, build ===== -/
theorem syA_old {n : Nat} {sy : Nat → Nat → Nat} {z : Nat → Nat} {r : Nat} (h : r ≠ n) (h14 : r ≠ 14) : syA n sy z r = sy r := by
  funext k
  unfold syA
  rw [if_neg h, if_neg (fun z => h14 z.1)]
theorem EV_add {n : Nat} {sy : Nat → Nat → Nat} {z op xp yp : Nat → Nat} (hn : n < 14) (h : EV n sy op xp yp) (h0 : ∀ j, n * 15 ≤ j → op j = 0) : EV (n + 1) (syA n sy z) op xp yp := by
  intro r p hr hp
  by_cases e : r = n
  · have := h0 (r * 15 + p) (by rw [e]; omega)
    exact ⟨fun y => by omega, fun y => by omega, fun y => by omega⟩
  · obtain ⟨a, b, c⟩ := h r p (by omega) hp
    have el : lnR (syA n sy z) r = lnR sy r := by
      show lnS (syA n sy z r) = lnS (sy r)
      rw [syA_old e (by omega)]
    rw [el]; exact ⟨a, b, c⟩
theorem ceF_z : ∀ k, ceF (fun _ => 0) k = 0
  | 0 => rfl
  | k + 1 => by show (if 0 = 0 then ceF (fun _ => 0) k else _) = 0; rw [if_pos rfl]; exact ceF_z k
theorem GW_z : GW 0 (fun _ _ => 0) := ⟨by decide, fun _ _ _ _ _ => Or.inl rfl, fun r h => absurd h (Nat.not_lt_zero r), fun _ _ _ => rfl, fun _ _ _ _ _ _ => rfl, fun _ _ _ _ _ _ => rfl, rfl, fun h => absurd h (by decide), fun _ => rfl⟩
theorem isF_z : isF 0 (fun _ _ => 0) (fun _ => 0) := ⟨fun r h => absurd h (Nat.not_lt_zero r), fun _ _ _ => sub_0, fun _ => Nat.zero_lt_succ _⟩
theorem BL.fr {n : Nat} {sy : Nat → Nat → Nat} {op xp yp fi lv kd : Nat → Nat} {i i1 : Nat → Nat → Int32} (h : BL n sy op xp yp fi lv kd i) (e16 : i1 16 = i 16) (e22 : i1 22 = i 22) (e24 : i1 24 = i 24) (e26 : i1 26 = i 26) (e27 : i1 27 = i 27) : BL n sy op xp yp fi lv kd i1 := by
  obtain ⟨F0, F, tr, f, a, b, c, d, ⟨e, e'⟩, g, h⟩ := h
  refine ⟨F0, F, tr, f, ?_, ?_, ?_, d, ⟨e.eq e22, e'⟩, ?_, ?_⟩
  · rw [e16]; exact a
  · rw [e24]; exact b
  · rw [e24]; exact c
  · rw [e16, e26]; exact g
  · rw [e27]; exact h
/-- what a build leaves on both sides -/
theorem IvD_of {n : Nat} {sy : Nat → Nat → Nat} {op xp yp fi lv kd : Nat → Nat} {i : Nat → Nat → Int32} (gw : GW n sy) (n0 : 0 < n) (hf : isF n sy fi) (es : ESw op xp yp) (ed : EqD op) (hB : BL n sy op xp yp fi lv kd i) (hM : ML n sy op xp yp lv kd i) : ∃ S T pr F E fl tr, IvD i n sy op xp yp lv kd S T pr F E fl tr := by
  obtain ⟨S, T, pr, F, E, tb⟩ := tab_eq gw n0 hf hB hM
  obtain ⟨F0, F', tr, f, -, -, -, -, -, -, f1, f2, f3, f4, f5⟩ := hB
  obtain ⟨E', ff, RD, W, A', H, fl, -, -, -, -, -, -, -, m1, m2, m3, m4, m5⟩ := hM
  have hr := ring_eq gw es ed f4 f5 (fun r c hr hc => (m5 r c hr hc).1) m4
  have e : fl = f := by
    have h1 : fl = 1 ↔ f = 1 := by
      rw [f3, hr]
      refine ⟨m3, fun h => ?_⟩
      obtain ⟨r, c, hr, hc, hp, hs⟩ := h
      exact (m5 r c hr hc).2 hp hs
    omega
  exact ⟨S, T, pr, F, E, f, tr, n0, tb, ⟨f1, by rw [← e]; exact m1, f2⟩, f3, f4⟩

theorem op_rule {xs : Nat → Int32} {L m g : Nat} {i : Nat → Nat → Int32} {q : Nat → Nat → Int64} {t : Bool} {K : Nat × Nat} {Q : xRes → xMem → Prop} (hIV : IV xs L i q t) (hL3 : L ≤ 3072) (hm : m + 6 ≤ L) (nxt : ∀ g' i' q' t', IV xs L i' q' t' → Wx m_Law_law 1037 [some (.ref 4096), some (.ref 0), some (.ref 56), some (.ref 93), some (.int (nI m)), none, none, none] [] (94, g', i', q', RT t') K Q) : Wx m_Law_law 116 [some (.ref 4096), some (.ref 0), some (.ref 56), some (.ref 93), some (.int (nI m)), none, none, none] [] (94, g, i, q, RT t) (K.1 + 1, K.2 + 6) Q := by
  obtain ⟨n, sy, f, lv, kd, op, xp, yp, b, nt, md, iG, iL, iE, iB9, iT, iP, iM⟩ := id hIV
  have h96 := iM.2.2.2.1
  have h97 := iM.2.2.2.2
  have gw := iG.1.2.2
  have hn14 := gw.1
  refine ex_aload_n (i := 1) dL_law_116 rfl rfl ?_
  refine ex_aload_n (i := 0) dL_law_117 rfl rfl ?_
  refine ex_iload dL_law_118 rfl ?_
  refine ex_iconst (v := nI 1) dL_law_120 (by decide) ?_
  refine ex_iaddN dL_law_121 ?_
  refine ex_sldN rfl dL_law_122 h97 hL3 (by omega) (congrFun h96 _) ?_
  refine ex_aload_n (i := 0) dL_law_123 rfl rfl ?_
  refine ex_iload dL_law_124 rfl ?_
  refine ex_iconst (v := nI 2) dL_law_126 (by decide) ?_
  refine ex_iaddN dL_law_127 ?_
  refine ex_sldN rfl dL_law_128 h97 hL3 (by omega) (congrFun h96 _) ?_
  refine ex_aload_n (i := 0) dL_law_129 rfl rfl ?_
  refine ex_iload dL_law_130 rfl ?_
  refine ex_iconst (v := nI 3) dL_law_132 (by decide) ?_
  refine ex_iaddN dL_law_133 ?_
  refine ex_sldN rfl dL_law_134 h97 hL3 (by omega) (congrFun h96 _) ?_
  refine ex_aload_n (i := 0) dL_law_135 rfl rfl ?_
  refine ex_iload dL_law_136 rfl ?_
  refine ex_iconst (v := nI 4) dL_law_138 (by decide) ?_
  refine ex_iaddN dL_law_139 ?_
  refine ex_sldN rfl dL_law_140 h97 hL3 (by omega) (congrFun h96 _) ?_
  refine ex_aload_n (i := 0) dL_law_141 rfl rfl ?_
  refine ex_iload dL_law_142 rfl ?_
  refine ex_iconst (v := nI 5) dL_law_144 (by decide) ?_
  refine ex_iaddN dL_law_145 ?_
  refine ex_sldN rfl dL_law_146 h97 hL3 (by omega) (congrFun h96 _) ?_
  refine ex_aload_n (i := 3) dL_law_147 rfl rfl ?_
  refine ex_cHL (P := fun k x g' i' q' t' => Wx m_Law_law 151 [some (.ref 4096), some (.ref 0), some (.ref 56), some (.ref 93), some (.int (nI m)), none, none, none] [.int (nI k)] (94, g', i', (if k = 0 then xUL q' 93 0 x else q'), RT t') K Q) (ν := m_Law_rule) (as := [.ref (0), .int (xs (m + 1)), .int (xs (m + 2)), .int (xs (m + 3)), .int (xs (m + 4)), .int (xs (m + 5)), .ref (93)]) (K := K) dL_law_148 lnH_rule mfH_rule npH_rule rfl rfl ⟨(Nat.le_of_ble_eq_true rfl), (Nat.le_of_ble_eq_true rfl), (Nat.le_of_ble_eq_true rfl), (Nat.le_of_ble_eq_true rfl)⟩ ?_ (fun k x g' i' q' t' _ _ h => h)
  refine sp_Law_rule ?_
  refine sp_Works_rule iM.1 iG.1 iG.2.2.1 iG.2.2.2 (fun hx => ?_) (fun hx hn => ?_) (fun z i1 f1 hz hl ha hb hc9 hd hn hfr h7 h8 h18 gs1 hV1 hF1 => ?_)
  · refine WQ.er ⟨_, _, _, _, rfl, by decide, ⟨rfl, rfl⟩, ex_thr (k' := 1) (by decide) (by decide) ?_⟩
    refine ex_istore (L' := [some (.ref (4096)), some (.ref (0)), some (.ref (56)), some (.ref (93)), some (.int (nI (m))), some (.int (nI (1))), none, none]) dL_law_151 (by decide) rfl ?_
    refine ex_aload_n (i := 2) dL_law_153 rfl rfl ?_
    refine ex_aload_n (i := 0) dL_law_154 rfl rfl ?_
    refine ex_iload dL_law_155 rfl ?_
    refine ex_iconst (v := nI 1) dL_law_157 (by decide) ?_
    refine ex_iaddN dL_law_158 ?_
    refine ex_sldN rfl dL_law_159 h97 hL3 (by omega) (congrFun h96 _) ?_
    refine ex_aload_n (i := 0) dL_law_160 rfl rfl ?_
    refine ex_iload dL_law_161 rfl ?_
    refine ex_iconst (v := nI 2) dL_law_163 (by decide) ?_
    refine ex_iaddN dL_law_164 ?_
    refine ex_sldN rfl dL_law_165 h97 hL3 (by omega) (congrFun h96 _) ?_
    refine ex_aload_n (i := 0) dL_law_166 rfl rfl ?_
    refine ex_iload dL_law_167 rfl ?_
    refine ex_iconst (v := nI 3) dL_law_169 (by decide) ?_
    refine ex_iaddN dL_law_170 ?_
    refine ex_sldN rfl dL_law_171 h97 hL3 (by omega) (congrFun h96 _) ?_
    refine ex_aload_n (i := 0) dL_law_172 rfl rfl ?_
    refine ex_iload dL_law_173 rfl ?_
    refine ex_iconst (v := nI 4) dL_law_175 (by decide) ?_
    refine ex_iaddN dL_law_176 ?_
    refine ex_sldN rfl dL_law_177 h97 hL3 (by omega) (congrFun h96 _) ?_
    refine ex_aload_n (i := 0) dL_law_178 rfl rfl ?_
    refine ex_iload dL_law_179 rfl ?_
    refine ex_iconst (v := nI 5) dL_law_181 (by decide) ?_
    refine ex_iaddN dL_law_182 ?_
    refine ex_sldN rfl dL_law_183 h97 hL3 (by omega) (congrFun h96 _) ?_
    refine ex_cVL (ν := m_Model_rule) (a := 56) (ci := 10) (as := [.int (xs (m + 1)), .int (xs (m + 2)), .int (xs (m + 3)), .int (xs (m + 4)), .int (xs (m + 5))]) dL_law_184 ln_Law_71 mf_Model_rule rfl (Nat.le_of_ble_eq_true rfl) rfl rfl np_Model_rule rfl rfl ⟨(Nat.le_of_ble_eq_true rfl), (Nat.le_of_ble_eq_true rfl), (Nat.le_of_ble_eq_true rfl), (Nat.le_of_ble_eq_true rfl)⟩ ?_
    refine sp_Model_rule_bad hx (fun i1 hf hc => ?_)
    exact ⟨_, rfl, ⟨hf.1 4096 (by decide) (by decide), hf.1 4097 (by decide) (by decide)⟩, tail_rule hc (by decide) (fun z => absurd z (by decide)) (nxt _ _ _ _ (hIV.fm (hf.mono (by decide) (by decide)) (fun c hc => rfl)))⟩
    skip
  · obtain ⟨z, hz, hl, ha, hb, hc9, hd⟩ := rlX_z hx
    refine WQ.er ⟨_, _, _, _, rfl, by decide, ⟨rfl, rfl⟩, ex_thr (k' := 2) (by decide) (by decide) ?_⟩
    refine ex_istore (L' := [some (.ref (4096)), some (.ref (0)), some (.ref (56)), some (.ref (93)), some (.int (nI (m))), some (.int (nI (2))), none, none]) dL_law_151 (by decide) rfl ?_
    refine ex_aload_n (i := 2) dL_law_153 rfl rfl ?_
    refine ex_aload_n (i := 0) dL_law_154 rfl rfl ?_
    refine ex_iload dL_law_155 rfl ?_
    refine ex_iconst (v := nI 1) dL_law_157 (by decide) ?_
    refine ex_iaddN dL_law_158 ?_
    refine ex_sldN rfl dL_law_159 h97 hL3 (by omega) (congrFun h96 _) ?_
    refine ex_aload_n (i := 0) dL_law_160 rfl rfl ?_
    refine ex_iload dL_law_161 rfl ?_
    refine ex_iconst (v := nI 2) dL_law_163 (by decide) ?_
    refine ex_iaddN dL_law_164 ?_
    refine ex_sldN rfl dL_law_165 h97 hL3 (by omega) (congrFun h96 _) ?_
    refine ex_aload_n (i := 0) dL_law_166 rfl rfl ?_
    refine ex_iload dL_law_167 rfl ?_
    refine ex_iconst (v := nI 3) dL_law_169 (by decide) ?_
    refine ex_iaddN dL_law_170 ?_
    refine ex_sldN rfl dL_law_171 h97 hL3 (by omega) (congrFun h96 _) ?_
    refine ex_aload_n (i := 0) dL_law_172 rfl rfl ?_
    refine ex_iload dL_law_173 rfl ?_
    refine ex_iconst (v := nI 4) dL_law_175 (by decide) ?_
    refine ex_iaddN dL_law_176 ?_
    refine ex_sldN rfl dL_law_177 h97 hL3 (by omega) (congrFun h96 _) ?_
    refine ex_aload_n (i := 0) dL_law_178 rfl rfl ?_
    refine ex_iload dL_law_179 rfl ?_
    refine ex_iconst (v := nI 5) dL_law_181 (by decide) ?_
    refine ex_iaddN dL_law_182 ?_
    refine ex_sldN rfl dL_law_183 h97 hL3 (by omega) (congrFun h96 _) ?_
    refine ex_cVL (ν := m_Model_rule) (a := 56) (ci := 10) (as := [.int (xs (m + 1)), .int (xs (m + 2)), .int (xs (m + 3)), .int (xs (m + 4)), .int (xs (m + 5))]) dL_law_184 ln_Law_71 mf_Model_rule rfl (Nat.le_of_ble_eq_true rfl) rfl rfl np_Model_rule rfl rfl ⟨(Nat.le_of_ble_eq_true rfl), (Nat.le_of_ble_eq_true rfl), (Nat.le_of_ble_eq_true rfl), (Nat.le_of_ble_eq_true rfl)⟩ ?_
    rw [hl, ha, hb, hc9, hd]
    refine sp_Model_rule_ok iG.2.1 hz (fun _ i1 hf hc => ?_) (fun z => absurd hn (by omega))
    exact ⟨_, rfl, ⟨hf.1 4096 (by decide) (by decide), hf.1 4097 (by decide) (by decide)⟩, tail_rule hc (by decide) (fun z => absurd z (by decide)) (nxt _ _ _ _ (hIV.fm (hf.mono (by decide) (by decide)) (fun c hc => rfl)))⟩
    skip
  · have h96b : i1 4096 = xs := (hfr 4096 (by decide)).trans h96
    have h97b : i1 4097 0 = nI L := by rw [hfr 4097 (by decide)]; exact h97
    refine WQ.ok ⟨_, _, _, _, _, rfl, rfl, ⟨hfr 4096 (by decide), hfr 4097 (by decide)⟩, ex_okk ?_⟩
    have rg1 : RG i1 n sy := ⟨by rw [hfr 56 (by decide)]; exact iG.2.1.1, by rw [hfr 57 (by decide)]; exact iG.2.1.2.1, by rw [hfr 58 (by decide)]; exact iG.2.1.2.2.1, by rw [hfr 59 (by decide)]; exact iG.2.1.2.2.2.1, gw⟩
    refine ex_istore (L' := [some (.ref (4096)), some (.ref (0)), some (.ref (56)), some (.ref (93)), some (.int (nI (m))), some (.int (nI (0))), none, none]) dL_law_151 (by decide) rfl ?_
    refine ex_aload_n (i := 2) dL_law_153 rfl rfl ?_
    refine ex_aload_n (i := 0) dL_law_154 rfl rfl ?_
    refine ex_iload dL_law_155 rfl ?_
    refine ex_iconst (v := nI 1) dL_law_157 (by decide) ?_
    refine ex_iaddN dL_law_158 ?_
    refine ex_sldN rfl dL_law_159 h97b hL3 (by omega) (congrFun h96b _) ?_
    refine ex_aload_n (i := 0) dL_law_160 rfl rfl ?_
    refine ex_iload dL_law_161 rfl ?_
    refine ex_iconst (v := nI 2) dL_law_163 (by decide) ?_
    refine ex_iaddN dL_law_164 ?_
    refine ex_sldN rfl dL_law_165 h97b hL3 (by omega) (congrFun h96b _) ?_
    refine ex_aload_n (i := 0) dL_law_166 rfl rfl ?_
    refine ex_iload dL_law_167 rfl ?_
    refine ex_iconst (v := nI 3) dL_law_169 (by decide) ?_
    refine ex_iaddN dL_law_170 ?_
    refine ex_sldN rfl dL_law_171 h97b hL3 (by omega) (congrFun h96b _) ?_
    refine ex_aload_n (i := 0) dL_law_172 rfl rfl ?_
    refine ex_iload dL_law_173 rfl ?_
    refine ex_iconst (v := nI 4) dL_law_175 (by decide) ?_
    refine ex_iaddN dL_law_176 ?_
    refine ex_sldN rfl dL_law_177 h97b hL3 (by omega) (congrFun h96b _) ?_
    refine ex_aload_n (i := 0) dL_law_178 rfl rfl ?_
    refine ex_iload dL_law_179 rfl ?_
    refine ex_iconst (v := nI 5) dL_law_181 (by decide) ?_
    refine ex_iaddN dL_law_182 ?_
    refine ex_sldN rfl dL_law_183 h97b hL3 (by omega) (congrFun h96b _) ?_
    refine ex_cVL (ν := m_Model_rule) (a := 56) (ci := 10) (as := [.int (xs (m + 1)), .int (xs (m + 2)), .int (xs (m + 3)), .int (xs (m + 4)), .int (xs (m + 5))]) dL_law_184 ln_Law_71 mf_Model_rule rfl (Nat.le_of_ble_eq_true rfl) rfl rfl np_Model_rule rfl rfl ⟨(Nat.le_of_ble_eq_true rfl), (Nat.le_of_ble_eq_true rfl), (Nat.le_of_ble_eq_true rfl), (Nat.le_of_ble_eq_true rfl)⟩ ?_
    rw [hl, ha, hb, hc9, hd]
    refine sp_Model_rule_ok rg1 hz (fun z => absurd z (by omega)) (fun _ i2 hf hc h9 rg2 => ?_)
    have k0 : i2 0 = i1 0 := hf.1 0 (by decide) (by decide)
    have k1 : i2 1 = i1 1 := hf.1 1 (by decide) (by decide)
    have k32 : i2 32 = i 32 := (hf.1 32 (by decide) (by decide)).trans (hfr 32 (by decide))
    have iv : IV xs L i2 (xUL q 93 0 (nI n).toInt64) t := ⟨n + 1, syA n sy z, f1, lv, kd, op, xp, yp, 0, nt, md, ⟨⟨by rw [k1]; exact gs1.1, by rw [hf.1 3 (by decide) (by decide)]; exact gs1.2.1, gs1.2.2⟩, rg2, hV1.eq (hf.1 9 (by decide) (by decide)), hF1⟩, iL.fr (.of hfr hf (by decide) (by decide) (by decide)), ⟨(iE.fr (.of hfr hf (by decide) (by decide) (by decide)) (by rw [k1]; exact h18)).1, (iE.fr (.of hfr hf (by decide) (by decide) (by decide)) (by rw [k1]; exact h18)).2.1, EV_add hn iE.2.2.1 iE.2.2.2.2.1, iE.2.2.2.1, fun j hj => iE.2.2.2.2.1 j (by omega), by rw [k1, h18]; exact iE.2.2.2.2.2⟩, ⟨⟨by rw [k0]; exact h7, h9, by decide⟩, fun z => absurd z (by decide)⟩, iT.fr (.of hfr hf (by decide) (by decide) (by decide)) (by rw [k32]), iP.fr (.of hfr hf (by decide) (by decide) (by decide)) (fun c hc => qU_ne (by rintro rfl; exact absurd hc (by decide))), iM.fr (.of hfr hf (by decide) (by decide) (by decide)) (by rw [k0]; exact h8)⟩
    exact ⟨_, rfl, ⟨hf.1 4096 (by decide) (by decide), hf.1 4097 (by decide) (by decide)⟩, tail_rule hc (by decide) (fun _ => by rw [qU_at]) (nxt _ _ _ _ (iv))⟩
    skip
theorem op_clear {xs : Nat → Int32} {L m g : Nat} {i : Nat → Nat → Int32} {q : Nat → Nat → Int64} {t : Bool} {K : Nat × Nat} {Q : xRes → xMem → Prop} (hIV : IV xs L i q t) (hL3 : L ≤ 3072) (hm : m + 6 ≤ L) (nxt : ∀ g' i' q' t', IV xs L i' q' t' → Wx m_Law_law 1037 [some (.ref 4096), some (.ref 0), some (.ref 56), some (.ref 93), some (.int (nI m)), none, none, none] [] (94, g', i', q', RT t') K Q) : Wx m_Law_law 968 [some (.ref 4096), some (.ref 0), some (.ref 56), some (.ref 93), some (.int (nI m)), none, none, none] [] (94, g, i, q, RT t) K Q := by
  obtain ⟨n, sy, f, lv, kd, op, xp, yp, b, nt, md, iG, iL, iE, iB9, iT, iP, iM⟩ := id hIV
  obtain ⟨ic, hic⟩ : ∃ ic, ic = xU (xU (wpI i) 32 6 (nI 0)) 0 7 (nI 0) := ⟨_, rfl⟩
  have hfr : Fr [0, 1, 3, 5, 7, 9, 11, 32] i ic := by
    rw [hic]; unfold wpI
    exact (((((((((Fr.rf.S (by decide)).S (by decide)).S (by decide)).S (by decide)).S (by decide)).U (by decide)).U (by decide)).U (by decide)).U (by decide))
  have z3 : ic 3 = zb (i 3) 75 := by rw [hic]; rfl
  have z5 : ic 5 = zb (i 5) 7 := by rw [hic]; rfl
  have z7 : ic 7 = zb (i 7) 7 := by rw [hic]; rfl
  have z9 : ic 9 = zb (i 9) 14 := by rw [hic]; rfl
  have z11 : ic 11 = zb (i 11) 210 := by rw [hic]; rfl
  have o17 : ic 1 7 = nI 0 := by rw [hic]; rfl
  have o18 : ic 1 8 = nI 0 := by rw [hic]; rfl
  have o326 : ic 32 6 = nI 0 := by rw [hic]; rfl
  have o07 : ic 0 7 = nI 0 := by rw [hic]; rfl
  have o08 : ic 0 8 = i 0 8 := by rw [hic]; rfl
  have hz : ∀ (h : Nat → Int32) N j, j < N → zb h N j = nI 0 := fun h N j hj => by unfold zb; rw [if_pos hj]; rfl
  have fini : ∀ i2, Fm [60, 61, 62] [3, 9, 27, 45] ic i2 → i2 56 3 = nI 0 → i2 56 9 = nI 0 → i2 56 27 = nI 0 → (∀ j, j < 210 → i2 62 j = -1) → (∀ j, j < 7 → i2 60 j = nI 0 ∧ i2 61 j = nI 0) → Wx m_Law_law 1037 [some (.ref 4096), some (.ref 0), some (.ref 56), some (.ref 93), some (.int (nI m)), none, none, none] [] (94, g, i2, q, RT t) K Q := by
    intro i2 hf h3 h9 h27 h62 h60
    have k0 : i2 0 = ic 0 := hf.1 0 (by decide) (by decide)
    have k1 : i2 1 = ic 1 := hf.1 1 (by decide) (by decide)
    refine nxt _ _ _ _ ⟨0, fun _ _ => 0, fun _ => 0, fun _ => 0, fun _ => 0, fun _ => 0, xp, yp, 0, 0, md, ⟨⟨by rw [k1]; exact o17, fun r k hr hk => by rw [hf.1 3 (by decide) (by decide), z3]; exact hz _ _ _ (by omega), GW_z⟩, ⟨h3, fun r h => absurd h (Nat.not_lt_zero r), fun r k h => absurd h (Nat.not_lt_zero r), fun r h => absurd h (Nat.not_lt_zero r), GW_z⟩, fun j hj => by rw [hf.1 9 (by decide) (by decide), z9]; exact hz _ _ _ hj, isF_z⟩, ⟨⟨fun j hj => by rw [hf.1 5 (by decide) (by decide), z5]; exact hz _ _ _ hj, fun j hj => (h60 j hj).1, fun _ => Nat.zero_le _⟩, fun j hj => by rw [hf.1 7 (by decide) (by decide), z7]; exact hz _ _ _ hj, fun j hj => (h60 j hj).2, fun _ => Nat.zero_le _⟩, ?_, ⟨⟨by rw [k0]; exact o07, h9, by decide⟩, fun z => absurd z (by decide)⟩, ⟨by rw [hf.1 32 (by decide) (by decide)]; exact o326, h27, by decide, fun _ => 0, fun j hj => absurd hj (Nat.not_lt_zero j)⟩, iP.fr (.of hfr hf (by decide) (by decide) (by decide)) (fun _ _ => rfl), iM.fr (.of hfr hf (by decide) (by decide) (by decide)) (by rw [k0]; exact o08)⟩
    refine ⟨⟨fun j hj => by rw [hf.1 11 (by decide) (by decide), z11]; exact hz _ _ _ hj, iE.1.2.1.eq ((hf.1 13 (by decide) (by decide)).trans (hfr 13 (by decide))), iE.1.2.2.1.eq ((hf.1 15 (by decide) (by decide)).trans (hfr 15 (by decide))), fun _ => Nat.zero_le _, fun j h => absurd (show 2 ≤ 0 from h) (by decide), fun j h => absurd (show 3 ≤ 0 from h) (by decide)⟩, fun j hj => ⟨by rw [if_pos rfl]; exact h62 j hj, Nat.zero_le _, fun h => absurd (show (0 : Nat) = 1 from h) (by decide), fun h => absurd (show 2 ≤ 0 from h) (by decide), fun h => absurd (show 3 ≤ 0 from h) (by decide)⟩, fun r p h => absurd h (Nat.not_lt_zero r), fun _ _ _ _ _ => ⟨rfl, rfl⟩, fun _ _ => rfl, by rw [k1, o18, ceF_z]⟩
  refine ex_aload_n (i := 1) dL_law_968 rfl rfl ?_
  refine ex_cVL (ν := m_Works_clear) (a := 0) (ci := 9) (as := []) dL_law_969 ln_Law_116 mf_Works_clear rfl (Nat.le_of_ble_eq_true rfl) rfl rfl np_Works_clear rfl rfl ⟨(Nat.le_of_ble_eq_true rfl), (Nat.le_of_ble_eq_true rfl), (Nat.le_of_ble_eq_true rfl), (Nat.le_of_ble_eq_true rfl)⟩ ?_
  refine sp_Works_clear ?_
  rw [← hic]
  refine ⟨_, rfl, ⟨hfr 4096 (by decide), hfr 4097 (by decide)⟩, ?_⟩
  refine ex_asN (a := n) iG.1.1 ?_
  refine ex_aload_n (i := 2) dL_law_972 rfl rfl ?_
  refine ex_cVL (ν := m_Model_clear) (a := 56) (ci := 10) (as := []) dL_law_973 ln_Law_119 mf_Model_clear rfl (Nat.le_of_ble_eq_true rfl) rfl rfl np_Model_clear rfl rfl ⟨(Nat.le_of_ble_eq_true rfl), (Nat.le_of_ble_eq_true rfl), (Nat.le_of_ble_eq_true rfl), (Nat.le_of_ble_eq_true rfl)⟩ ?_
  refine sp_Model_clear (n := n) ((congrFun (hfr 56 (by decide)) 3).trans iG.2.1.1) (fun i2 hf hc h3 h9 h27 h62 h60 => ?_)
  refine ⟨_, rfl, ⟨hf.1 4096 (by decide) (by decide), hf.1 4097 (by decide) (by decide)⟩, ?_⟩
  refine ex_icmp_eqN (tgt := 1037) dL_law_976 (by decide) (by have := iG.1.2.2.1; omega) (by have := iG.1.2.2.1; omega) (fun h976 => ?_) (fun h976 => by exact absurd rfl h976)
  exact fini i2 hf h3 h9 h27 h62 h60
theorem op_build {xs : Nat → Int32} {L m g : Nat} {i : Nat → Nat → Int32} {q : Nat → Nat → Int64} {t : Bool} {K : Nat × Nat} {Q : xRes → xMem → Prop} (hIV : IV xs L i q t) (hL3 : L ≤ 3072) (hm : m + 6 ≤ L) (nxt : ∀ g' i' q' t', IV xs L i' q' t' → Wx m_Law_law 1037 [some (.ref 4096), some (.ref 0), some (.ref 56), some (.ref 93), some (.int (nI m)), none, none, none] [] (94, g', i', q', RT t') K Q) : Wx m_Law_law 404 [some (.ref 4096), some (.ref 0), some (.ref 56), some (.ref 93), some (.int (nI m)), none, none, none] [] (94, g, i, q, RT t) (K.1 + 1, K.2 + 6) Q := by
  obtain ⟨n, sy, f, lv, kd, op, xp, yp, b, nt, md, iG, iL, iE, iB9, iT, iP, iM⟩ := id hIV
  have h96 := iM.2.2.2.1
  have h97 := iM.2.2.2.2
  have gw := iG.1.2.2
  have hn14 := gw.1
  refine ex_aload_n (i := 1) dL_law_404 rfl rfl ?_
  refine ex_aload_n (i := 3) dL_law_405 rfl rfl ?_
  refine ex_cHL (P := fun k x g' i' q' t' => Wx m_Law_law 409 [some (.ref 4096), some (.ref 0), some (.ref 56), some (.ref 93), some (.int (nI m)), none, none, none] [.int (nI k)] (94, g', i', (if k = 0 then xUL q' 93 0 x else q'), RT t') K Q) (ν := m_Law_build) (as := [.ref (0), .ref (93)]) (K := K) dL_law_406 lnH_build mfH_build npH_build rfl rfl ⟨(Nat.le_of_ble_eq_true rfl), (Nat.le_of_ble_eq_true rfl), (Nat.le_of_ble_eq_true rfl), (Nat.le_of_ble_eq_true rfl)⟩ ?_ (fun k x g' i' q' t' _ _ h => h)
  refine sp_Law_build (zz := 0) ?_
  refine sp_Works_build iM.1 iG.1 iE.1 iM.2.1 iG.2.2.1 iG.2.2.2.2.2 iL.1.1 iL.1.2.2 iL.2.1 iL.2.2.2 (fun n0 => ?_) (fun n0 hK i1 q1 hfr h7 h8 hq sb => ?_) (fun n0 hK i1 q1 hfr h7 h8 hq bl => ?_)
  · have hfr : Fr [0] i (xU i 0 7 (nI 0)) := Fr.rf.U (by decide)
    have rg1 : RG (xU i 0 7 (nI 0)) n sy := ⟨by rw [hfr 56 (by decide)]; exact iG.2.1.1, by rw [hfr 57 (by decide)]; exact iG.2.1.2.1, by rw [hfr 58 (by decide)]; exact iG.2.1.2.2.1, by rw [hfr 59 (by decide)]; exact iG.2.1.2.2.2.1, gw⟩
    have re1 : RE (xU i 0 7 (nI 0)) op xp yp := by intro j hj; rw [hfr 62 (by decide), hfr 63 (by decide), hfr 64 (by decide)]; exact iE.2.1 j hj
    have l60 : Vw (xU i 0 7 (nI 0)) 60 7 lv := iL.1.2.1.eq (hfr 60 (by decide))
    have l61 : Vw (xU i 0 7 (nI 0)) 61 7 kd := iL.2.2.1.eq (hfr 61 (by decide))
    have h96b : (xU i 0 7 (nI 0)) 4096 = xs := (hfr 4096 (by decide)).trans h96
    have h97b : (xU i 0 7 (nI 0)) 4097 0 = nI L := by rw [hfr 4097 (by decide)]; exact h97
    refine WQ.er ⟨_, _, _, _, rfl, by decide, ⟨hfr 4096 (by decide), hfr 4097 (by decide)⟩, ex_thr (k' := 1) (by decide) (by decide) ?_⟩
    refine ex_istore (L' := [some (.ref (4096)), some (.ref (0)), some (.ref (56)), some (.ref (93)), some (.int (nI (m))), some (.int (nI (1))), none, none]) dL_law_409 (by decide) rfl ?_
    refine ex_aload_n (i := 2) dL_law_411 rfl rfl ?_
    refine ex_cVL (ν := m_Model_build) (a := 56) (ci := 10) (as := []) dL_law_412 ln_Law_85 mf_Model_build rfl (Nat.le_of_ble_eq_true rfl) rfl rfl np_Model_build rfl rfl ⟨(Nat.le_of_ble_eq_true rfl), (Nat.le_of_ble_eq_true rfl), (Nat.le_of_ble_eq_true rfl), (Nat.le_of_ble_eq_true rfl)⟩ ?_
    refine sp_Model_build rg1 re1 iE.1.2.2.2 l60 iL.1.2.2 l61 iL.2.2.2 (fun _ i2 hf hc h9 => ?_) (fun z => absurd n0 z) (fun z => absurd n0 z)
    have k0 : i2 0 = (xU i 0 7 (nI 0)) 0 := hf.1 0 (by decide) (by decide)
    have k1 : i2 1 = i 1 := (hf.1 1 (by decide) (by decide)).trans (hfr 1 (by decide))
    have k32 : i2 32 = i 32 := (hf.1 32 (by decide) (by decide)).trans (hfr 32 (by decide))
    have iv : IV xs L i2 q t := ⟨n, sy, f, lv, kd, op, xp, yp, 0, nt, md, ⟨⟨by rw [k1]; exact iG.1.1, by rw [hf.1 3 (by decide) (by decide), hfr 3 (by decide)]; exact iG.1.2.1, gw⟩, ⟨by rw [hf.2 3 (by decide)]; exact rg1.1, by rw [hf.1 57 (by decide) (by decide)]; exact rg1.2.1, by rw [hf.1 58 (by decide) (by decide)]; exact rg1.2.2.1, by rw [hf.1 59 (by decide) (by decide)]; exact rg1.2.2.2.1, gw⟩, iG.2.2.1.eq ((hf.1 9 (by decide) (by decide)).trans (hfr 9 (by decide))), iG.2.2.2⟩, iL.fr (.of hfr hf (by decide) (by decide) (by decide)), iE.fr (.of hfr hf (by decide) (by decide) (by decide)) (by rw [k1]), ⟨⟨by rw [k0]; simp [xU, upd], h9, by decide⟩, fun z => absurd z (by decide)⟩, iT.fr (.of hfr hf (by decide) (by decide) (by decide)) (by rw [k32]), iP.fr (.of hfr hf (by decide) (by decide) (by decide)) (fun _ _ => rfl), iM.fr (.of hfr hf (by decide) (by decide) (by decide)) (by rw [k0]; simp [xU, upd])⟩
    exact ⟨_, rfl, ⟨hf.1 4096 (by decide) (by decide), hf.1 4097 (by decide) (by decide)⟩, tail_build hc (by decide) (fun z => absurd z (by decide)) (nxt _ _ _ _ (iv))⟩
    skip
  · have rg1 : RG i1 n sy := ⟨by rw [hfr 56 (by decide)]; exact iG.2.1.1, by rw [hfr 57 (by decide)]; exact iG.2.1.2.1, by rw [hfr 58 (by decide)]; exact iG.2.1.2.2.1, by rw [hfr 59 (by decide)]; exact iG.2.1.2.2.2.1, gw⟩
    have re1 : RE i1 op xp yp := by intro j hj; rw [hfr 62 (by decide), hfr 63 (by decide), hfr 64 (by decide)]; exact iE.2.1 j hj
    have l60 : Vw i1 60 7 lv := iL.1.2.1.eq (hfr 60 (by decide))
    have l61 : Vw i1 61 7 kd := iL.2.2.1.eq (hfr 61 (by decide))
    have h96b : i1 4096 = xs := (hfr 4096 (by decide)).trans h96
    have h97b : i1 4097 0 = nI L := by rw [hfr 4097 (by decide)]; exact h97
    have sc1 : SC i1 := SC_Fr (by decide) hfr iM.1
    refine WQ.er ⟨_, _, _, _, rfl, by decide, ⟨hfr 4096 (by decide), hfr 4097 (by decide)⟩, ex_thr (k' := 2) (by decide) (by decide) ?_⟩
    refine ex_istore (L' := [some (.ref (4096)), some (.ref (0)), some (.ref (56)), some (.ref (93)), some (.int (nI (m))), some (.int (nI (2))), none, none]) dL_law_409 (by decide) rfl ?_
    refine ex_aload_n (i := 2) dL_law_411 rfl rfl ?_
    refine ex_cVL (ν := m_Model_build) (a := 56) (ci := 10) (as := []) dL_law_412 ln_Law_85 mf_Model_build rfl (Nat.le_of_ble_eq_true rfl) rfl rfl np_Model_build rfl rfl ⟨(Nat.le_of_ble_eq_true rfl), (Nat.le_of_ble_eq_true rfl), (Nat.le_of_ble_eq_true rfl), (Nat.le_of_ble_eq_true rfl)⟩ ?_
    refine sp_Model_build rg1 re1 iE.1.2.2.2 l60 iL.1.2.2 l61 iL.2.2.2 (fun z => absurd z n0) (fun _ _ i2 hf hc h9 rg2 => ?_) (fun _ z => absurd hK (by omega))
    have k0 : i2 0 = i1 0 := hf.1 0 (by decide) (by decide)
    have k1 : i2 1 = i 1 := (hf.1 1 (by decide) (by decide)).trans (hfr 1 (by decide))
    have k32 : i2 32 = i 32 := (hf.1 32 (by decide) (by decide)).trans (hfr 32 (by decide))
    have iv : IV xs L i2 q1 t := ⟨n, sy, f, lv, kd, op, xp, yp, 0, nt, md, ⟨⟨by rw [k1]; exact iG.1.1, by rw [hf.1 3 (by decide) (by decide), hfr 3 (by decide)]; exact iG.1.2.1, gw⟩, rg2, iG.2.2.1.eq ((hf.1 9 (by decide) (by decide)).trans (hfr 9 (by decide))), iG.2.2.2⟩, iL.fr (.of hfr hf (by decide) (by decide) (by decide)), iE.fr (.of hfr hf (by decide) (by decide) (by decide)) (by rw [k1]), ⟨⟨by rw [k0]; exact h7, h9, by decide⟩, fun z => absurd z (by decide)⟩, iT.fr (.of hfr hf (by decide) (by decide) (by decide)) (by rw [k32]), iP.fr (.of hfr hf (by decide) (by decide) (by decide)) (fun c hc => hq c (by rintro rfl; exact absurd hc (by decide)) (by rintro rfl; exact absurd hc (by decide))), ⟨by unfold SC at sc1 ⊢; rw [hf.1 2 (by decide) (by decide), hf.1 10 (by decide) (by decide), hf.1 12 (by decide) (by decide), hf.1 14 (by decide) (by decide), hf.1 21 (by decide) (by decide), hf.1 23 (by decide) (by decide), hf.1 25 (by decide) (by decide), hf.1 47 (by decide) (by decide), hf.1 52 (by decide) (by decide)]; exact sc1, ⟨⟨sb.1.choose, sb.1.choose_spec.1.eq (hf.1 22 (by decide) (by decide)), sb.1.choose_spec.2⟩, by rw [hf.1 24 (by decide) (by decide)]; exact sb.2⟩, by rw [k0, h8, hf.2 44 (by decide), hfr 56 (by decide)]; exact iM.2.2.1, by rw [hf.1 4096 (by decide) (by decide)]; exact h96b, by rw [hf.1 4097 (by decide) (by decide)]; exact h97b⟩⟩
    exact ⟨_, rfl, ⟨hf.1 4096 (by decide) (by decide), hf.1 4097 (by decide) (by decide)⟩, tail_build hc (by decide) (fun z => absurd z (by decide)) (nxt _ _ _ _ (iv))⟩
    skip
  · have rg1 : RG i1 n sy := ⟨by rw [hfr 56 (by decide)]; exact iG.2.1.1, by rw [hfr 57 (by decide)]; exact iG.2.1.2.1, by rw [hfr 58 (by decide)]; exact iG.2.1.2.2.1, by rw [hfr 59 (by decide)]; exact iG.2.1.2.2.2.1, gw⟩
    have re1 : RE i1 op xp yp := by intro j hj; rw [hfr 62 (by decide), hfr 63 (by decide), hfr 64 (by decide)]; exact iE.2.1 j hj
    have l60 : Vw i1 60 7 lv := iL.1.2.1.eq (hfr 60 (by decide))
    have l61 : Vw i1 61 7 kd := iL.2.2.1.eq (hfr 61 (by decide))
    have h96b : i1 4096 = xs := (hfr 4096 (by decide)).trans h96
    have h97b : i1 4097 0 = nI L := by rw [hfr 4097 (by decide)]; exact h97
    have sc1 : SC i1 := SC_Fr (by decide) hfr iM.1
    have sb : SBd i1 := by
      obtain ⟨F0, F, tr, f9, -, -, c, -, ⟨e1, e2, -⟩, -⟩ := bl
      exact ⟨⟨F, e1, e2⟩, c⟩
    refine WQ.ok ⟨_, _, _, _, _, rfl, rfl, ⟨hfr 4096 (by decide), hfr 4097 (by decide)⟩, ex_okk ?_⟩
    refine ex_istore (L' := [some (.ref (4096)), some (.ref (0)), some (.ref (56)), some (.ref (93)), some (.int (nI (m))), some (.int (nI (0))), none, none]) dL_law_409 (by decide) rfl ?_
    refine ex_aload_n (i := 2) dL_law_411 rfl rfl ?_
    refine ex_cVL (ν := m_Model_build) (a := 56) (ci := 10) (as := []) dL_law_412 ln_Law_85 mf_Model_build rfl (Nat.le_of_ble_eq_true rfl) rfl rfl np_Model_build rfl rfl ⟨(Nat.le_of_ble_eq_true rfl), (Nat.le_of_ble_eq_true rfl), (Nat.le_of_ble_eq_true rfl), (Nat.le_of_ble_eq_true rfl)⟩ ?_
    refine sp_Model_build rg1 re1 iE.1.2.2.2 l60 iL.1.2.2 l61 iL.2.2.2 (fun z => absurd z n0) (fun _ z => absurd hK (by omega)) (fun _ _ i2 hf hc h9 rg2 ml => ?_)
    have hD := IvD_of gw (by omega) iG.2.2.2 iE.1.2.2.2 iE.2.2.2.1 (bl.fr (hf.1 16 (by decide) (by decide)) (hf.1 22 (by decide) (by decide)) (hf.1 24 (by decide) (by decide)) (hf.1 26 (by decide) (by decide)) (hf.1 27 (by decide) (by decide))) ml
    have k0 : i2 0 = i1 0 := hf.1 0 (by decide) (by decide)
    have k1 : i2 1 = i 1 := (hf.1 1 (by decide) (by decide)).trans (hfr 1 (by decide))
    have k32 : i2 32 = i 32 := (hf.1 32 (by decide) (by decide)).trans (hfr 32 (by decide))
    have iv : IV xs L i2 (xUL q1 93 0 (nI (KS n sy).length).toInt64) t := ⟨n, sy, f, lv, kd, op, xp, yp, 1, nt, md, ⟨⟨by rw [k1]; exact iG.1.1, by rw [hf.1 3 (by decide) (by decide), hfr 3 (by decide)]; exact iG.1.2.1, gw⟩, rg2, iG.2.2.1.eq ((hf.1 9 (by decide) (by decide)).trans (hfr 9 (by decide))), iG.2.2.2⟩, iL.fr (.of hfr hf (by decide) (by decide) (by decide)), iE.fr (.of hfr hf (by decide) (by decide) (by decide)) (by rw [k1]), ⟨⟨by rw [k0]; exact h7, h9, by decide⟩, fun _ => hD⟩, iT.fr (.of hfr hf (by decide) (by decide) (by decide)) (by rw [k32]), iP.fr (.of hfr hf (by decide) (by decide) (by decide)) (fun c hc => (qU_ne (by rintro rfl; exact absurd hc (by decide))).trans (hq c (by rintro rfl; exact absurd hc (by decide)) (by rintro rfl; exact absurd hc (by decide)))), ⟨by unfold SC at sc1 ⊢; rw [hf.1 2 (by decide) (by decide), hf.1 10 (by decide) (by decide), hf.1 12 (by decide) (by decide), hf.1 14 (by decide) (by decide), hf.1 21 (by decide) (by decide), hf.1 23 (by decide) (by decide), hf.1 25 (by decide) (by decide), hf.1 47 (by decide) (by decide), hf.1 52 (by decide) (by decide)]; exact sc1, ⟨⟨sb.1.choose, sb.1.choose_spec.1.eq (hf.1 22 (by decide) (by decide)), sb.1.choose_spec.2⟩, by rw [hf.1 24 (by decide) (by decide)]; exact sb.2⟩, by rw [k0, h8, hf.2 44 (by decide), hfr 56 (by decide)]; exact iM.2.2.1, by rw [hf.1 4096 (by decide) (by decide)]; exact h96b, by rw [hf.1 4097 (by decide) (by decide)]; exact h97b⟩⟩
    exact ⟨_, rfl, ⟨hf.1 4096 (by decide) (by decide), hf.1 4097 (by decide) (by decide)⟩, tail_build hc (by decide) (fun _ => by rw [qU_at]) (nxt _ _ _ _ (iv))⟩
    skip
