/-! ===== mathematics: class and reference have one table ===== -/
theorem gtD_mem {l : List Nat} {j : Nat} (h : j < l.length) : l.getD j 0 ∈ l := by
  rw [List.getD_eq_getElem?_getD, List.getElem?_eq_getElem h, Option.getD_some]; exact List.getElem_mem h
theorem mem_gtD {l : List Nat} {K : Nat} (h : K ∈ l) : ∃ j, j < l.length ∧ l.getD j 0 = K := by
  obtain ⟨j, hj, e⟩ := List.getElem_of_mem h
  exact ⟨j, hj, by rw [List.getD_eq_getElem?_getD, List.getElem?_eq_getElem hj, Option.getD_some]; exact e⟩
/-- no kernel comes twice, and each is gone to -/
def KSi (n : Nat) (sy : Nat → Nat → Nat) (ks : List Nat) : Prop := ks.Nodup ∧ ∀ K, K ∈ ks → K = 0 ∨ ∃ j x, j < ks.length ∧ 1 ≤ x ∧ x < 14 ∧ K = nx n sy (ks.getD j 0) x
theorem stp_i {n : Nat} {sy : Nat → Nat → Nat} {ks : List Nat} {s x : Nat} (h : KSi n sy ks) (hs : s < ks.length) (h1 : 1 ≤ x) (hx : x < 14) : KSi n sy (stp n sy ks s x) := by
  unfold stp
  split
  · exact h
  · rename_i hc
    have hm : ¬ nx n sy (ks.getD s 0) x ∈ ks := fun z => hc (Or.inr z)
    have e : ∀ j, j < ks.length → (ks ++ [nx n sy (ks.getD s 0) x]).getD j 0 = ks.getD j 0 := fun j hj => pre_getD (List.prefix_append _ _) hj
    refine ⟨?_, fun K hK => ?_⟩
    · rw [List.nodup_append]
      refine ⟨h.1, by simp, fun a ha b hb z => ?_⟩
      rw [List.mem_singleton] at hb
      exact hm (by rw [← hb, ← z]; exact ha)
    · rw [List.mem_append, List.mem_singleton] at hK
      rcases hK with hK | hK
      · rcases h.2 K hK with z | ⟨j, x', h2, h3, h4, h5⟩
        · exact Or.inl z
        · exact Or.inr ⟨j, x', by rw [List.length_append]; omega, h3, h4, by rw [e j h2]; exact h5⟩
      · exact Or.inr ⟨s, x, by rw [List.length_append]; omega, h1, hx, by rw [e s hs]; exact hK⟩
theorem bfs_i {n : Nat} {sy : Nat → Nat → Nat} : ∀ {m s x : Nat} {ks : List Nat}, 1 ≤ x → KSi n sy ks → KSi n sy (bfs n sy m s x ks)
  | 0, _, _, _, _, h => h
  | m + 1, s, x, ks, hx, h => by
    by_cases hs : s < ks.length
    · by_cases h14 : x < 14
      · rw [bfs_x hs h14]; exact bfs_i (by omega) (stp_i h hs hx h14)
      · rw [bfs_s hs h14]; exact bfs_i (by omega) h
    · rw [bfs_end (by omega)]; exact h
theorem KS_i {n : Nat} {sy : Nat → Nat → Nat} : KSi n sy (KS n sy) := bfs_i (by omega) ⟨by simp, fun K hK => Or.inl (by simpa using hK)⟩
theorem idx_getD {l : List Nat} (h : l.Nodup) {j : Nat} (hj : j < l.length) : l.idxOf (l.getD j 0) = j := by
  rw [List.getD_eq_getElem?_getD, List.getElem?_eq_getElem hj, Option.getD_some]
  exact List.Nodup.idxOf_getElem h j hj
/-- only one state ends the goal -/
theorem goal_st {n : Nat} {sy : Nat → Nat → Nat} (gw : GW n sy) (n0 : 0 < n) (h1 : ∀ j, 0 < j → j < (KS n sy).length → (KS n sy).getD j 0 ≠ 0) (lc : LCt n sy (tg n sy (KS n sy)) (KS n sy).length (fun s it => clP n sy (kst ((KS n sy).getD s 0)) it)) {s : Nat} (hs : s < (KS n sy).length) (h : clP n sy (kst ((KS n sy).getD s 0)) 71) : s = tg n sy (KS n sy) 0 (sy 0 0) := by
  have hlf := gw.2.2.1 0 n0
  have h2 := h
  rw [clP_ker (by decide) (by decide)] at h2
  have hne : (KS n sy).getD s 0 ≠ 0 := fun e => h2 (by rw [e, Nat.zero_and])
  obtain ⟨j, x, j1, j2, j3, j4⟩ := (KS_i.2 _ (gtD_mem hs)).resolve_left hne
  rw [j4, nx_tb (by omega) (by decide)] at h2
  have hj0 : j = 0 := lc.2.2.2.1.2 j j1 h2.1
  have hx : x = sy 0 0 := by
    rw [← h2.2]
    show (if 70 % 5 < 4 then sy (70 / 5) (70 % 5 + 1) else 0) = _
    rw [if_pos (by decide)]
    exact gw.2.2.2.2.2.2.2.1 n0
  subst hj0 hx
  unfold tg
  rw [← j4, if_neg hne, idx_getD KS_i.1 hs]
theorem rcF_congr {P P' : Nat → Prop} : ∀ {k : Nat}, (∀ j, j < k → (P j ↔ P' j)) → rcF P k = rcF P' k
  | 0, _ => rfl
  | k + 1, h => by
    have ih := rcF_congr (P := P) (P' := P') (k := k) (fun j hj => h j (by omega))
    by_cases c : P k
    · rw [rcF_yes c, rcF_yes ((h k (by omega)).mp c), ih]
    · rw [rcF_no c, rcF_no (fun z => c ((h k (by omega)).mpr z)), ih]
theorem cjF_congr {D D' : Nat → Int32} : ∀ {k : Nat}, (∀ j, j < k → D j = D' j) → cjF D k = cjF D' k
  | 0, _ => rfl
  | k + 1, h => by
    have ih := cjF_congr (D := D) (D' := D') (k := k) (fun j hj => h j (by omega))
    rw [cjF_s, cjF_s, ih, h k (by omega)]
/-- what class and reference have alike behind a build -/
def TB (n : Nat) (sy : Nat → Nat → Nat) (lv kd : Nat → Nat) (i1 i2 : Nat → Nat → Int32) (S : Nat) (T : Nat → Nat → Nat) (pr : Nat → Nat → Prop) (F E : Nat → Nat) : Prop :=
  (LCt n sy T S pr ∧ ∀ P : Nat → Prop, P 70 → clS n sy P → ∀ it, it < 75 → pr 0 it → P it) ∧ (i1 16 6 = nI S ∧ i2 56 11 = nI S) ∧ (∀ s, s < 50 → i1 24 (s * 14) = 0) ∧ (∀ s x, s < S → 1 ≤ x → x < 14 → i1 24 (s * 14 + x) = nI (T s x) ∧ i2 67 (14 * s + x) = nI (T s x)) ∧ (∀ s, s < S → i2 67 (14 * s) = nI 0) ∧
  (Vw i1 22 3750 F ∧ (∀ j, j < 3750 → F j < 256)) ∧ (∀ s it, s < S → it < 75 → i2 65 (75 * s + it) = nI (E (75 * s + it)) ∧ E (75 * s + it) < 2) ∧ (∀ s it, s < S → it < 75 → (F (s * 75 + it) ≠ 0 ↔ pr s it) ∧ (E (75 * s + it) ≠ 0 ↔ pr s it)) ∧
  (∀ s r, s < S → r < n → pr s (r * 5 + lnR sy r) → i2 72 (14 * s + r) = nI (F (s * 75 + (r * 5 + lnR sy r)) &&& 127)) ∧
  (∀ s t r, s < S → t < 7 → r < 15 → redP sy F s t r → pr s (r * 5 + lnR sy r) ∧ (r < n ∨ r = 14 ∧ t = 0)) ∧
  (∀ j, j < 7 * S → i1 26 j = DcA sy lv kd F T j ∧ i2 73 j = DcA sy lv kd F T j) ∧ i1 16 7 = nI (cjF (DcA sy lv kd F T) (7 * S)) ∧ i2 56 12 = nI (cjF (DcA sy lv kd F T) (7 * S))
theorem tab_eq {n : Nat} {sy : Nat → Nat → Nat} {op xp yp fi lv kd : Nat → Nat} {i1 i2 : Nat → Nat → Int32} (gw : GW n sy) (n0 : 0 < n) (hf : isF n sy fi) (hB : BL n sy op xp yp fi lv kd i1) (hM : ML n sy op xp yp lv kd i2) : ∃ S T pr F E, TB n sy lv kd i1 i2 S T pr F E := by
  obtain ⟨F0, F, tr, fl, ⟨b1, b2, b3⟩, b4, b5, b6, ⟨b7, b8, b9, b10, b11⟩, ⟨b12, b13⟩, -⟩ := hB
  obtain ⟨E, f, RD, W, A, H, fl2, ⟨⟨m1, m2, m3, m4⟩, m5, m6, m7, m8⟩, m9, m10, ⟨m11, m12⟩, ⟨m13, m14⟩, ⟨m15, m16, m17⟩, ⟨m18, m19⟩, -⟩ := hM
  have ef : f = fi := isF_eq m10 hf
  subst ef
  have hn := gw.1
  have lc := lct_of gw ⟨b2, b3, m4⟩ m5 m6 (fun s x hs h1 h2 => (b4 s x hs h1 h2).1)
  obtain ⟨S, eS⟩ : ∃ S, S = (KS n sy).length := ⟨_, rfl⟩
  obtain ⟨T, eT⟩ : ∃ T, T = tg n sy (KS n sy) := ⟨_, rfl⟩
  obtain ⟨pr, epr⟩ : ∃ pr : Nat → Nat → Prop, pr = fun s it => clP n sy (kst ((KS n sy).getD s 0)) it := ⟨_, rfl⟩
  obtain ⟨TJ, eTJ⟩ : ∃ TJ, TJ = TJm n sy := ⟨_, rfl⟩
  have hgoal : ∀ s, s < S → pr s 71 → s = T 0 (sy 0 0) := fun s hs h => by
    rw [eT]; exact goal_st gw n0 m5 lc (by rw [← eS]; exact hs) (by rw [epr] at h; exact h)
  have hTJ : TJP TJ T S := fun s x hs h1 hx => by
    rw [eTJ, eT]; unfold TJm
    rw [if_neg (by omega), show (14 * s + x) / 14 = s by omega, show (14 * s + x) % 14 = x by omega]
  have epr2 : ∀ s it, pr s it = clP n sy (kst ((KS n sy).getD s 0)) it := fun s it => by rw [epr]
  rw [← eS, ← eT, ← epr] at lc
  have h0 : ∀ s it, s < S → it < 75 → (F0 (s * 75 + it) = 0 ∨ F0 (s * 75 + it) = 128) ∧ (F0 (s * 75 + it) ≠ 0 ↔ pr s it) := fun s it hs hi => by rw [epr2]; exact b6 s it (by rw [← eS]; exact hs) hi
  rw [← eS, ← eT] at b10 b11
  rw [← eTJ, ← eS] at m11 m12 m13 m14 m17
  obtain ⟨hF1, hF2⟩ := F_base n0 gw lc hf h0 b9 b10
  have hsub := F_sub gw n0 lc hTJ hf m11 m13 h0 b10
  have hsup := F_sup gw n0 lc hTJ hf m12 m14 hF1 hF2 b11
  have hpF : ∀ s it, s < S → it < 75 → (F (s * 75 + it) ≠ 0 ↔ pr s it) := fun s it hs hi => ⟨fun h => Classical.byContradiction fun z => h ((hsub s it hs hi).2 z), hF1 s it hs hi⟩
  have hpE : ∀ s it, s < S → it < 75 → (E (75 * s + it) ≠ 0 ↔ pr s it) := fun s it hs hi => by rw [epr2]; exact m8 s it (by rw [← eS]; exact hs) hi
  -- the bits
  have hA : ∀ s r t, s < S → r < n → t < 7 → ((F (s * 75 + (r * 5 + lnR sy r))).testBit t = true ↔ (A (14 * s + r)).testBit t = true) := fun s r t hs hr ht => by
    have hl4 := lnR_le sy r
    have hlf := gw.2.2.1 r hr
    rw [m17 (14 * s + r) t (by omega)]
    constructor
    · intro h
      obtain ⟨-, la⟩ := (hsub s (r * 5 + lnR sy r) hs (by omega)).1 t ht h
      unfold LAp at la
      rw [show (r * 5 + lnR sy r) / 5 = r by omega, show (r * 5 + lnR sy r) % 5 = lnR sy r by omega] at la
      rcases la with ⟨-, s0, c1, c2, c3, c4⟩ | ⟨c1, -⟩
      · exact ⟨s0, r, c1, hr, by rw [hTJ s0 _ c1 (by omega) (by omega)]; exact c2, by rw [c3], c4⟩
      · omega
    · rintro ⟨s0, r', c1, c2, c3, c4, c5⟩
      have hlf' := gw.2.2.1 r' c2
      rw [hTJ s0 _ c1 (by omega) (by omega)] at c3
      have er : r' = r := by omega
      subst er
      have := (hsup s0 r' t c1 c2 c3 c5).2 (lnR sy r') (Nat.le_refl _)
      rw [show s = pth TJ sy r' s0 (lnR sy r') by omega]
      exact this
  have l14 : lnR sy 14 = 1 := by
    show lnS (sy 14) = 1
    have h3 := gw.2.2.1 0 n0
    have h4 := gw.2.2.2.2.2.2.2.1 n0
    unfold lnS
    rw [if_neg (by omega), if_pos gw.2.2.2.2.2.2.1]
  have hred : ∀ s t r, s < S → t < 7 → r < 15 → redP sy F s t r → pr s (r * 5 + lnR sy r) ∧ (r < n ∨ r = 14 ∧ t = 0) := fun s t r hs ht hr h => by
    have hl4 := lnR_le sy r
    unfold redP at h
    rw [tb127 ht] at h
    obtain ⟨p, la⟩ := (hsub s (r * 5 + lnR sy r) hs (by omega)).1 t ht h
    refine ⟨p, ?_⟩
    unfold LAp at la
    rw [show (r * 5 + lnR sy r) / 5 = r by omega] at la
    exact la.imp (fun z => z.1) id
  have hiff : ∀ s t r, s < S → t < 7 → r < 15 → (redP sy F s t r ↔ PmA n sy E A s t r) := fun s t r hs ht hr => by
    have hl4 := lnR_le sy r
    have hpe := hpE s (r * 5 + lnR sy r) hs (by omega)
    rw [← Nat.mul_comm 5 r, ← Nat.add_assoc] at hpe
    constructor
    · intro h
      obtain ⟨p, z⟩ := hred s t r hs ht hr h
      unfold redP at h
      rw [tb127 ht] at h
      rcases z with z | ⟨z1, z2⟩
      · exact Or.inl ⟨z, hpe.mpr (by rw [Nat.mul_comm 5 r]; exact p), (hA s r t hs z ht).mp h⟩
      · refine Or.inr ⟨z1, z2, ?_⟩
        rw [z1, l14] at p
        exact (hpE s 71 hs (by decide)).mpr p
    · rintro (⟨z1, z2, z3⟩ | ⟨z1, z2, z3⟩)
      · unfold redP
        rw [tb127 ht]; exact (hA s r t hs z1 ht).mpr z3
      · have p := (hpE s 71 hs (by decide)).mp z3
        have es := hgoal s hs p
        unfold redP
        rw [tb127 ht, z1, z2, l14, es]
        have h8 := gw.2.2.1 0 n0
        have b1 : bh sy 70 = sy 0 0 := by
          show (if 70 % 5 < 4 then sy (70 / 5) (70 % 5 + 1) else 0) = _
          rw [if_pos (by decide)]
          exact gw.2.2.2.2.2.2.2.1 n0
        have hne : F (0 * 75 + 70) ≠ 0 := hF1 0 70 lc.1.1 (by decide) lc.2.2.2.1.1
        have := (b11 0 70 lc.1.1 (by decide) hne (by rw [b1]; omega)).1 0 (by rw [tb127 (by decide)]; exact hF2)
        rw [b1] at this
        exact this
  have hD : ∀ j, j < 7 * S → DmA n sy lv kd E A j = DcA sy lv kd F T j := fun j hj => by
    show DmS n sy lv kd E A (j / 7) (j % 7) = dcS sy lv kd F T (j / 7) (j % 7)
    have e := rcF_congr (k := 15) (fun r hr => hiff (j / 7) (j % 7) r (by omega) (by omega) hr)
    unfold DmS dcS
    rw [← e]
    by_cases z : j % 7 = 0
    · rw [if_pos z, if_pos z]
    · rw [if_neg z, if_neg z, ← eTJ, hTJ _ _ (by omega) (by omega) (by omega)]
  refine ⟨S, T, pr, F, E, ⟨lc, fun P h70 hcl it hi hp => ?_⟩, ⟨by rw [b1, eS], by rw [m1, eS]⟩, b5, fun s x hs h1 hx => ⟨?_, ?_⟩, fun s hs => ?_, ⟨b7, b8⟩, fun s it hs hi => m7 _ (by rw [← eS]; omega), fun s it hs hi => ⟨hpF s it hs hi, hpE s it hs hi⟩, fun s r hs hr hp => ?_, hred, fun j hj => ⟨?_, ?_⟩, ?_, ?_⟩
  · rw [epr2, m4] at hp
    refine hp P (fun j _ hk => ?_) hcl
    rcases hk with hk | hk
    · rw [hk.2]; exact h70
    · exact absurd (Nat.zero_and _) hk
  · rw [eT]; exact (b4 s x (by rw [← eS]; exact hs) h1 hx).2
  · rw [(m9 (14 * s + x) (by rw [← eS]; omega)).1, ← eTJ, hTJ s x hs h1 hx]
  · rw [(m9 (14 * s) (by rw [← eS]; omega)).1]
    unfold TJm
    rw [if_pos (by omega)]
  · rw [m15 (14 * s + r) (by omega)]
    congr 1
    have hl4 := lnR_le sy r
    apply Nat.eq_of_testBit_eq
    intro t
    by_cases ht : t < 7
    · rw [tb127 ht, Bool.eq_iff_iff]; exact (hA s r t hs hr ht).symm
    · have h1 : ∀ a, a < 128 → a.testBit t = false := fun a ha => Nat.testBit_lt_two_pow (Nat.lt_of_lt_of_le ha (by rw [show 128 = 2 ^ 7 from rfl]; exact Nat.pow_le_pow_right (by decide) (by omega)))
      rw [h1 _ (m16 _), h1 _ (Nat.lt_of_le_of_lt Nat.and_le_right (by decide))]
  · rw [b13 j (by rw [← eS]; exact hj), ← eT]
  · rw [m19 j (by rw [← eS]; exact hj), hD j hj]
  · rw [b12, ← eT, ← eS]
  · rw [m18, ← eS, cjF_congr hD]
