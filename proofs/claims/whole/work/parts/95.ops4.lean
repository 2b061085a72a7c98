/-! ===== the law: equation ===== -/
theorem dfX_pl {f : Nat → Nat} {c : Int32} {p : Nat} (h : ¬ dfX f c = 0) (hp : plX f c = some p) : p < 2 ∨ (3 ≤ p ∧ p % 3 = 2) := by
  unfold dfX at h
  unfold plX at hp
  by_cases c0 : c < 0
  · rw [if_pos c0] at hp; cases hp
  · rw [if_neg c0] at h hp
    by_cases c1 : plS f c.toNatClampNeg = none ∨ (c.toNatClampNeg < 10 ∧ c.toNatClampNeg % 10 = 2) ∨ (10 ≤ c.toNatClampNeg ∧ ¬ c.toNatClampNeg % 10 = 2)
    · rw [if_pos c1] at h; exact absurd rfl h
    · unfold plS at hp
      split at hp
      · cases hp
      · rename_i c2
        have e : c.toNatClampNeg / 10 * 3 + c.toNatClampNeg % 10 = p := by cases hp; rfl
        have h3 : ¬ 3 ≤ c.toNatClampNeg % 10 := fun z => c2 (Or.inr (Or.inl z))
        have h4 : ¬ (c.toNatClampNeg < 10 ∧ c.toNatClampNeg % 10 = 2) := fun z => c1 (Or.inr (Or.inl z))
        have h5 : ¬ (10 ≤ c.toNatClampNeg ∧ ¬ c.toNatClampNeg % 10 = 2) := fun z => c1 (Or.inr (Or.inr z))
        omega
theorem ceF_up {op : Nat → Nat} {j v : Nat} (hv : v ≠ 0) : ∀ N, ceF (upN op j v) N = ceF op N + (if j < N ∧ op j = 0 then 1 else 0)
  | 0 => by rw [if_neg (by omega)]; rfl
  | N + 1 => by
    have ih := ceF_up (op := op) (j := j) hv N
    show (if upN op j v N = 0 then ceF (upN op j v) N else ceF (upN op j v) N + 1) = (if op N = 0 then ceF op N else ceF op N + 1) + _
    by_cases e : N = j
    · subst e
      rw [upN_at, if_neg hv, ih, if_neg (by omega)]
      by_cases o : op N = 0
      · rw [if_pos o, if_pos ⟨by omega, o⟩]
      · rw [if_neg o, if_neg (fun z => o z.2)]
    · rw [upN_ne _ _ e, ih]
      have h1 : (j < N ∧ op j = 0) ↔ (j < N + 1 ∧ op j = 0) := ⟨fun z => ⟨by omega, z.2⟩, fun z => ⟨by omega, z.2⟩⟩
      by_cases d : j < N ∧ op j = 0
      · rw [if_pos d, if_pos (h1.mp d)]
        by_cases o : op N = 0
        · rw [if_pos o, if_pos o]
        · rw [if_neg o, if_neg o]
      · rw [if_neg d, if_neg (fun z => d (h1.mpr z))]
        by_cases o : op N = 0
        · rw [if_pos o, if_pos o]
        · rw [if_neg o, if_neg o]

theorem op_equation {xs : Nat → Int32} {L m g : Nat} {i : Nat → Nat → Int32} {q : Nat → Nat → Int64} {t : Bool} {K : Nat × Nat} {Q : xRes → xMem → Prop} (hIV : IV xs L i q t) (hL3 : L ≤ 3072) (hm : m + 6 ≤ L) (nxt : ∀ g' i' q' t', IV xs L i' q' t' → Wx m_Law_law 1037 [some (.ref 4096), some (.ref 0), some (.ref 56), some (.ref 93), some (.int (nI m)), none, none, none] [] (94, g', i', q', RT t') K Q) : Wx m_Law_law 300 [some (.ref 4096), some (.ref 0), some (.ref 56), some (.ref 93), some (.int (nI m)), none, none, none] [] (94, g, i, q, RT t) (K.1 + 1, K.2 + 6) Q := by
  obtain ⟨n, sy, f, lv, kd, op, xp, yp, b, nt, md, iG, iL, iE, iB9, iT, iP, iM⟩ := id hIV
  have h96 := iM.2.2.2.1
  have h97 := iM.2.2.2.2
  have gw := iG.1.2.2
  have hn14 := gw.1
  refine ex_aload_n (i := 1) dL_law_300 rfl rfl ?_
  refine ex_aload_n (i := 0) dL_law_301 rfl rfl ?_
  refine ex_iload dL_law_302 rfl ?_
  refine ex_iconst (v := nI 1) dL_law_304 (by decide) ?_
  refine ex_iaddN dL_law_305 ?_
  refine ex_sldN rfl dL_law_306 h97 hL3 (by omega) (congrFun h96 _) ?_
  refine ex_aload_n (i := 0) dL_law_307 rfl rfl ?_
  refine ex_iload dL_law_308 rfl ?_
  refine ex_iconst (v := nI 2) dL_law_310 (by decide) ?_
  refine ex_iaddN dL_law_311 ?_
  refine ex_sldN rfl dL_law_312 h97 hL3 (by omega) (congrFun h96 _) ?_
  refine ex_aload_n (i := 0) dL_law_313 rfl rfl ?_
  refine ex_iload dL_law_314 rfl ?_
  refine ex_iconst (v := nI 3) dL_law_316 (by decide) ?_
  refine ex_iaddN dL_law_317 ?_
  refine ex_sldN rfl dL_law_318 h97 hL3 (by omega) (congrFun h96 _) ?_
  refine ex_aload_n (i := 0) dL_law_319 rfl rfl ?_
  refine ex_iload dL_law_320 rfl ?_
  refine ex_iconst (v := nI 4) dL_law_322 (by decide) ?_
  refine ex_iaddN dL_law_323 ?_
  refine ex_sldN rfl dL_law_324 h97 hL3 (by omega) (congrFun h96 _) ?_
  refine ex_aload_n (i := 0) dL_law_325 rfl rfl ?_
  refine ex_iload dL_law_326 rfl ?_
  refine ex_iconst (v := nI 5) dL_law_328 (by decide) ?_
  refine ex_iaddN dL_law_329 ?_
  refine ex_sldN rfl dL_law_330 h97 hL3 (by omega) (congrFun h96 _) ?_
  refine ex_aload_n (i := 3) dL_law_331 rfl rfl ?_
  refine ex_cHL (P := fun k x g' i' q' t' => Wx m_Law_law 335 [some (.ref 4096), some (.ref 0), some (.ref 56), some (.ref 93), some (.int (nI m)), none, none, none] [.int (nI k)] (94, g', i', (if k = 0 then xUL q' 93 0 x else q'), RT t') K Q) (ν := m_Law_equation) (as := [.ref (0), .int (xs (m + 1)), .int (xs (m + 2)), .int (xs (m + 3)), .int (xs (m + 4)), .int (xs (m + 5)), .ref (93)]) (K := K) dL_law_332 lnH_equation mfH_equation npH_equation rfl rfl ⟨(Nat.le_of_ble_eq_true rfl), (Nat.le_of_ble_eq_true rfl), (Nat.le_of_ble_eq_true rfl), (Nat.le_of_ble_eq_true rfl)⟩ ?_ (fun k x g' i' q' t' _ _ h => h)
  refine sp_Law_equation ?_
  refine sp_Works_equation iM.1 iG.1 iE.1 (fun hx => ?_) (fun a ha ha2 hx => ?_) (fun a p k X Y b2 ha ha2 hd hp hk hk7 hx0 hx1 hY hy1 hb => ?_)
  · refine WQ.er ⟨_, _, _, _, rfl, by decide, ⟨rfl, rfl⟩, ex_thr (k' := 1) (by decide) (by decide) ?_⟩
    refine ex_istore (L' := [some (.ref (4096)), some (.ref (0)), some (.ref (56)), some (.ref (93)), some (.int (nI (m))), some (.int (nI (1))), none, none]) dL_law_335 (by decide) rfl ?_
    refine ex_aload_n (i := 2) dL_law_337 rfl rfl ?_
    refine ex_aload_n (i := 0) dL_law_338 rfl rfl ?_
    refine ex_iload dL_law_339 rfl ?_
    refine ex_iconst (v := nI 1) dL_law_341 (by decide) ?_
    refine ex_iaddN dL_law_342 ?_
    refine ex_sldN rfl dL_law_343 h97 hL3 (by omega) (congrFun h96 _) ?_
    refine ex_aload_n (i := 0) dL_law_344 rfl rfl ?_
    refine ex_iload dL_law_345 rfl ?_
    refine ex_iconst (v := nI 2) dL_law_347 (by decide) ?_
    refine ex_iaddN dL_law_348 ?_
    refine ex_sldN rfl dL_law_349 h97 hL3 (by omega) (congrFun h96 _) ?_
    refine ex_aload_n (i := 0) dL_law_350 rfl rfl ?_
    refine ex_iload dL_law_351 rfl ?_
    refine ex_iconst (v := nI 3) dL_law_353 (by decide) ?_
    refine ex_iaddN dL_law_354 ?_
    refine ex_sldN rfl dL_law_355 h97 hL3 (by omega) (congrFun h96 _) ?_
    refine ex_aload_n (i := 0) dL_law_356 rfl rfl ?_
    refine ex_iload dL_law_357 rfl ?_
    refine ex_iconst (v := nI 4) dL_law_359 (by decide) ?_
    refine ex_iaddN dL_law_360 ?_
    refine ex_sldN rfl dL_law_361 h97 hL3 (by omega) (congrFun h96 _) ?_
    refine ex_aload_n (i := 0) dL_law_362 rfl rfl ?_
    refine ex_iload dL_law_363 rfl ?_
    refine ex_iconst (v := nI 5) dL_law_365 (by decide) ?_
    refine ex_iaddN dL_law_366 ?_
    refine ex_sldN rfl dL_law_367 h97 hL3 (by omega) (congrFun h96 _) ?_
    refine ex_cVL (ν := m_Model_equation) (a := 56) (ci := 10) (as := [.int (xs (m + 1)), .int (xs (m + 2)), .int (xs (m + 3)), .int (xs (m + 4)), .int (xs (m + 5))]) dL_law_368 ln_Law_81 mf_Model_equation rfl (Nat.le_of_ble_eq_true rfl) rfl rfl np_Model_equation rfl rfl ⟨(Nat.le_of_ble_eq_true rfl), (Nat.le_of_ble_eq_true rfl), (Nat.le_of_ble_eq_true rfl), (Nat.le_of_ble_eq_true rfl)⟩ ?_
    refine sp_Model_equation_bad iG.2.1 (fun _ i1 hf hc => ?_) (fun z => absurd z hx) (fun a h1 h2 => absurd ⟨a, h1, h2⟩ hx)
    exact ⟨_, rfl, ⟨hf.1 4096 (by decide) (by decide), hf.1 4097 (by decide) (by decide)⟩, tail_equation hc (by decide) (fun z => absurd z (by decide)) (nxt _ _ _ _ (hIV.fm (hf.mono (by decide) (by decide)) (fun c hc => rfl)))⟩
    skip
  · refine WQ.er ⟨_, _, _, _, rfl, by decide, ⟨rfl, rfl⟩, ex_thr (k' := 2) (by decide) (by decide) ?_⟩
    refine ex_istore (L' := [some (.ref (4096)), some (.ref (0)), some (.ref (56)), some (.ref (93)), some (.int (nI (m))), some (.int (nI (2))), none, none]) dL_law_335 (by decide) rfl ?_
    refine ex_aload_n (i := 2) dL_law_337 rfl rfl ?_
    refine ex_aload_n (i := 0) dL_law_338 rfl rfl ?_
    refine ex_iload dL_law_339 rfl ?_
    refine ex_iconst (v := nI 1) dL_law_341 (by decide) ?_
    refine ex_iaddN dL_law_342 ?_
    refine ex_sldN rfl dL_law_343 h97 hL3 (by omega) (congrFun h96 _) ?_
    refine ex_aload_n (i := 0) dL_law_344 rfl rfl ?_
    refine ex_iload dL_law_345 rfl ?_
    refine ex_iconst (v := nI 2) dL_law_347 (by decide) ?_
    refine ex_iaddN dL_law_348 ?_
    refine ex_sldN rfl dL_law_349 h97 hL3 (by omega) (congrFun h96 _) ?_
    refine ex_aload_n (i := 0) dL_law_350 rfl rfl ?_
    refine ex_iload dL_law_351 rfl ?_
    refine ex_iconst (v := nI 3) dL_law_353 (by decide) ?_
    refine ex_iaddN dL_law_354 ?_
    refine ex_sldN rfl dL_law_355 h97 hL3 (by omega) (congrFun h96 _) ?_
    refine ex_aload_n (i := 0) dL_law_356 rfl rfl ?_
    refine ex_iload dL_law_357 rfl ?_
    refine ex_iconst (v := nI 4) dL_law_359 (by decide) ?_
    refine ex_iaddN dL_law_360 ?_
    refine ex_sldN rfl dL_law_361 h97 hL3 (by omega) (congrFun h96 _) ?_
    refine ex_aload_n (i := 0) dL_law_362 rfl rfl ?_
    refine ex_iload dL_law_363 rfl ?_
    refine ex_iconst (v := nI 5) dL_law_365 (by decide) ?_
    refine ex_iaddN dL_law_366 ?_
    refine ex_sldN rfl dL_law_367 h97 hL3 (by omega) (congrFun h96 _) ?_
    refine ex_cVL (ν := m_Model_equation) (a := 56) (ci := 10) (as := [.int (xs (m + 1)), .int (xs (m + 2)), .int (xs (m + 3)), .int (xs (m + 4)), .int (xs (m + 5))]) dL_law_368 ln_Law_81 mf_Model_equation rfl (Nat.le_of_ble_eq_true rfl) rfl rfl np_Model_equation rfl rfl ⟨(Nat.le_of_ble_eq_true rfl), (Nat.le_of_ble_eq_true rfl), (Nat.le_of_ble_eq_true rfl), (Nat.le_of_ble_eq_true rfl)⟩ ?_
    refine sp_Model_equation_bad iG.2.1 (fun z => absurd ⟨a, ha, ha2⟩ z) (fun _ i1 hf hc => ?_) (fun a9 h1 h2 => ?_)
    · exact ⟨_, rfl, ⟨hf.1 4096 (by decide) (by decide), hf.1 4097 (by decide) (by decide)⟩, tail_equation hc (by decide) (fun z => absurd z (by decide)) (nxt _ _ _ _ (hIV.fm (hf.mono (by decide) (by decide)) (fun c hc => rfl)))⟩
    · have e : a9 = a := by rw [ha] at h1; exact ((nI_eq (by omega) (by omega)).mp h1).symm
      rw [e]; exact hx
    skip
  · obtain ⟨p15, p3⟩ := plX_lt hp
    have hpd := dfX_pl hd hp
    obtain ⟨im, him⟩ : ∃ im, im = (if op (a * 15 + p) = 0 then xU (xU i 0 7 (nI 0)) 1 8 ((xU i 0 7 (nI 0)) 1 8 + nI 1) else (xU i 0 7 (nI 0))) := ⟨_, rfl⟩
    have hfm : Fr [0, 1] i im := by
      rw [him]; split
      · exact (Fr.rf.U (by decide)).U (by decide)
      · exact Fr.rf.U (by decide)
    have m07 : im 0 7 = nI 0 := by rw [him]; split <;> simp [xU, upd]
    have m08 : im 0 8 = i 0 8 := by rw [him]; split <;> simp [xU, upd]
    have m17 : im 1 7 = i 1 7 := by rw [him]; split <;> simp [xU, upd]
    have m18 : im 1 8 = nI (ceF (upN op (a * 15 + p) (k + 1)) 210) := by
      rw [him, ceF_up (by omega)]
      by_cases o : op (a * 15 + p) = 0
      · rw [if_pos o, if_pos ⟨by omega, o⟩]
        show (xU (xU i 0 7 (nI 0)) 1 8 ((xU i 0 7 (nI 0)) 1 8 + nI 1)) 1 8 = _
        have e : (xU (xU i 0 7 (nI 0)) 1 8 ((xU i 0 7 (nI 0)) 1 8 + nI 1)) 1 8 = i 1 8 + nI 1 := by simp [xU, upd]
        rw [e, iE.2.2.2.2.2, nI_add]
      · rw [if_neg o, if_neg (fun z => o z.2), Nat.add_zero]
        have e : (xU i 0 7 (nI 0)) 1 8 = i 1 8 := by simp [xU]
        rw [e]; exact iE.2.2.2.2.2
    rw [← him]
    obtain ⟨ic, hic⟩ : ∃ ic, ic = xU (xU (xU im 11 (a * 15 + p) (nI (k + 1))) 13 (a * 15 + p) (nI X)) 15 (a * 15 + p) (nI Y) := ⟨_, rfl⟩
    have hf2 : Fr [11, 13, 15] im ic := by rw [hic]; exact ((Fr.rf.U (by decide)).U (by decide)).U (by decide)
    have hfr : Fr [0, 1, 11, 13, 15] i ic := (hfm.mono (by decide)).tr (hf2.mono (by decide))
    have c11 : ic 11 = upd (i 11) (a * 15 + p) (nI (k + 1)) := by
      have e : ic 11 = upd (im 11) (a * 15 + p) (nI (k + 1)) := by rw [hic]; funext j; simp [xU]
      rw [e, hfm 11 (by decide)]
    have c13 : ic 13 = upd (i 13) (a * 15 + p) (nI X) := by
      have e : ic 13 = upd (im 13) (a * 15 + p) (nI X) := by rw [hic]; funext j; simp [xU]
      rw [e, hfm 13 (by decide)]
    have c15 : ic 15 = upd (i 15) (a * 15 + p) (nI Y) := by
      have e : ic 15 = upd (im 15) (a * 15 + p) (nI Y) := by rw [hic]; funext j; simp [xU]
      rw [e, hfm 15 (by decide)]
    have o0 : ic 0 = im 0 := hf2 0 (by decide)
    have o1 : ic 1 = im 1 := hf2 1 (by decide)
    rw [← hic]
    have h96b : ic 4096 = xs := (hfr 4096 (by decide)).trans h96
    have h97b : ic 4097 0 = nI L := by rw [hfr 4097 (by decide)]; exact h97
    have hX : 1 ≤ k → X < 15 ∧ X / 3 ≤ lnS (sy a) := fun z => plX_lt (hx1 z)
    have hY2 : 2 ≤ k → Y < 15 ∧ Y / 3 ≤ lnS (sy a) := fun z => plX_lt (hy1 z)
    have rg1 : RG ic n sy := ⟨by rw [hfr 56 (by decide)]; exact iG.2.1.1, by rw [hfr 57 (by decide)]; exact iG.2.1.2.1, by rw [hfr 58 (by decide)]; exact iG.2.1.2.2.1, by rw [hfr 59 (by decide)]; exact iG.2.1.2.2.2.1, gw⟩
    have re1 : RE ic op xp yp := by intro j hj; rw [hfr 62 (by decide), hfr 63 (by decide), hfr 64 (by decide)]; exact iE.2.1 j hj
    have vup : ∀ {c : Nat} {V : Nat → Nat} {v : Nat}, Vw i c 210 V → ic c = upd (i c) (a * 15 + p) (nI v) → Vw ic c 210 (upN V (a * 15 + p) v) := fun h e j hj => by
      rw [e]; unfold upd upN; split
      · rfl
      · exact h j hj
    refine WQ.ok ⟨_, _, _, _, _, rfl, rfl, ⟨hfr 4096 (by decide), hfr 4097 (by decide)⟩, ex_okk ?_⟩
    refine ex_istore (L' := [some (.ref (4096)), some (.ref (0)), some (.ref (56)), some (.ref (93)), some (.int (nI (m))), some (.int (nI (0))), none, none]) dL_law_335 (by decide) rfl ?_
    refine ex_aload_n (i := 2) dL_law_337 rfl rfl ?_
    refine ex_aload_n (i := 0) dL_law_338 rfl rfl ?_
    refine ex_iload dL_law_339 rfl ?_
    refine ex_iconst (v := nI 1) dL_law_341 (by decide) ?_
    refine ex_iaddN dL_law_342 ?_
    refine ex_sldN rfl dL_law_343 h97b hL3 (by omega) (congrFun h96b _) ?_
    refine ex_aload_n (i := 0) dL_law_344 rfl rfl ?_
    refine ex_iload dL_law_345 rfl ?_
    refine ex_iconst (v := nI 2) dL_law_347 (by decide) ?_
    refine ex_iaddN dL_law_348 ?_
    refine ex_sldN rfl dL_law_349 h97b hL3 (by omega) (congrFun h96b _) ?_
    refine ex_aload_n (i := 0) dL_law_350 rfl rfl ?_
    refine ex_iload dL_law_351 rfl ?_
    refine ex_iconst (v := nI 3) dL_law_353 (by decide) ?_
    refine ex_iaddN dL_law_354 ?_
    refine ex_sldN rfl dL_law_355 h97b hL3 (by omega) (congrFun h96b _) ?_
    refine ex_aload_n (i := 0) dL_law_356 rfl rfl ?_
    refine ex_iload dL_law_357 rfl ?_
    refine ex_iconst (v := nI 4) dL_law_359 (by decide) ?_
    refine ex_iaddN dL_law_360 ?_
    refine ex_sldN rfl dL_law_361 h97b hL3 (by omega) (congrFun h96b _) ?_
    refine ex_aload_n (i := 0) dL_law_362 rfl rfl ?_
    refine ex_iload dL_law_363 rfl ?_
    refine ex_iconst (v := nI 5) dL_law_365 (by decide) ?_
    refine ex_iaddN dL_law_366 ?_
    refine ex_sldN rfl dL_law_367 h97b hL3 (by omega) (congrFun h96b _) ?_
    refine ex_cVL (ν := m_Model_equation) (a := 56) (ci := 10) (as := [.int (xs (m + 1)), .int (xs (m + 2)), .int (xs (m + 3)), .int (xs (m + 4)), .int (xs (m + 5))]) dL_law_368 ln_Law_81 mf_Model_equation rfl (Nat.le_of_ble_eq_true rfl) rfl rfl np_Model_equation rfl rfl ⟨(Nat.le_of_ble_eq_true rfl), (Nat.le_of_ble_eq_true rfl), (Nat.le_of_ble_eq_true rfl), (Nat.le_of_ble_eq_true rfl)⟩ ?_
    rw [ha, hk]
    refine sp_Model_equation_ok rg1 re1 ha2 hd hp hk7 hx0 hx1 hy1 (fun b9 i2 hb9 hf hc h9 re2 => ?_)
    have k0 : i2 0 = ic 0 := hf.1 0 (by decide) (by decide)
    have k1 : i2 1 = ic 1 := hf.1 1 (by decide) (by decide)
    have k32 : i2 32 = i 32 := (hf.1 32 (by decide) (by decide)).trans (hfr 32 (by decide))
    have iv : IV xs L i2 (xUL q 93 0 (nI b2).toInt64) t := ⟨n, sy, f, lv, kd, upN op (a * 15 + p) (k + 1), upN xp (a * 15 + p) X, upN yp (a * 15 + p) Y, 0, nt, md, iG.fr (.of hfr hf (by decide) (by decide) (by decide)) (by rw [k1, o1]; exact m17), iL.fr (.of hfr hf (by decide) (by decide) (by decide)), ⟨⟨(vup iE.1.1 c11).eq (hf.1 11 (by decide) (by decide)), (vup iE.1.2.1 c13).eq (hf.1 13 (by decide) (by decide)), (vup iE.1.2.2.1 c15).eq (hf.1 15 (by decide) (by decide)), fun j => by unfold upN; split; omega; exact iE.1.2.2.2.1 j, fun j h2 => by
        by_cases e : j = a * 15 + p
        · rw [e, upN_at] at h2 ⊢; exact (hX (by omega)).1
        · rw [upN_ne _ _ e] at h2 ⊢; exact iE.1.2.2.2.2.1 j h2, fun j h3 => by
        by_cases e : j = a * 15 + p
        · rw [e, upN_at] at h3 ⊢; exact (hY2 (by omega)).1
        · rw [upN_ne _ _ e] at h3 ⊢; exact iE.1.2.2.2.2.2 j h3⟩, re2, fun r p9 hr hp9 => by
        by_cases e : r * 15 + p9 = a * 15 + p
        · have er : r = a := by omega
          rw [e, upN_at, upN_at, upN_at, er]
          exact ⟨fun z => (hX (by omega)).2, fun z => (hY2 (by omega)).2, fun z => hY (by omega)⟩
        · rw [upN_ne _ _ e, upN_ne _ _ e, upN_ne _ _ e]; exact iE.2.2.1 r p9 hr hp9, fun r k9 hr hk1 hk4 => by
        obtain ⟨e1, e2⟩ := iE.2.2.2.1 r k9 hr hk1 hk4
        exact ⟨by rw [upN_ne _ _ (by omega)]; exact e1, by rw [upN_ne _ _ (by omega)]; exact e2⟩, fun j hj => by rw [upN_ne _ _ (by omega)]; exact iE.2.2.2.2.1 j hj, by rw [k1, o1]; exact m18⟩, ⟨⟨by rw [k0, o0]; exact m07, h9, by decide⟩, fun z => absurd z (by decide)⟩, iT.fr (.of hfr hf (by decide) (by decide) (by decide)) (by rw [k32]), iP.fr (.of hfr hf (by decide) (by decide) (by decide)) (fun c hc => qU_ne (by rintro rfl; exact absurd hc (by decide))), iM.fr (.of hfr hf (by decide) (by decide) (by decide)) (by rw [k0, o0]; exact m08)⟩
    exact ⟨_, rfl, ⟨hf.1 4096 (by decide) (by decide), hf.1 4097 (by decide) (by decide)⟩, tail_equation hc (by decide) (fun _ => by rw [qU_at, hb9, hb]) (nxt _ _ _ _ (iv))⟩
    skip
