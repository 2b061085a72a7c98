/-! ===== the law's calls: tails, and the calls that change nothing ===== -/
theorem lg_rf {x : Int64} : lg_cmp x x = 0 := by unfold lg_cmp; simp
theorem ex_thr {μ : xMeth} {pc : Nat} {L : xLoc} {k k' g : Nat} {i : Nat → Nat → Int32} {q q2 : Nat → Nat → Int64} {t : Bool} {K : Nat × Nat} {Q : xRes → xMem → Prop} (hk : k = k') (h0 : k' ≠ 0) (h : Wx μ pc L [.int (nI k')] (94, g, i, q, RT t) K Q) : Wx μ pc L [.int (nI k)] (94, g, i, (if k = 0 then q2 else q), RT t) K Q := by
  subst hk; rw [if_neg h0]; exact h
theorem ex_okk {μ : xMeth} {pc : Nat} {L : xLoc} {g : Nat} {i : Nat → Nat → Int32} {q q2 : Nat → Nat → Int64} {t : Bool} {K : Nat × Nat} {Q : xRes → xMem → Prop} (h : Wx μ pc L [.int (nI 0)] (94, g, i, q2, RT t) K Q) : Wx μ pc L [.int (nI 0)] (94, g, i, (if 0 = 0 then q2 else q), RT t) K Q := by
  rw [if_pos rfl]; exact h
theorem qU_ne {q : Nat → Nat → Int64} {a k : Nat} {x : Int64} {c : Nat} (h : c ≠ a) : xUL q a k x c = q c := if_neg h
theorem qU_at {q : Nat → Nat → Int64} {a k : Nat} {x : Int64} : xUL q a k x a k = x := by unfold xUL; rw [if_pos rfl]; simp [vp_updL]
theorem smX_no {s : Nat} (h : 1 ≤ s ∧ s ≤ 6 ∨ 8 ≤ s ∧ s ≤ 13) : ¬ smX (nI s) = 0 := by
  unfold smX
  rcases h with h | h
  · have e : tmX (nI s) = 1 := by unfold tmX; rw [nI_toInt (by omega), if_pos (by omega)]
    rw [if_neg (fun z => by rw [e] at z; exact absurd z.1 (by decide))]; decide
  · have e : ntX (nI s) = 1 := by unfold ntX; rw [nI_toInt (by omega), if_pos (by omega)]
    rw [if_neg (fun z => by rw [e] at z; exact absurd z.2 (by decide))]; decide
theorem tmX_no {s : Nat} (h : 1 ≤ s ∧ s ≤ 6) : ¬ tmX (nI s) = 0 := by
  unfold tmX; rw [nI_toInt (by omega), if_pos (by omega)]; decide
theorem ntX_no {s : Nat} (h : 8 ≤ s ∧ s ≤ 13) : ¬ ntX (nI s) = 0 := by
  unfold ntX; rw [nI_toInt (by omega), if_pos (by omega)]; decide
/-- .. for all calls: behind the reference's answer -/

theorem tail_rule {k m g : Nat} {b : Int32} {i : Nat → Nat → Int32} {q : Nat → Nat → Int64} {t : Bool} {K : Nat × Nat} {Q : xRes → xMem → Prop} (h45 : i 56 45 = nI k) (hk : k < 4) (hb : k = 0 → b.toInt64 = q 93 0) (nxt : Wx m_Law_law 1037 [some (.ref 4096), some (.ref 0), some (.ref 56), some (.ref 93), some (.int (nI m)), none, none, none] [] (94, g, i, q, RT t) K Q) : Wx m_Law_law 187 [some (.ref 4096), some (.ref 0), some (.ref 56), some (.ref 93), some (.int (nI m)), some (.int (nI k)), none, none] [.int b] (94, g, i, q, RT t) K Q := by
  refine ex_istore (L' := [some (.ref (4096)), some (.ref (0)), some (.ref (56)), some (.ref (93)), some (.int (nI (m))), some (.int (nI (k))), some (.int (b)), none]) dL_law_187 (by decide) rfl ?_
  refine ex_aload_n (i := 2) dL_law_189 rfl rfl ?_
  refine ex_cVL (ν := m_Model_thrown) (a := 56) (ci := 10) (as := []) dL_law_190 ln_Law_72 mf_Model_thrown rfl (Nat.le_of_ble_eq_true rfl) rfl rfl np_Model_thrown rfl rfl ⟨(Nat.le_of_ble_eq_true rfl), (Nat.le_of_ble_eq_true rfl), (Nat.le_of_ble_eq_true rfl), (Nat.le_of_ble_eq_true rfl)⟩ ?_
  refine sp_Model_thrown ?_
  refine ⟨_, rfl, ⟨rfl, rfl⟩, ?_⟩
  refine ex_asN (a := k) h45 ?_
  refine ex_iload dL_law_193 rfl ?_
  refine ex_icmp_eqN (tgt := 200) dL_law_195 (by decide) (by omega) (by omega) (fun h195 => ?_) (fun h195 => by exact absurd rfl h195)
  refine ex_iload dL_law_200 rfl ?_
  refine ex_if_neN (tgt := 217) dL_law_202 (by decide) (by omega) (fun h202 => ?_) (fun h202 => ?_)
  · refine ex_goto (tgt := 1037) dL_law_217 (by decide) ?_
    exact ex_less (L' := [some (.ref 4096), some (.ref 0), some (.ref 56), some (.ref 93), some (.int (nI m)), none, none, none]) (by simp [xSub]) nxt
  · refine ex_aload_n (i := 3) dL_law_205 rfl rfl ?_
    refine ex_iconst (v := nI 0) dL_law_206 (by decide) ?_
    refine ex_laldN dL_law_207 rfl (by decide) (by omega) rfl ?_
    refine ex_iload dL_law_208 rfl ?_
    refine ex_i2l dL_law_210 ?_
    refine ex_lcmp dL_law_211 ?_
    refine ex_if_eq (tgt := 217) dL_law_212 (by decide) (fun h212 => ?_) (fun h212 => by exact absurd (by rw [hb (by omega)]; exact lg_rf) h212)
    refine ex_goto (tgt := 1037) dL_law_217 (by decide) ?_
    exact ex_less (L' := [some (.ref 4096), some (.ref 0), some (.ref 56), some (.ref 93), some (.int (nI m)), none, none, none]) (by simp [xSub]) nxt
theorem tail_level {k m g : Nat} {b : Int32} {i : Nat → Nat → Int32} {q : Nat → Nat → Int64} {t : Bool} {K : Nat × Nat} {Q : xRes → xMem → Prop} (h45 : i 56 45 = nI k) (hk : k < 4) (hb : k = 0 → b.toInt64 = q 93 0) (nxt : Wx m_Law_law 1037 [some (.ref 4096), some (.ref 0), some (.ref 56), some (.ref 93), some (.int (nI m)), none, none, none] [] (94, g, i, q, RT t) K Q) : Wx m_Law_law 267 [some (.ref 4096), some (.ref 0), some (.ref 56), some (.ref 93), some (.int (nI m)), some (.int (nI k)), none, none] [.int b] (94, g, i, q, RT t) K Q := by
  refine ex_istore (L' := [some (.ref (4096)), some (.ref (0)), some (.ref (56)), some (.ref (93)), some (.int (nI (m))), some (.int (nI (k))), some (.int (b)), none]) dL_law_267 (by decide) rfl ?_
  refine ex_aload_n (i := 2) dL_law_269 rfl rfl ?_
  refine ex_cVL (ν := m_Model_thrown) (a := 56) (ci := 10) (as := []) dL_law_270 ln_Law_72 mf_Model_thrown rfl (Nat.le_of_ble_eq_true rfl) rfl rfl np_Model_thrown rfl rfl ⟨(Nat.le_of_ble_eq_true rfl), (Nat.le_of_ble_eq_true rfl), (Nat.le_of_ble_eq_true rfl), (Nat.le_of_ble_eq_true rfl)⟩ ?_
  refine sp_Model_thrown ?_
  refine ⟨_, rfl, ⟨rfl, rfl⟩, ?_⟩
  refine ex_asN (a := k) h45 ?_
  refine ex_iload dL_law_273 rfl ?_
  refine ex_icmp_eqN (tgt := 280) dL_law_275 (by decide) (by omega) (by omega) (fun h275 => ?_) (fun h275 => by exact absurd rfl h275)
  refine ex_iload dL_law_280 rfl ?_
  refine ex_if_neN (tgt := 297) dL_law_282 (by decide) (by omega) (fun h282 => ?_) (fun h282 => ?_)
  · refine ex_goto (tgt := 1037) dL_law_297 (by decide) ?_
    exact ex_less (L' := [some (.ref 4096), some (.ref 0), some (.ref 56), some (.ref 93), some (.int (nI m)), none, none, none]) (by simp [xSub]) nxt
  · refine ex_aload_n (i := 3) dL_law_285 rfl rfl ?_
    refine ex_iconst (v := nI 0) dL_law_286 (by decide) ?_
    refine ex_laldN dL_law_287 rfl (by decide) (by omega) rfl ?_
    refine ex_iload dL_law_288 rfl ?_
    refine ex_i2l dL_law_290 ?_
    refine ex_lcmp dL_law_291 ?_
    refine ex_if_eq (tgt := 297) dL_law_292 (by decide) (fun h292 => ?_) (fun h292 => by exact absurd (by rw [hb (by omega)]; exact lg_rf) h292)
    refine ex_goto (tgt := 1037) dL_law_297 (by decide) ?_
    exact ex_less (L' := [some (.ref 4096), some (.ref 0), some (.ref 56), some (.ref 93), some (.int (nI m)), none, none, none]) (by simp [xSub]) nxt
theorem tail_equation {k m g : Nat} {b : Int32} {i : Nat → Nat → Int32} {q : Nat → Nat → Int64} {t : Bool} {K : Nat × Nat} {Q : xRes → xMem → Prop} (h45 : i 56 45 = nI k) (hk : k < 4) (hb : k = 0 → b.toInt64 = q 93 0) (nxt : Wx m_Law_law 1037 [some (.ref 4096), some (.ref 0), some (.ref 56), some (.ref 93), some (.int (nI m)), none, none, none] [] (94, g, i, q, RT t) K Q) : Wx m_Law_law 371 [some (.ref 4096), some (.ref 0), some (.ref 56), some (.ref 93), some (.int (nI m)), some (.int (nI k)), none, none] [.int b] (94, g, i, q, RT t) K Q := by
  refine ex_istore (L' := [some (.ref (4096)), some (.ref (0)), some (.ref (56)), some (.ref (93)), some (.int (nI (m))), some (.int (nI (k))), some (.int (b)), none]) dL_law_371 (by decide) rfl ?_
  refine ex_aload_n (i := 2) dL_law_373 rfl rfl ?_
  refine ex_cVL (ν := m_Model_thrown) (a := 56) (ci := 10) (as := []) dL_law_374 ln_Law_72 mf_Model_thrown rfl (Nat.le_of_ble_eq_true rfl) rfl rfl np_Model_thrown rfl rfl ⟨(Nat.le_of_ble_eq_true rfl), (Nat.le_of_ble_eq_true rfl), (Nat.le_of_ble_eq_true rfl), (Nat.le_of_ble_eq_true rfl)⟩ ?_
  refine sp_Model_thrown ?_
  refine ⟨_, rfl, ⟨rfl, rfl⟩, ?_⟩
  refine ex_asN (a := k) h45 ?_
  refine ex_iload dL_law_377 rfl ?_
  refine ex_icmp_eqN (tgt := 384) dL_law_379 (by decide) (by omega) (by omega) (fun h379 => ?_) (fun h379 => by exact absurd rfl h379)
  refine ex_iload dL_law_384 rfl ?_
  refine ex_if_neN (tgt := 401) dL_law_386 (by decide) (by omega) (fun h386 => ?_) (fun h386 => ?_)
  · refine ex_goto (tgt := 1037) dL_law_401 (by decide) ?_
    exact ex_less (L' := [some (.ref 4096), some (.ref 0), some (.ref 56), some (.ref 93), some (.int (nI m)), none, none, none]) (by simp [xSub]) nxt
  · refine ex_aload_n (i := 3) dL_law_389 rfl rfl ?_
    refine ex_iconst (v := nI 0) dL_law_390 (by decide) ?_
    refine ex_laldN dL_law_391 rfl (by decide) (by omega) rfl ?_
    refine ex_iload dL_law_392 rfl ?_
    refine ex_i2l dL_law_394 ?_
    refine ex_lcmp dL_law_395 ?_
    refine ex_if_eq (tgt := 401) dL_law_396 (by decide) (fun h396 => ?_) (fun h396 => by exact absurd (by rw [hb (by omega)]; exact lg_rf) h396)
    refine ex_goto (tgt := 1037) dL_law_401 (by decide) ?_
    exact ex_less (L' := [some (.ref 4096), some (.ref 0), some (.ref 56), some (.ref 93), some (.int (nI m)), none, none, none]) (by simp [xSub]) nxt
theorem tail_build {k m g : Nat} {b : Int32} {i : Nat → Nat → Int32} {q : Nat → Nat → Int64} {t : Bool} {K : Nat × Nat} {Q : xRes → xMem → Prop} (h45 : i 56 45 = nI k) (hk : k < 4) (hb : k = 0 → b.toInt64 = q 93 0) (nxt : Wx m_Law_law 1037 [some (.ref 4096), some (.ref 0), some (.ref 56), some (.ref 93), some (.int (nI m)), none, none, none] [] (94, g, i, q, RT t) K Q) : Wx m_Law_law 415 [some (.ref 4096), some (.ref 0), some (.ref 56), some (.ref 93), some (.int (nI m)), some (.int (nI k)), none, none] [.int b] (94, g, i, q, RT t) K Q := by
  refine ex_istore (L' := [some (.ref (4096)), some (.ref (0)), some (.ref (56)), some (.ref (93)), some (.int (nI (m))), some (.int (nI (k))), some (.int (b)), none]) dL_law_415 (by decide) rfl ?_
  refine ex_aload_n (i := 2) dL_law_417 rfl rfl ?_
  refine ex_cVL (ν := m_Model_thrown) (a := 56) (ci := 10) (as := []) dL_law_418 ln_Law_72 mf_Model_thrown rfl (Nat.le_of_ble_eq_true rfl) rfl rfl np_Model_thrown rfl rfl ⟨(Nat.le_of_ble_eq_true rfl), (Nat.le_of_ble_eq_true rfl), (Nat.le_of_ble_eq_true rfl), (Nat.le_of_ble_eq_true rfl)⟩ ?_
  refine sp_Model_thrown ?_
  refine ⟨_, rfl, ⟨rfl, rfl⟩, ?_⟩
  refine ex_asN (a := k) h45 ?_
  refine ex_iload dL_law_421 rfl ?_
  refine ex_icmp_eqN (tgt := 428) dL_law_423 (by decide) (by omega) (by omega) (fun h423 => ?_) (fun h423 => by exact absurd rfl h423)
  refine ex_iload dL_law_428 rfl ?_
  refine ex_if_neN (tgt := 445) dL_law_430 (by decide) (by omega) (fun h430 => ?_) (fun h430 => ?_)
  · refine ex_goto (tgt := 1037) dL_law_445 (by decide) ?_
    exact ex_less (L' := [some (.ref 4096), some (.ref 0), some (.ref 56), some (.ref 93), some (.int (nI m)), none, none, none]) (by simp [xSub]) nxt
  · refine ex_aload_n (i := 3) dL_law_433 rfl rfl ?_
    refine ex_iconst (v := nI 0) dL_law_434 (by decide) ?_
    refine ex_laldN dL_law_435 rfl (by decide) (by omega) rfl ?_
    refine ex_iload dL_law_436 rfl ?_
    refine ex_i2l dL_law_438 ?_
    refine ex_lcmp dL_law_439 ?_
    refine ex_if_eq (tgt := 445) dL_law_440 (by decide) (fun h440 => ?_) (fun h440 => by exact absurd (by rw [hb (by omega)]; exact lg_rf) h440)
    refine ex_goto (tgt := 1037) dL_law_445 (by decide) ?_
    exact ex_less (L' := [some (.ref 4096), some (.ref 0), some (.ref 56), some (.ref 93), some (.int (nI m)), none, none, none]) (by simp [xSub]) nxt
theorem tail_first {k m g : Nat} {b : Int32} {i : Nat → Nat → Int32} {q : Nat → Nat → Int64} {t : Bool} {K : Nat × Nat} {Q : xRes → xMem → Prop} (h45 : i 56 45 = nI k) (hk : k < 4) (hb : k = 0 → b.toInt64 = q 93 0) (nxt : Wx m_Law_law 1037 [some (.ref 4096), some (.ref 0), some (.ref 56), some (.ref 93), some (.int (nI m)), none, none, none] [] (94, g, i, q, RT t) K Q) : Wx m_Law_law 471 [some (.ref 4096), some (.ref 0), some (.ref 56), some (.ref 93), some (.int (nI m)), some (.int (nI k)), none, none] [.int b] (94, g, i, q, RT t) K Q := by
  refine ex_istore (L' := [some (.ref (4096)), some (.ref (0)), some (.ref (56)), some (.ref (93)), some (.int (nI (m))), some (.int (nI (k))), some (.int (b)), none]) dL_law_471 (by decide) rfl ?_
  refine ex_aload_n (i := 2) dL_law_473 rfl rfl ?_
  refine ex_cVL (ν := m_Model_thrown) (a := 56) (ci := 10) (as := []) dL_law_474 ln_Law_72 mf_Model_thrown rfl (Nat.le_of_ble_eq_true rfl) rfl rfl np_Model_thrown rfl rfl ⟨(Nat.le_of_ble_eq_true rfl), (Nat.le_of_ble_eq_true rfl), (Nat.le_of_ble_eq_true rfl), (Nat.le_of_ble_eq_true rfl)⟩ ?_
  refine sp_Model_thrown ?_
  refine ⟨_, rfl, ⟨rfl, rfl⟩, ?_⟩
  refine ex_asN (a := k) h45 ?_
  refine ex_iload dL_law_477 rfl ?_
  refine ex_icmp_eqN (tgt := 484) dL_law_479 (by decide) (by omega) (by omega) (fun h479 => ?_) (fun h479 => by exact absurd rfl h479)
  refine ex_iload dL_law_484 rfl ?_
  refine ex_if_neN (tgt := 501) dL_law_486 (by decide) (by omega) (fun h486 => ?_) (fun h486 => ?_)
  · refine ex_goto (tgt := 1037) dL_law_501 (by decide) ?_
    exact ex_less (L' := [some (.ref 4096), some (.ref 0), some (.ref 56), some (.ref 93), some (.int (nI m)), none, none, none]) (by simp [xSub]) nxt
  · refine ex_aload_n (i := 3) dL_law_489 rfl rfl ?_
    refine ex_iconst (v := nI 0) dL_law_490 (by decide) ?_
    refine ex_laldN dL_law_491 rfl (by decide) (by omega) rfl ?_
    refine ex_iload dL_law_492 rfl ?_
    refine ex_i2l dL_law_494 ?_
    refine ex_lcmp dL_law_495 ?_
    refine ex_if_eq (tgt := 501) dL_law_496 (by decide) (fun h496 => ?_) (fun h496 => by exact absurd (by rw [hb (by omega)]; exact lg_rf) h496)
    refine ex_goto (tgt := 1037) dL_law_501 (by decide) ?_
    exact ex_less (L' := [some (.ref 4096), some (.ref 0), some (.ref 56), some (.ref 93), some (.int (nI m)), none, none, none]) (by simp [xSub]) nxt
theorem tail_action {k m g : Nat} {b : Int32} {i : Nat → Nat → Int32} {q : Nat → Nat → Int64} {t : Bool} {K : Nat × Nat} {Q : xRes → xMem → Prop} (h45 : i 56 45 = nI k) (hk : k < 4) (hb : k = 0 → b.toInt64 = q 93 0) (nxt : Wx m_Law_law 1037 [some (.ref 4096), some (.ref 0), some (.ref 56), some (.ref 93), some (.int (nI m)), none, none, none] [] (94, g, i, q, RT t) K Q) : Wx m_Law_law 539 [some (.ref 4096), some (.ref 0), some (.ref 56), some (.ref 93), some (.int (nI m)), some (.int (nI k)), none, none] [.int b] (94, g, i, q, RT t) K Q := by
  refine ex_istore (L' := [some (.ref (4096)), some (.ref (0)), some (.ref (56)), some (.ref (93)), some (.int (nI (m))), some (.int (nI (k))), some (.int (b)), none]) dL_law_539 (by decide) rfl ?_
  refine ex_aload_n (i := 2) dL_law_541 rfl rfl ?_
  refine ex_cVL (ν := m_Model_thrown) (a := 56) (ci := 10) (as := []) dL_law_542 ln_Law_72 mf_Model_thrown rfl (Nat.le_of_ble_eq_true rfl) rfl rfl np_Model_thrown rfl rfl ⟨(Nat.le_of_ble_eq_true rfl), (Nat.le_of_ble_eq_true rfl), (Nat.le_of_ble_eq_true rfl), (Nat.le_of_ble_eq_true rfl)⟩ ?_
  refine sp_Model_thrown ?_
  refine ⟨_, rfl, ⟨rfl, rfl⟩, ?_⟩
  refine ex_asN (a := k) h45 ?_
  refine ex_iload dL_law_545 rfl ?_
  refine ex_icmp_eqN (tgt := 552) dL_law_547 (by decide) (by omega) (by omega) (fun h547 => ?_) (fun h547 => by exact absurd rfl h547)
  refine ex_iload dL_law_552 rfl ?_
  refine ex_if_neN (tgt := 569) dL_law_554 (by decide) (by omega) (fun h554 => ?_) (fun h554 => ?_)
  · refine ex_goto (tgt := 1037) dL_law_569 (by decide) ?_
    exact ex_less (L' := [some (.ref 4096), some (.ref 0), some (.ref 56), some (.ref 93), some (.int (nI m)), none, none, none]) (by simp [xSub]) nxt
  · refine ex_aload_n (i := 3) dL_law_557 rfl rfl ?_
    refine ex_iconst (v := nI 0) dL_law_558 (by decide) ?_
    refine ex_laldN dL_law_559 rfl (by decide) (by omega) rfl ?_
    refine ex_iload dL_law_560 rfl ?_
    refine ex_i2l dL_law_562 ?_
    refine ex_lcmp dL_law_563 ?_
    refine ex_if_eq (tgt := 569) dL_law_564 (by decide) (fun h564 => ?_) (fun h564 => by exact absurd (by rw [hb (by omega)]; exact lg_rf) h564)
    refine ex_goto (tgt := 1037) dL_law_569 (by decide) ?_
    exact ex_less (L' := [some (.ref 4096), some (.ref 0), some (.ref 56), some (.ref 93), some (.int (nI m)), none, none, none]) (by simp [xSub]) nxt
theorem tail_go {k m g : Nat} {b : Int32} {i : Nat → Nat → Int32} {q : Nat → Nat → Int64} {t : Bool} {K : Nat × Nat} {Q : xRes → xMem → Prop} (h45 : i 56 45 = nI k) (hk : k < 4) (hb : k = 0 → b.toInt64 = q 93 0) (nxt : Wx m_Law_law 1037 [some (.ref 4096), some (.ref 0), some (.ref 56), some (.ref 93), some (.int (nI m)), none, none, none] [] (94, g, i, q, RT t) K Q) : Wx m_Law_law 607 [some (.ref 4096), some (.ref 0), some (.ref 56), some (.ref 93), some (.int (nI m)), some (.int (nI k)), none, none] [.int b] (94, g, i, q, RT t) K Q := by
  refine ex_istore (L' := [some (.ref (4096)), some (.ref (0)), some (.ref (56)), some (.ref (93)), some (.int (nI (m))), some (.int (nI (k))), some (.int (b)), none]) dL_law_607 (by decide) rfl ?_
  refine ex_aload_n (i := 2) dL_law_609 rfl rfl ?_
  refine ex_cVL (ν := m_Model_thrown) (a := 56) (ci := 10) (as := []) dL_law_610 ln_Law_72 mf_Model_thrown rfl (Nat.le_of_ble_eq_true rfl) rfl rfl np_Model_thrown rfl rfl ⟨(Nat.le_of_ble_eq_true rfl), (Nat.le_of_ble_eq_true rfl), (Nat.le_of_ble_eq_true rfl), (Nat.le_of_ble_eq_true rfl)⟩ ?_
  refine sp_Model_thrown ?_
  refine ⟨_, rfl, ⟨rfl, rfl⟩, ?_⟩
  refine ex_asN (a := k) h45 ?_
  refine ex_iload dL_law_613 rfl ?_
  refine ex_icmp_eqN (tgt := 620) dL_law_615 (by decide) (by omega) (by omega) (fun h615 => ?_) (fun h615 => by exact absurd rfl h615)
  refine ex_iload dL_law_620 rfl ?_
  refine ex_if_neN (tgt := 637) dL_law_622 (by decide) (by omega) (fun h622 => ?_) (fun h622 => ?_)
  · refine ex_goto (tgt := 1037) dL_law_637 (by decide) ?_
    exact ex_less (L' := [some (.ref 4096), some (.ref 0), some (.ref 56), some (.ref 93), some (.int (nI m)), none, none, none]) (by simp [xSub]) nxt
  · refine ex_aload_n (i := 3) dL_law_625 rfl rfl ?_
    refine ex_iconst (v := nI 0) dL_law_626 (by decide) ?_
    refine ex_laldN dL_law_627 rfl (by decide) (by omega) rfl ?_
    refine ex_iload dL_law_628 rfl ?_
    refine ex_i2l dL_law_630 ?_
    refine ex_lcmp dL_law_631 ?_
    refine ex_if_eq (tgt := 637) dL_law_632 (by decide) (fun h632 => ?_) (fun h632 => by exact absurd (by rw [hb (by omega)]; exact lg_rf) h632)
    refine ex_goto (tgt := 1037) dL_law_637 (by decide) ?_
    exact ex_less (L' := [some (.ref 4096), some (.ref 0), some (.ref 56), some (.ref 93), some (.int (nI m)), none, none, none]) (by simp [xSub]) nxt
theorem tail_lookaheads {k m g : Nat} {b : Int32} {i : Nat → Nat → Int32} {q : Nat → Nat → Int64} {t : Bool} {K : Nat × Nat} {Q : xRes → xMem → Prop} (h45 : i 56 45 = nI k) (hk : k < 4) (hb : k = 0 → b.toInt64 = q 93 0) (nxt : Wx m_Law_law 1037 [some (.ref 4096), some (.ref 0), some (.ref 56), some (.ref 93), some (.int (nI m)), none, none, none] [] (94, g, i, q, RT t) K Q) : Wx m_Law_law 675 [some (.ref 4096), some (.ref 0), some (.ref 56), some (.ref 93), some (.int (nI m)), some (.int (nI k)), none, none] [.int b] (94, g, i, q, RT t) K Q := by
  refine ex_istore (L' := [some (.ref (4096)), some (.ref (0)), some (.ref (56)), some (.ref (93)), some (.int (nI (m))), some (.int (nI (k))), some (.int (b)), none]) dL_law_675 (by decide) rfl ?_
  refine ex_aload_n (i := 2) dL_law_677 rfl rfl ?_
  refine ex_cVL (ν := m_Model_thrown) (a := 56) (ci := 10) (as := []) dL_law_678 ln_Law_72 mf_Model_thrown rfl (Nat.le_of_ble_eq_true rfl) rfl rfl np_Model_thrown rfl rfl ⟨(Nat.le_of_ble_eq_true rfl), (Nat.le_of_ble_eq_true rfl), (Nat.le_of_ble_eq_true rfl), (Nat.le_of_ble_eq_true rfl)⟩ ?_
  refine sp_Model_thrown ?_
  refine ⟨_, rfl, ⟨rfl, rfl⟩, ?_⟩
  refine ex_asN (a := k) h45 ?_
  refine ex_iload dL_law_681 rfl ?_
  refine ex_icmp_eqN (tgt := 688) dL_law_683 (by decide) (by omega) (by omega) (fun h683 => ?_) (fun h683 => by exact absurd rfl h683)
  refine ex_iload dL_law_688 rfl ?_
  refine ex_if_neN (tgt := 705) dL_law_690 (by decide) (by omega) (fun h690 => ?_) (fun h690 => ?_)
  · refine ex_goto (tgt := 1037) dL_law_705 (by decide) ?_
    exact ex_less (L' := [some (.ref 4096), some (.ref 0), some (.ref 56), some (.ref 93), some (.int (nI m)), none, none, none]) (by simp [xSub]) nxt
  · refine ex_aload_n (i := 3) dL_law_693 rfl rfl ?_
    refine ex_iconst (v := nI 0) dL_law_694 (by decide) ?_
    refine ex_laldN dL_law_695 rfl (by decide) (by omega) rfl ?_
    refine ex_iload dL_law_696 rfl ?_
    refine ex_i2l dL_law_698 ?_
    refine ex_lcmp dL_law_699 ?_
    refine ex_if_eq (tgt := 705) dL_law_700 (by decide) (fun h700 => ?_) (fun h700 => by exact absurd (by rw [hb (by omega)]; exact lg_rf) h700)
    refine ex_goto (tgt := 1037) dL_law_705 (by decide) ?_
    exact ex_less (L' := [some (.ref 4096), some (.ref 0), some (.ref 56), some (.ref 93), some (.int (nI m)), none, none, none]) (by simp [xSub]) nxt
theorem tail_token {k m g : Nat} {b : Int32} {i : Nat → Nat → Int32} {q : Nat → Nat → Int64} {t : Bool} {K : Nat × Nat} {Q : xRes → xMem → Prop} (h45 : i 56 45 = nI k) (hk : k < 4) (hb : k = 0 → b.toInt64 = q 93 0) (nxt : Wx m_Law_law 1037 [some (.ref 4096), some (.ref 0), some (.ref 56), some (.ref 93), some (.int (nI m)), none, none, none] [] (94, g, i, q, RT t) K Q) : Wx m_Law_law 743 [some (.ref 4096), some (.ref 0), some (.ref 56), some (.ref 93), some (.int (nI m)), some (.int (nI k)), none, none] [.int b] (94, g, i, q, RT t) K Q := by
  refine ex_istore (L' := [some (.ref (4096)), some (.ref (0)), some (.ref (56)), some (.ref (93)), some (.int (nI (m))), some (.int (nI (k))), some (.int (b)), none]) dL_law_743 (by decide) rfl ?_
  refine ex_aload_n (i := 2) dL_law_745 rfl rfl ?_
  refine ex_cVL (ν := m_Model_thrown) (a := 56) (ci := 10) (as := []) dL_law_746 ln_Law_72 mf_Model_thrown rfl (Nat.le_of_ble_eq_true rfl) rfl rfl np_Model_thrown rfl rfl ⟨(Nat.le_of_ble_eq_true rfl), (Nat.le_of_ble_eq_true rfl), (Nat.le_of_ble_eq_true rfl), (Nat.le_of_ble_eq_true rfl)⟩ ?_
  refine sp_Model_thrown ?_
  refine ⟨_, rfl, ⟨rfl, rfl⟩, ?_⟩
  refine ex_asN (a := k) h45 ?_
  refine ex_iload dL_law_749 rfl ?_
  refine ex_icmp_eqN (tgt := 756) dL_law_751 (by decide) (by omega) (by omega) (fun h751 => ?_) (fun h751 => by exact absurd rfl h751)
  refine ex_iload dL_law_756 rfl ?_
  refine ex_if_neN (tgt := 773) dL_law_758 (by decide) (by omega) (fun h758 => ?_) (fun h758 => ?_)
  · refine ex_goto (tgt := 1037) dL_law_773 (by decide) ?_
    exact ex_less (L' := [some (.ref 4096), some (.ref 0), some (.ref 56), some (.ref 93), some (.int (nI m)), none, none, none]) (by simp [xSub]) nxt
  · refine ex_aload_n (i := 3) dL_law_761 rfl rfl ?_
    refine ex_iconst (v := nI 0) dL_law_762 (by decide) ?_
    refine ex_laldN dL_law_763 rfl (by decide) (by omega) rfl ?_
    refine ex_iload dL_law_764 rfl ?_
    refine ex_i2l dL_law_766 ?_
    refine ex_lcmp dL_law_767 ?_
    refine ex_if_eq (tgt := 773) dL_law_768 (by decide) (fun h768 => ?_) (fun h768 => by exact absurd (by rw [hb (by omega)]; exact lg_rf) h768)
    refine ex_goto (tgt := 1037) dL_law_773 (by decide) ?_
    exact ex_less (L' := [some (.ref 4096), some (.ref 0), some (.ref 56), some (.ref 93), some (.int (nI m)), none, none, none]) (by simp [xSub]) nxt
theorem tail_parse {k m g : Nat} {b : Int32} {i : Nat → Nat → Int32} {q : Nat → Nat → Int64} {t : Bool} {K : Nat × Nat} {Q : xRes → xMem → Prop} (h45 : i 56 45 = nI k) (hk : k < 4) (hb : k = 0 → b.toInt64 = q 93 0) (nxt : Wx m_Law_law 1037 [some (.ref 4096), some (.ref 0), some (.ref 56), some (.ref 93), some (.int (nI m)), none, none, none] [] (94, g, i, q, RT t) K Q) : Wx m_Law_law 787 [some (.ref 4096), some (.ref 0), some (.ref 56), some (.ref 93), some (.int (nI m)), some (.int (nI k)), none, none] [.int b] (94, g, i, q, RT t) K Q := by
  refine ex_istore (L' := [some (.ref (4096)), some (.ref (0)), some (.ref (56)), some (.ref (93)), some (.int (nI (m))), some (.int (nI (k))), some (.int (b)), none]) dL_law_787 (by decide) rfl ?_
  refine ex_aload_n (i := 2) dL_law_789 rfl rfl ?_
  refine ex_cVL (ν := m_Model_thrown) (a := 56) (ci := 10) (as := []) dL_law_790 ln_Law_72 mf_Model_thrown rfl (Nat.le_of_ble_eq_true rfl) rfl rfl np_Model_thrown rfl rfl ⟨(Nat.le_of_ble_eq_true rfl), (Nat.le_of_ble_eq_true rfl), (Nat.le_of_ble_eq_true rfl), (Nat.le_of_ble_eq_true rfl)⟩ ?_
  refine sp_Model_thrown ?_
  refine ⟨_, rfl, ⟨rfl, rfl⟩, ?_⟩
  refine ex_asN (a := k) h45 ?_
  refine ex_iload dL_law_793 rfl ?_
  refine ex_icmp_eqN (tgt := 800) dL_law_795 (by decide) (by omega) (by omega) (fun h795 => ?_) (fun h795 => by exact absurd rfl h795)
  refine ex_iload dL_law_800 rfl ?_
  refine ex_if_neN (tgt := 817) dL_law_802 (by decide) (by omega) (fun h802 => ?_) (fun h802 => ?_)
  · refine ex_goto (tgt := 1037) dL_law_817 (by decide) ?_
    exact ex_less (L' := [some (.ref 4096), some (.ref 0), some (.ref 56), some (.ref 93), some (.int (nI m)), none, none, none]) (by simp [xSub]) nxt
  · refine ex_aload_n (i := 3) dL_law_805 rfl rfl ?_
    refine ex_iconst (v := nI 0) dL_law_806 (by decide) ?_
    refine ex_laldN dL_law_807 rfl (by decide) (by omega) rfl ?_
    refine ex_iload dL_law_808 rfl ?_
    refine ex_i2l dL_law_810 ?_
    refine ex_lcmp dL_law_811 ?_
    refine ex_if_eq (tgt := 817) dL_law_812 (by decide) (fun h812 => ?_) (fun h812 => by exact absurd (by rw [hb (by omega)]; exact lg_rf) h812)
    refine ex_goto (tgt := 1037) dL_law_817 (by decide) ?_
    exact ex_less (L' := [some (.ref 4096), some (.ref 0), some (.ref 56), some (.ref 93), some (.int (nI m)), none, none, none]) (by simp [xSub]) nxt
theorem tail_node {k m g : Nat} {b : Int32} {i : Nat → Nat → Int32} {q : Nat → Nat → Int64} {t : Bool} {K : Nat × Nat} {Q : xRes → xMem → Prop} (h45 : i 56 45 = nI k) (hk : k < 4) (hb : k = 0 → b.toInt64 = q 93 0) (nxt : Wx m_Law_law 1037 [some (.ref 4096), some (.ref 0), some (.ref 56), some (.ref 93), some (.int (nI m)), none, none, none] [] (94, g, i, q, RT t) K Q) : Wx m_Law_law 868 [some (.ref 4096), some (.ref 0), some (.ref 56), some (.ref 93), some (.int (nI m)), some (.int (nI k)), none, none] [.int b] (94, g, i, q, RT t) K Q := by
  refine ex_istore (L' := [some (.ref (4096)), some (.ref (0)), some (.ref (56)), some (.ref (93)), some (.int (nI (m))), some (.int (nI (k))), some (.int (b)), none]) dL_law_868 (by decide) rfl ?_
  refine ex_aload_n (i := 2) dL_law_870 rfl rfl ?_
  refine ex_cVL (ν := m_Model_thrown) (a := 56) (ci := 10) (as := []) dL_law_871 ln_Law_72 mf_Model_thrown rfl (Nat.le_of_ble_eq_true rfl) rfl rfl np_Model_thrown rfl rfl ⟨(Nat.le_of_ble_eq_true rfl), (Nat.le_of_ble_eq_true rfl), (Nat.le_of_ble_eq_true rfl), (Nat.le_of_ble_eq_true rfl)⟩ ?_
  refine sp_Model_thrown ?_
  refine ⟨_, rfl, ⟨rfl, rfl⟩, ?_⟩
  refine ex_asN (a := k) h45 ?_
  refine ex_iload dL_law_874 rfl ?_
  refine ex_icmp_eqN (tgt := 881) dL_law_876 (by decide) (by omega) (by omega) (fun h876 => ?_) (fun h876 => by exact absurd rfl h876)
  refine ex_iload dL_law_881 rfl ?_
  refine ex_if_neN (tgt := 898) dL_law_883 (by decide) (by omega) (fun h883 => ?_) (fun h883 => ?_)
  · refine ex_goto (tgt := 1037) dL_law_898 (by decide) ?_
    exact ex_less (L' := [some (.ref 4096), some (.ref 0), some (.ref 56), some (.ref 93), some (.int (nI m)), none, none, none]) (by simp [xSub]) nxt
  · refine ex_aload_n (i := 3) dL_law_886 rfl rfl ?_
    refine ex_iconst (v := nI 0) dL_law_887 (by decide) ?_
    refine ex_laldN dL_law_888 rfl (by decide) (by omega) rfl ?_
    refine ex_iload dL_law_889 rfl ?_
    refine ex_i2l dL_law_891 ?_
    refine ex_lcmp dL_law_892 ?_
    refine ex_if_eq (tgt := 898) dL_law_893 (by decide) (fun h893 => ?_) (fun h893 => by exact absurd (by rw [hb (by omega)]; exact lg_rf) h893)
    refine ex_goto (tgt := 1037) dL_law_898 (by decide) ?_
    exact ex_less (L' := [some (.ref 4096), some (.ref 0), some (.ref 56), some (.ref 93), some (.int (nI m)), none, none, none]) (by simp [xSub]) nxt
theorem tail_attribute {k m g : Nat} {b : Int64} {i : Nat → Nat → Int32} {q : Nat → Nat → Int64} {t : Bool} {K : Nat × Nat} {Q : xRes → xMem → Prop} (h45 : i 56 45 = nI k) (hk : k < 4) (hb : k = 0 → b = q 93 0) (nxt : Wx m_Law_law 1037 [some (.ref 4096), some (.ref 0), some (.ref 56), some (.ref 93), some (.int (nI m)), none, none, none] [] (94, g, i, q, RT t) K Q) : Wx m_Law_law 936 [some (.ref 4096), some (.ref 0), some (.ref 56), some (.ref 93), some (.int (nI m)), some (.int (nI k)), none, none] [.long b] (94, g, i, q, RT t) K Q := by
  refine ex_lstore (L' := [some (.ref (4096)), some (.ref (0)), some (.ref (56)), some (.ref (93)), some (.int (nI (m))), some (.int (nI (k))), some (.long (b)), none]) dL_law_936 (by decide) rfl ?_
  refine ex_aload_n (i := 2) dL_law_938 rfl rfl ?_
  refine ex_cVL (ν := m_Model_thrown) (a := 56) (ci := 10) (as := []) dL_law_939 ln_Law_72 mf_Model_thrown rfl (Nat.le_of_ble_eq_true rfl) rfl rfl np_Model_thrown rfl rfl ⟨(Nat.le_of_ble_eq_true rfl), (Nat.le_of_ble_eq_true rfl), (Nat.le_of_ble_eq_true rfl), (Nat.le_of_ble_eq_true rfl)⟩ ?_
  refine sp_Model_thrown ?_
  refine ⟨_, rfl, ⟨rfl, rfl⟩, ?_⟩
  refine ex_asN (a := k) h45 ?_
  refine ex_iload dL_law_942 rfl ?_
  refine ex_icmp_eqN (tgt := 949) dL_law_944 (by decide) (by omega) (by omega) (fun h944 => ?_) (fun h944 => by exact absurd rfl h944)
  refine ex_iload dL_law_949 rfl ?_
  refine ex_if_neN (tgt := 965) dL_law_951 (by decide) (by omega) (fun h951 => ?_) (fun h951 => ?_)
  · refine ex_goto (tgt := 1037) dL_law_965 (by decide) ?_
    exact ex_less (L' := [some (.ref 4096), some (.ref 0), some (.ref 56), some (.ref 93), some (.int (nI m)), none, none, none]) (by simp [xSub]) nxt
  · refine ex_aload_n (i := 3) dL_law_954 rfl rfl ?_
    refine ex_iconst (v := nI 0) dL_law_955 (by decide) ?_
    refine ex_laldN dL_law_956 rfl (by decide) (by omega) rfl ?_
    refine ex_lload dL_law_957 rfl ?_
    refine ex_lcmp dL_law_959 ?_
    refine ex_if_eq (tgt := 965) dL_law_960 (by decide) (fun h960 => ?_) (fun h960 => by exact absurd (by rw [hb (by omega)]; exact lg_rf) h960)
    refine ex_goto (tgt := 1037) dL_law_965 (by decide) ?_
    exact ex_less (L' := [some (.ref 4096), some (.ref 0), some (.ref 56), some (.ref 93), some (.int (nI m)), none, none, none]) (by simp [xSub]) nxt
theorem tail_count {k m g : Nat} {b : Int32} {i : Nat → Nat → Int32} {q : Nat → Nat → Int64} {t : Bool} {K : Nat × Nat} {Q : xRes → xMem → Prop} (h45 : i 56 45 = nI k) (hk : k < 4) (hb : k = 0 → b.toInt64 = q 93 0) (nxt : Wx m_Law_law 1037 [some (.ref 4096), some (.ref 0), some (.ref 56), some (.ref 93), some (.int (nI m)), none, none, none] [] (94, g, i, q, RT t) K Q) : Wx m_Law_law 1004 [some (.ref 4096), some (.ref 0), some (.ref 56), some (.ref 93), some (.int (nI m)), some (.int (nI k)), none, none] [.int b] (94, g, i, q, RT t) K Q := by
  refine ex_istore (L' := [some (.ref (4096)), some (.ref (0)), some (.ref (56)), some (.ref (93)), some (.int (nI (m))), some (.int (nI (k))), some (.int (b)), none]) dL_law_1004 (by decide) rfl ?_
  refine ex_aload_n (i := 2) dL_law_1006 rfl rfl ?_
  refine ex_cVL (ν := m_Model_thrown) (a := 56) (ci := 10) (as := []) dL_law_1007 ln_Law_72 mf_Model_thrown rfl (Nat.le_of_ble_eq_true rfl) rfl rfl np_Model_thrown rfl rfl ⟨(Nat.le_of_ble_eq_true rfl), (Nat.le_of_ble_eq_true rfl), (Nat.le_of_ble_eq_true rfl), (Nat.le_of_ble_eq_true rfl)⟩ ?_
  refine sp_Model_thrown ?_
  refine ⟨_, rfl, ⟨rfl, rfl⟩, ?_⟩
  refine ex_asN (a := k) h45 ?_
  refine ex_iload dL_law_1010 rfl ?_
  refine ex_icmp_eqN (tgt := 1017) dL_law_1012 (by decide) (by omega) (by omega) (fun h1012 => ?_) (fun h1012 => by exact absurd rfl h1012)
  refine ex_iload dL_law_1017 rfl ?_
  refine ex_if_neN (tgt := 1034) dL_law_1019 (by decide) (by omega) (fun h1019 => ?_) (fun h1019 => ?_)
  · refine ex_goto (tgt := 1037) dL_law_1034 (by decide) ?_
    exact ex_less (L' := [some (.ref 4096), some (.ref 0), some (.ref 56), some (.ref 93), some (.int (nI m)), none, none, none]) (by simp [xSub]) nxt
  · refine ex_aload_n (i := 3) dL_law_1022 rfl rfl ?_
    refine ex_iconst (v := nI 0) dL_law_1023 (by decide) ?_
    refine ex_laldN dL_law_1024 rfl (by decide) (by omega) rfl ?_
    refine ex_iload dL_law_1025 rfl ?_
    refine ex_i2l dL_law_1027 ?_
    refine ex_lcmp dL_law_1028 ?_
    refine ex_if_eq (tgt := 1034) dL_law_1029 (by decide) (fun h1029 => ?_) (fun h1029 => by exact absurd (by rw [hb (by omega)]; exact lg_rf) h1029)
    refine ex_goto (tgt := 1037) dL_law_1034 (by decide) ?_
    exact ex_less (L' := [some (.ref 4096), some (.ref 0), some (.ref 56), some (.ref 93), some (.int (nI m)), none, none, none]) (by simp [xSub]) nxt
theorem op_first {xs : Nat → Int32} {L m g : Nat} {i : Nat → Nat → Int32} {q : Nat → Nat → Int64} {t : Bool} {K : Nat × Nat} {Q : xRes → xMem → Prop} (hIV : IV xs L i q t) (hL3 : L ≤ 3072) (hm : m + 6 ≤ L) (nxt : ∀ g' i' q' t', IV xs L i' q' t' → Wx m_Law_law 1037 [some (.ref 4096), some (.ref 0), some (.ref 56), some (.ref 93), some (.int (nI m)), none, none, none] [] (94, g', i', q', RT t') K Q) : Wx m_Law_law 448 [some (.ref 4096), some (.ref 0), some (.ref 56), some (.ref 93), some (.int (nI m)), none, none, none] [] (94, g, i, q, RT t) (K.1 + 1, K.2 + 6) Q := by
  obtain ⟨n, sy, f, lv, kd, op, xp, yp, b, nt, md, iG, iL, iE, iB9, iT, iP, iM⟩ := id hIV
  have h96 := iM.2.2.2.1
  have h97 := iM.2.2.2.2
  refine ex_aload_n (i := 1) dL_law_448 rfl rfl ?_
  refine ex_aload_n (i := 0) dL_law_449 rfl rfl ?_
  refine ex_iload dL_law_450 rfl ?_
  refine ex_iconst (v := nI 1) dL_law_452 (by decide) ?_
  refine ex_iaddN dL_law_453 ?_
  refine ex_sldN rfl dL_law_454 h97 hL3 (by omega) (congrFun h96 _) ?_
  refine ex_aload_n (i := 3) dL_law_455 rfl rfl ?_
  refine ex_cHL (P := fun k x g' i' q' t' => Wx m_Law_law 459 [some (.ref 4096), some (.ref 0), some (.ref 56), some (.ref 93), some (.int (nI m)), none, none, none] [.int (nI k)] (94, g', i', (if k = 0 then xUL q' 93 0 x else q'), RT t') K Q) (ν := m_Law_first) (as := [.ref (0), .int (xs (m + 1)), .ref (93)]) (K := K) dL_law_456 lnH_first mfH_first npH_first rfl rfl ⟨(Nat.le_of_ble_eq_true rfl), (Nat.le_of_ble_eq_true rfl), (Nat.le_of_ble_eq_true rfl), (Nat.le_of_ble_eq_true rfl)⟩ ?_ (fun k x g' i' q' t' _ _ h => h)
  refine sp_Law_first ?_
  refine sp_Works_first iG.2.2.1 (fun hx => ?_) (fun s hs hs2 => ?_)
  · refine WQ.er ⟨_, _, _, _, rfl, by decide, ⟨rfl, rfl⟩, ex_thr (k' := 1) (by decide) (by decide) ?_⟩
    refine ex_istore (L' := [some (.ref (4096)), some (.ref (0)), some (.ref (56)), some (.ref (93)), some (.int (nI (m))), some (.int (nI (1))), none, none]) dL_law_459 (by decide) rfl ?_
    refine ex_aload_n (i := 2) dL_law_461 rfl rfl ?_
    refine ex_aload_n (i := 0) dL_law_462 rfl rfl ?_
    refine ex_iload dL_law_463 rfl ?_
    refine ex_iconst (v := nI 1) dL_law_465 (by decide) ?_
    refine ex_iaddN dL_law_466 ?_
    refine ex_sldN rfl dL_law_467 h97 hL3 (by omega) (congrFun h96 _) ?_
    refine ex_cVL (ν := m_Model_first) (a := 56) (ci := 10) (as := [.int (xs (m + 1))]) dL_law_468 ln_Law_89 mf_Model_first rfl (Nat.le_of_ble_eq_true rfl) rfl rfl np_Model_first rfl rfl ⟨(Nat.le_of_ble_eq_true rfl), (Nat.le_of_ble_eq_true rfl), (Nat.le_of_ble_eq_true rfl), (Nat.le_of_ble_eq_true rfl)⟩ ?_
    refine sp_Model_first iG.2.1 (fun _ i1 hf hc => ?_) (fun s f hs hs2 _ i1 hf hc => absurd hx (by rw [hs]; exact smX_no hs2))
    exact ⟨_, rfl, ⟨hf.1 4096 (by decide) (by decide), hf.1 4097 (by decide) (by decide)⟩, tail_first hc (by decide) (fun z => absurd z (by decide)) (nxt _ _ _ _ (hIV.fm (hf.mono (by decide) (by decide)) (fun c hc => rfl)))⟩
    skip
  · refine WQ.ok ⟨_, _, _, _, _, rfl, rfl, ⟨rfl, rfl⟩, ex_okk ?_⟩
    refine ex_istore (L' := [some (.ref (4096)), some (.ref (0)), some (.ref (56)), some (.ref (93)), some (.int (nI (m))), some (.int (nI (0))), none, none]) dL_law_459 (by decide) rfl ?_
    refine ex_aload_n (i := 2) dL_law_461 rfl rfl ?_
    refine ex_aload_n (i := 0) dL_law_462 rfl rfl ?_
    refine ex_iload dL_law_463 rfl ?_
    refine ex_iconst (v := nI 1) dL_law_465 (by decide) ?_
    refine ex_iaddN dL_law_466 ?_
    refine ex_sldN rfl dL_law_467 h97 hL3 (by omega) (congrFun h96 _) ?_
    refine ex_cVL (ν := m_Model_first) (a := 56) (ci := 10) (as := [.int (xs (m + 1))]) dL_law_468 ln_Law_89 mf_Model_first rfl (Nat.le_of_ble_eq_true rfl) rfl rfl np_Model_first rfl rfl ⟨(Nat.le_of_ble_eq_true rfl), (Nat.le_of_ble_eq_true rfl), (Nat.le_of_ble_eq_true rfl), (Nat.le_of_ble_eq_true rfl)⟩ ?_
    refine sp_Model_first iG.2.1 (fun hx i1 hf hc => absurd hx (by rw [hs]; exact smX_no hs2)) (fun s2 f2 hs3 hs4 hf2 i1 hf hc => ?_)
    have e1 : s2 = s := by rw [hs] at hs3; exact ((nI_eq (by omega) (by omega)).mp hs3).symm
    have e2 := isF_eq hf2 iG.2.2.2
    subst e1 e2
    exact ⟨_, rfl, ⟨hf.1 4096 (by decide) (by decide), hf.1 4097 (by decide) (by decide)⟩, tail_first hc (by decide) (fun _ => by rw [qU_at]) (nxt _ _ _ _ (hIV.fm (hf.mono (by decide) (by decide)) (fun c hc => qU_ne hc)))⟩
    skip
theorem op_go {xs : Nat → Int32} {L m g : Nat} {i : Nat → Nat → Int32} {q : Nat → Nat → Int64} {t : Bool} {K : Nat × Nat} {Q : xRes → xMem → Prop} (hIV : IV xs L i q t) (hL3 : L ≤ 3072) (hm : m + 6 ≤ L) (nxt : ∀ g' i' q' t', IV xs L i' q' t' → Wx m_Law_law 1037 [some (.ref 4096), some (.ref 0), some (.ref 56), some (.ref 93), some (.int (nI m)), none, none, none] [] (94, g', i', q', RT t') K Q) : Wx m_Law_law 572 [some (.ref 4096), some (.ref 0), some (.ref 56), some (.ref 93), some (.int (nI m)), none, none, none] [] (94, g, i, q, RT t) (K.1 + 1, K.2 + 6) Q := by
  obtain ⟨n, sy, f, lv, kd, op, xp, yp, b, nt, md, iG, iL, iE, iB9, iT, iP, iM⟩ := id hIV
  have h96 := iM.2.2.2.1
  have h97 := iM.2.2.2.2
  obtain ⟨⟨b1, b2, b3⟩, bD⟩ := iB9
  obtain ⟨S, hS, hS1, hS2, hG⟩ : ∃ S, S ≤ 50 ∧ (b = 1 → i 16 6 = nI S) ∧ (b = 1 → i 56 11 = nI S) ∧ (b = 1 → ∀ s x, s < S → 1 ≤ x → x < 14 → i 24 (s * 14 + x) = i 67 (14 * s + x)) := by
    by_cases e : b = 1
    · obtain ⟨S, T, pr, F, E, fl, tr, -, tb, -⟩ := bD e
      exact ⟨S, tb.1.1.1.2.1, fun _ => tb.2.1.1, fun _ => tb.2.1.2, fun _ s x hs h1 hx => ((tb.2.2.2.1 s x hs h1 hx).1).trans ((tb.2.2.2.1 s x hs h1 hx).2).symm⟩
    · exact ⟨0, by decide, fun z => absurd z e, fun z => absurd z e, fun z => absurd z e⟩
  refine ex_aload_n (i := 1) dL_law_572 rfl rfl ?_
  refine ex_aload_n (i := 0) dL_law_573 rfl rfl ?_
  refine ex_iload dL_law_574 rfl ?_
  refine ex_iconst (v := nI 1) dL_law_576 (by decide) ?_
  refine ex_iaddN dL_law_577 ?_
  refine ex_sldN rfl dL_law_578 h97 hL3 (by omega) (congrFun h96 _) ?_
  refine ex_aload_n (i := 0) dL_law_579 rfl rfl ?_
  refine ex_iload dL_law_580 rfl ?_
  refine ex_iconst (v := nI 2) dL_law_582 (by decide) ?_
  refine ex_iaddN dL_law_583 ?_
  refine ex_sldN rfl dL_law_584 h97 hL3 (by omega) (congrFun h96 _) ?_
  refine ex_aload_n (i := 3) dL_law_585 rfl rfl ?_
  refine ex_cHL (P := fun k x g' i' q' t' => Wx m_Law_law 589 [some (.ref 4096), some (.ref 0), some (.ref 56), some (.ref 93), some (.int (nI m)), none, none, none] [.int (nI k)] (94, g', i', (if k = 0 then xUL q' 93 0 x else q'), RT t') K Q) (ν := m_Law_go) (as := [.ref (0), .int (xs (m + 1)), .int (xs (m + 2)), .ref (93)]) (K := K) dL_law_586 lnH_go mfH_go npH_go rfl rfl ⟨(Nat.le_of_ble_eq_true rfl), (Nat.le_of_ble_eq_true rfl), (Nat.le_of_ble_eq_true rfl), (Nat.le_of_ble_eq_true rfl)⟩ ?_ (fun k x g' i' q' t' _ _ h => h)
  refine sp_Law_go ?_
  refine sB_Works_go iM.1 b1 b3 hS1 hS (fun hb => ?_) (fun hb hx => ?_) (fun s k hb hs hs2 hk k1 k2 => ?_)
  · refine WQ.er ⟨_, _, _, _, rfl, by decide, ⟨rfl, rfl⟩, ex_thr (k' := 1) (by decide) (by decide) ?_⟩
    refine ex_istore (L' := [some (.ref (4096)), some (.ref (0)), some (.ref (56)), some (.ref (93)), some (.int (nI (m))), some (.int (nI (1))), none, none]) dL_law_589 (by decide) rfl ?_
    refine ex_aload_n (i := 2) dL_law_591 rfl rfl ?_
    refine ex_aload_n (i := 0) dL_law_592 rfl rfl ?_
    refine ex_iload dL_law_593 rfl ?_
    refine ex_iconst (v := nI 1) dL_law_595 (by decide) ?_
    refine ex_iaddN dL_law_596 ?_
    refine ex_sldN rfl dL_law_597 h97 hL3 (by omega) (congrFun h96 _) ?_
    refine ex_aload_n (i := 0) dL_law_598 rfl rfl ?_
    refine ex_iload dL_law_599 rfl ?_
    refine ex_iconst (v := nI 2) dL_law_601 (by decide) ?_
    refine ex_iaddN dL_law_602 ?_
    refine ex_sldN rfl dL_law_603 h97 hL3 (by omega) (congrFun h96 _) ?_
    refine ex_cVL (ν := m_Model_go) (a := 56) (ci := 10) (as := [.int (xs (m + 1)), .int (xs (m + 2))]) dL_law_604 ln_Law_96 mf_Model_go rfl (Nat.le_of_ble_eq_true rfl) rfl rfl np_Model_go rfl rfl ⟨(Nat.le_of_ble_eq_true rfl), (Nat.le_of_ble_eq_true rfl), (Nat.le_of_ble_eq_true rfl), (Nat.le_of_ble_eq_true rfl)⟩ ?_
    refine sB_Model_go b2 b3 hS2 hS (fun _ i1 hf hc => ?_) (fun z => absurd hb z) (fun _ _ z => absurd hb z)
    exact ⟨_, rfl, ⟨hf.1 4096 (by decide) (by decide), hf.1 4097 (by decide) (by decide)⟩, tail_go hc (by decide) (fun z => absurd z (by decide)) (nxt _ _ _ _ (hIV.fm (hf.mono (by decide) (by decide)) (fun c hc => rfl)))⟩
    skip
  · refine WQ.er ⟨_, _, _, _, rfl, by decide, ⟨rfl, rfl⟩, ex_thr (k' := 2) (by decide) (by decide) ?_⟩
    refine ex_istore (L' := [some (.ref (4096)), some (.ref (0)), some (.ref (56)), some (.ref (93)), some (.int (nI (m))), some (.int (nI (2))), none, none]) dL_law_589 (by decide) rfl ?_
    refine ex_aload_n (i := 2) dL_law_591 rfl rfl ?_
    refine ex_aload_n (i := 0) dL_law_592 rfl rfl ?_
    refine ex_iload dL_law_593 rfl ?_
    refine ex_iconst (v := nI 1) dL_law_595 (by decide) ?_
    refine ex_iaddN dL_law_596 ?_
    refine ex_sldN rfl dL_law_597 h97 hL3 (by omega) (congrFun h96 _) ?_
    refine ex_aload_n (i := 0) dL_law_598 rfl rfl ?_
    refine ex_iload dL_law_599 rfl ?_
    refine ex_iconst (v := nI 2) dL_law_601 (by decide) ?_
    refine ex_iaddN dL_law_602 ?_
    refine ex_sldN rfl dL_law_603 h97 hL3 (by omega) (congrFun h96 _) ?_
    refine ex_cVL (ν := m_Model_go) (a := 56) (ci := 10) (as := [.int (xs (m + 1)), .int (xs (m + 2))]) dL_law_604 ln_Law_96 mf_Model_go rfl (Nat.le_of_ble_eq_true rfl) rfl rfl np_Model_go rfl rfl ⟨(Nat.le_of_ble_eq_true rfl), (Nat.le_of_ble_eq_true rfl), (Nat.le_of_ble_eq_true rfl), (Nat.le_of_ble_eq_true rfl)⟩ ?_
    refine sB_Model_go b2 b3 hS2 hS (fun z => absurd z hb) (fun _ _ i1 hf hc => ?_) (fun s k _ hs hs2 hk k1 k2 => absurd hx (fun z => z.elim (fun z => z ⟨s, hs, hs2⟩) (fun z => ntX_no ⟨k1, k2⟩ (by rw [← hk]; exact z))))
    exact ⟨_, rfl, ⟨hf.1 4096 (by decide) (by decide), hf.1 4097 (by decide) (by decide)⟩, tail_go hc (by decide) (fun z => absurd z (by decide)) (nxt _ _ _ _ (hIV.fm (hf.mono (by decide) (by decide)) (fun c hc => rfl)))⟩
    skip
  · refine WQ.ok ⟨_, _, _, _, _, rfl, rfl, ⟨rfl, rfl⟩, ex_okk ?_⟩
    refine ex_istore (L' := [some (.ref (4096)), some (.ref (0)), some (.ref (56)), some (.ref (93)), some (.int (nI (m))), some (.int (nI (0))), none, none]) dL_law_589 (by decide) rfl ?_
    refine ex_aload_n (i := 2) dL_law_591 rfl rfl ?_
    refine ex_aload_n (i := 0) dL_law_592 rfl rfl ?_
    refine ex_iload dL_law_593 rfl ?_
    refine ex_iconst (v := nI 1) dL_law_595 (by decide) ?_
    refine ex_iaddN dL_law_596 ?_
    refine ex_sldN rfl dL_law_597 h97 hL3 (by omega) (congrFun h96 _) ?_
    refine ex_aload_n (i := 0) dL_law_598 rfl rfl ?_
    refine ex_iload dL_law_599 rfl ?_
    refine ex_iconst (v := nI 2) dL_law_601 (by decide) ?_
    refine ex_iaddN dL_law_602 ?_
    refine ex_sldN rfl dL_law_603 h97 hL3 (by omega) (congrFun h96 _) ?_
    refine ex_cVL (ν := m_Model_go) (a := 56) (ci := 10) (as := [.int (xs (m + 1)), .int (xs (m + 2))]) dL_law_604 ln_Law_96 mf_Model_go rfl (Nat.le_of_ble_eq_true rfl) rfl rfl np_Model_go rfl rfl ⟨(Nat.le_of_ble_eq_true rfl), (Nat.le_of_ble_eq_true rfl), (Nat.le_of_ble_eq_true rfl), (Nat.le_of_ble_eq_true rfl)⟩ ?_
    refine sB_Model_go b2 b3 hS2 hS (fun z => absurd z hb) (fun _ z => absurd z (fun z => z.elim (fun z => z ⟨s, hs, hs2⟩) (fun z => ntX_no ⟨k1, k2⟩ (by rw [← hk]; exact z)))) (fun s9 k9 _ hs9 hs92 hk9 k91 k92 i1 hf hc => ?_)
    have e1 : s9 = s := by rw [hs] at hs9; exact ((nI_eq (by omega) (by omega)).mp hs9).symm
    have e2 : k9 = k := by rw [hk] at hk9; exact ((nI_eq (by omega) (by omega)).mp hk9).symm
    subst e1 e2
    exact ⟨_, rfl, ⟨hf.1 4096 (by decide) (by decide), hf.1 4097 (by decide) (by decide)⟩, tail_go hc (by decide) (fun _ => by rw [qU_at, hG (by omega) _ _ hs2 (by omega) (by omega)]) (nxt _ _ _ _ (hIV.fm (hf.mono (by decide) (by decide)) (fun c hc => qU_ne hc)))⟩
    skip
theorem op_action {xs : Nat → Int32} {L m g : Nat} {i : Nat → Nat → Int32} {q : Nat → Nat → Int64} {t : Bool} {K : Nat × Nat} {Q : xRes → xMem → Prop} (hIV : IV xs L i q t) (hL3 : L ≤ 3072) (hm : m + 6 ≤ L) (nxt : ∀ g' i' q' t', IV xs L i' q' t' → Wx m_Law_law 1037 [some (.ref 4096), some (.ref 0), some (.ref 56), some (.ref 93), some (.int (nI m)), none, none, none] [] (94, g', i', q', RT t') K Q) : Wx m_Law_law 504 [some (.ref 4096), some (.ref 0), some (.ref 56), some (.ref 93), some (.int (nI m)), none, none, none] [] (94, g, i, q, RT t) (K.1 + 1, K.2 + 6) Q := by
  obtain ⟨n, sy, f, lv, kd, op, xp, yp, b, nt, md, iG, iL, iE, iB9, iT, iP, iM⟩ := id hIV
  have h96 := iM.2.2.2.1
  have h97 := iM.2.2.2.2
  obtain ⟨⟨b1, b2, b3⟩, bD⟩ := iB9
  obtain ⟨S, hS, hS1, hS2, hG⟩ : ∃ S, S ≤ 50 ∧ (b = 1 → i 16 6 = nI S) ∧ (b = 1 → i 56 11 = nI S) ∧ (b = 1 → ∀ s x, s < S → x < 7 → i 26 (s * 7 + x) = i 73 (7 * s + x)) := by
    by_cases e : b = 1
    · obtain ⟨S, T, pr, F, E, fl, tr, -, tb, -⟩ := bD e
      refine ⟨S, tb.1.1.1.2.1, fun _ => tb.2.1.1, fun _ => tb.2.1.2, fun _ s x hs hx => ?_⟩
      obtain ⟨z1, z2⟩ := tb.2.2.2.2.2.2.2.2.2.2.1 (s * 7 + x) (by omega)
      rw [z1, show 7 * s + x = s * 7 + x by omega, z2]
    · exact ⟨0, by decide, fun z => absurd z e, fun z => absurd z e, fun z => absurd z e⟩
  refine ex_aload_n (i := 1) dL_law_504 rfl rfl ?_
  refine ex_aload_n (i := 0) dL_law_505 rfl rfl ?_
  refine ex_iload dL_law_506 rfl ?_
  refine ex_iconst (v := nI 1) dL_law_508 (by decide) ?_
  refine ex_iaddN dL_law_509 ?_
  refine ex_sldN rfl dL_law_510 h97 hL3 (by omega) (congrFun h96 _) ?_
  refine ex_aload_n (i := 0) dL_law_511 rfl rfl ?_
  refine ex_iload dL_law_512 rfl ?_
  refine ex_iconst (v := nI 2) dL_law_514 (by decide) ?_
  refine ex_iaddN dL_law_515 ?_
  refine ex_sldN rfl dL_law_516 h97 hL3 (by omega) (congrFun h96 _) ?_
  refine ex_aload_n (i := 3) dL_law_517 rfl rfl ?_
  refine ex_cHL (P := fun k x g' i' q' t' => Wx m_Law_law 521 [some (.ref 4096), some (.ref 0), some (.ref 56), some (.ref 93), some (.int (nI m)), none, none, none] [.int (nI k)] (94, g', i', (if k = 0 then xUL q' 93 0 x else q'), RT t') K Q) (ν := m_Law_action) (as := [.ref (0), .int (xs (m + 1)), .int (xs (m + 2)), .ref (93)]) (K := K) dL_law_518 lnH_action mfH_action npH_action rfl rfl ⟨(Nat.le_of_ble_eq_true rfl), (Nat.le_of_ble_eq_true rfl), (Nat.le_of_ble_eq_true rfl), (Nat.le_of_ble_eq_true rfl)⟩ ?_ (fun k x g' i' q' t' _ _ h => h)
  refine sp_Law_action ?_
  refine sB_Works_action iM.1 b1 b3 hS1 hS (fun hb => ?_) (fun hb hx => ?_) (fun s k hb hs hs2 hk k2 => ?_)
  · refine WQ.er ⟨_, _, _, _, rfl, by decide, ⟨rfl, rfl⟩, ex_thr (k' := 1) (by decide) (by decide) ?_⟩
    refine ex_istore (L' := [some (.ref (4096)), some (.ref (0)), some (.ref (56)), some (.ref (93)), some (.int (nI (m))), some (.int (nI (1))), none, none]) dL_law_521 (by decide) rfl ?_
    refine ex_aload_n (i := 2) dL_law_523 rfl rfl ?_
    refine ex_aload_n (i := 0) dL_law_524 rfl rfl ?_
    refine ex_iload dL_law_525 rfl ?_
    refine ex_iconst (v := nI 1) dL_law_527 (by decide) ?_
    refine ex_iaddN dL_law_528 ?_
    refine ex_sldN rfl dL_law_529 h97 hL3 (by omega) (congrFun h96 _) ?_
    refine ex_aload_n (i := 0) dL_law_530 rfl rfl ?_
    refine ex_iload dL_law_531 rfl ?_
    refine ex_iconst (v := nI 2) dL_law_533 (by decide) ?_
    refine ex_iaddN dL_law_534 ?_
    refine ex_sldN rfl dL_law_535 h97 hL3 (by omega) (congrFun h96 _) ?_
    refine ex_cVL (ν := m_Model_action) (a := 56) (ci := 10) (as := [.int (xs (m + 1)), .int (xs (m + 2))]) dL_law_536 ln_Law_93 mf_Model_action rfl (Nat.le_of_ble_eq_true rfl) rfl rfl np_Model_action rfl rfl ⟨(Nat.le_of_ble_eq_true rfl), (Nat.le_of_ble_eq_true rfl), (Nat.le_of_ble_eq_true rfl), (Nat.le_of_ble_eq_true rfl)⟩ ?_
    refine sB_Model_action b2 b3 hS2 hS (fun _ i1 hf hc => ?_) (fun z => absurd hb z) (fun _ _ z => absurd hb z)
    exact ⟨_, rfl, ⟨hf.1 4096 (by decide) (by decide), hf.1 4097 (by decide) (by decide)⟩, tail_action hc (by decide) (fun z => absurd z (by decide)) (nxt _ _ _ _ (hIV.fm (hf.mono (by decide) (by decide)) (fun c hc => rfl)))⟩
    skip
  · refine WQ.er ⟨_, _, _, _, rfl, by decide, ⟨rfl, rfl⟩, ex_thr (k' := 2) (by decide) (by decide) ?_⟩
    refine ex_istore (L' := [some (.ref (4096)), some (.ref (0)), some (.ref (56)), some (.ref (93)), some (.int (nI (m))), some (.int (nI (2))), none, none]) dL_law_521 (by decide) rfl ?_
    refine ex_aload_n (i := 2) dL_law_523 rfl rfl ?_
    refine ex_aload_n (i := 0) dL_law_524 rfl rfl ?_
    refine ex_iload dL_law_525 rfl ?_
    refine ex_iconst (v := nI 1) dL_law_527 (by decide) ?_
    refine ex_iaddN dL_law_528 ?_
    refine ex_sldN rfl dL_law_529 h97 hL3 (by omega) (congrFun h96 _) ?_
    refine ex_aload_n (i := 0) dL_law_530 rfl rfl ?_
    refine ex_iload dL_law_531 rfl ?_
    refine ex_iconst (v := nI 2) dL_law_533 (by decide) ?_
    refine ex_iaddN dL_law_534 ?_
    refine ex_sldN rfl dL_law_535 h97 hL3 (by omega) (congrFun h96 _) ?_
    refine ex_cVL (ν := m_Model_action) (a := 56) (ci := 10) (as := [.int (xs (m + 1)), .int (xs (m + 2))]) dL_law_536 ln_Law_93 mf_Model_action rfl (Nat.le_of_ble_eq_true rfl) rfl rfl np_Model_action rfl rfl ⟨(Nat.le_of_ble_eq_true rfl), (Nat.le_of_ble_eq_true rfl), (Nat.le_of_ble_eq_true rfl), (Nat.le_of_ble_eq_true rfl)⟩ ?_
    refine sB_Model_action b2 b3 hS2 hS (fun z => absurd z hb) (fun _ _ i1 hf hc => ?_) (fun s k _ hs hs2 hk k2 => absurd hx (fun z => z.elim (fun z => z ⟨s, hs, hs2⟩) (fun z => by by_cases k0 : k = 0; exact z.1 (by rw [hk, k0]; rfl); exact tmX_no (s := k) (by omega) (by rw [← hk]; exact z.2))))
    exact ⟨_, rfl, ⟨hf.1 4096 (by decide) (by decide), hf.1 4097 (by decide) (by decide)⟩, tail_action hc (by decide) (fun z => absurd z (by decide)) (nxt _ _ _ _ (hIV.fm (hf.mono (by decide) (by decide)) (fun c hc => rfl)))⟩
    skip
  · refine WQ.ok ⟨_, _, _, _, _, rfl, rfl, ⟨rfl, rfl⟩, ex_okk ?_⟩
    refine ex_istore (L' := [some (.ref (4096)), some (.ref (0)), some (.ref (56)), some (.ref (93)), some (.int (nI (m))), some (.int (nI (0))), none, none]) dL_law_521 (by decide) rfl ?_
    refine ex_aload_n (i := 2) dL_law_523 rfl rfl ?_
    refine ex_aload_n (i := 0) dL_law_524 rfl rfl ?_
    refine ex_iload dL_law_525 rfl ?_
    refine ex_iconst (v := nI 1) dL_law_527 (by decide) ?_
    refine ex_iaddN dL_law_528 ?_
    refine ex_sldN rfl dL_law_529 h97 hL3 (by omega) (congrFun h96 _) ?_
    refine ex_aload_n (i := 0) dL_law_530 rfl rfl ?_
    refine ex_iload dL_law_531 rfl ?_
    refine ex_iconst (v := nI 2) dL_law_533 (by decide) ?_
    refine ex_iaddN dL_law_534 ?_
    refine ex_sldN rfl dL_law_535 h97 hL3 (by omega) (congrFun h96 _) ?_
    refine ex_cVL (ν := m_Model_action) (a := 56) (ci := 10) (as := [.int (xs (m + 1)), .int (xs (m + 2))]) dL_law_536 ln_Law_93 mf_Model_action rfl (Nat.le_of_ble_eq_true rfl) rfl rfl np_Model_action rfl rfl ⟨(Nat.le_of_ble_eq_true rfl), (Nat.le_of_ble_eq_true rfl), (Nat.le_of_ble_eq_true rfl), (Nat.le_of_ble_eq_true rfl)⟩ ?_
    refine sB_Model_action b2 b3 hS2 hS (fun z => absurd z hb) (fun _ z => absurd z (fun z => z.elim (fun z => z ⟨s, hs, hs2⟩) (fun z => z ⟨k, hk, by omega⟩))) (fun s9 k9 _ hs9 hs92 hk9 k92 i1 hf hc => ?_)
    have e1 : s9 = s := by rw [hs] at hs9; exact ((nI_eq (by omega) (by omega)).mp hs9).symm
    have e2 : k9 = k := by rw [hk] at hk9; exact ((nI_eq (by omega) (by omega)).mp hk9).symm
    subst e1 e2
    exact ⟨_, rfl, ⟨hf.1 4096 (by decide) (by decide), hf.1 4097 (by decide) (by decide)⟩, tail_action hc (by decide) (fun _ => by rw [qU_at, hG (by omega) _ _ hs2 (by omega)]) (nxt _ _ _ _ (hIV.fm (hf.mono (by decide) (by decide)) (fun c hc => qU_ne hc)))⟩
    skip
theorem op_lookaheads {xs : Nat → Int32} {L m g : Nat} {i : Nat → Nat → Int32} {q : Nat → Nat → Int64} {t : Bool} {K : Nat × Nat} {Q : xRes → xMem → Prop} (hIV : IV xs L i q t) (hL3 : L ≤ 3072) (hm : m + 6 ≤ L) (nxt : ∀ g' i' q' t', IV xs L i' q' t' → Wx m_Law_law 1037 [some (.ref 4096), some (.ref 0), some (.ref 56), some (.ref 93), some (.int (nI m)), none, none, none] [] (94, g', i', q', RT t') K Q) : Wx m_Law_law 640 [some (.ref 4096), some (.ref 0), some (.ref 56), some (.ref 93), some (.int (nI m)), none, none, none] [] (94, g, i, q, RT t) (K.1 + 1, K.2 + 6) Q := by
  obtain ⟨n, sy, f, lv, kd, op, xp, yp, b, nt, md, iG, iL, iE, iB9, iT, iP, iM⟩ := id hIV
  have h96 := iM.2.2.2.1
  have h97 := iM.2.2.2.2
  obtain ⟨⟨b1, b2, b3⟩, bD⟩ := iB9
  have gw := iG.1.2.2
  have hn14 := gw.1
  obtain ⟨S, F, E, hS, hS1, hS2, hF, hF2, hE, hFE, hA⟩ : ∃ S, ∃ F E : Nat → Nat, S ≤ 50 ∧ (b = 1 → i 16 6 = nI S) ∧ (b = 1 → i 56 11 = nI S) ∧ (b = 1 → Vw i 22 3750 F) ∧ (b = 1 → ∀ j, j < 3750 → F j < 256) ∧ (b = 1 → ∀ s r, s < S → r < n → i 65 (75 * s + 5 * r + lnR sy r) = nI (E (75 * s + 5 * r + lnR sy r)) ∧ E (75 * s + 5 * r + lnR sy r) < 2) ∧ (b = 1 → ∀ s r, s < S → r < n → (F (s * 75 + (r * 5 + lnR sy r)) = 0 ↔ E (75 * s + 5 * r + lnR sy r) = 0)) ∧ (b = 1 → ∀ s r, s < S → r < n → ¬ F (s * 75 + (r * 5 + lnR sy r)) = 0 → i 72 (14 * s + r) = nI (F (s * 75 + (r * 5 + lnR sy r)) &&& 127)) := by
    by_cases e : b = 1
    · obtain ⟨S, T, pr, F, E, fl, tr, -, tb, -⟩ := bD e
      obtain ⟨t1, t2, -, -, -, t7, t9, t10, t11, -⟩ := tb
      refine ⟨S, F, E, t1.1.1.2.1, fun _ => t2.1, fun _ => t2.2, fun _ => t7.1, fun _ => t7.2, fun _ s r hs hr => ?_, fun _ s r hs hr => ?_, fun _ s r hs hr hne => ?_⟩
      · have hl := lnR_le sy r
        have := t9 s (5 * r + lnR sy r) hs (by omega)
        rw [← Nat.add_assoc] at this; exact this
      · have hl := lnR_le sy r
        obtain ⟨z1, z2⟩ := t10 s (r * 5 + lnR sy r) hs (by omega)
        rw [Nat.mul_comm r 5, ← Nat.add_assoc (75 * s)] at z2
        rw [Nat.mul_comm r 5] at z1 ⊢
        exact ⟨fun z => Classical.byContradiction fun y => z1.mpr (z2.mp y) z, fun z => Classical.byContradiction fun y => z2.mpr (z1.mp y) z⟩
      · have hl := lnR_le sy r
        exact t11 s r hs hr ((t10 s (r * 5 + lnR sy r) hs (by omega)).1.mp hne)
    · exact ⟨0, fun _ => 0, fun _ => 0, by decide, fun z => absurd z e, fun z => absurd z e, fun z => absurd z e, fun z => absurd z e, fun z => absurd z e, fun z => absurd z e, fun z => absurd z e⟩
  refine ex_aload_n (i := 1) dL_law_640 rfl rfl ?_
  refine ex_aload_n (i := 0) dL_law_641 rfl rfl ?_
  refine ex_iload dL_law_642 rfl ?_
  refine ex_iconst (v := nI 1) dL_law_644 (by decide) ?_
  refine ex_iaddN dL_law_645 ?_
  refine ex_sldN rfl dL_law_646 h97 hL3 (by omega) (congrFun h96 _) ?_
  refine ex_aload_n (i := 0) dL_law_647 rfl rfl ?_
  refine ex_iload dL_law_648 rfl ?_
  refine ex_iconst (v := nI 2) dL_law_650 (by decide) ?_
  refine ex_iaddN dL_law_651 ?_
  refine ex_sldN rfl dL_law_652 h97 hL3 (by omega) (congrFun h96 _) ?_
  refine ex_aload_n (i := 3) dL_law_653 rfl rfl ?_
  refine ex_cHL (P := fun k x g' i' q' t' => Wx m_Law_law 657 [some (.ref 4096), some (.ref 0), some (.ref 56), some (.ref 93), some (.int (nI m)), none, none, none] [.int (nI k)] (94, g', i', (if k = 0 then xUL q' 93 0 x else q'), RT t') K Q) (ν := m_Law_lookaheads) (as := [.ref (0), .int (xs (m + 1)), .int (xs (m + 2)), .ref (93)]) (K := K) dL_law_654 lnH_lookaheads mfH_lookaheads npH_lookaheads rfl rfl ⟨(Nat.le_of_ble_eq_true rfl), (Nat.le_of_ble_eq_true rfl), (Nat.le_of_ble_eq_true rfl), (Nat.le_of_ble_eq_true rfl)⟩ ?_ (fun k x g' i' q' t' _ _ h => h)
  refine sp_Law_lookaheads ?_
  refine sB_Works_lookaheads iM.1 iG.1 b1 b3 hS1 hS hF hF2 (fun hb => ?_) (fun hb hx => ?_) (fun s hb hs hs2 hx => ?_) (fun s r hb hs hs2 hr hr2 hx => ?_) (fun s r hb hs hs2 hr hr2 hx => ?_)
  · refine WQ.er ⟨_, _, _, _, rfl, by decide, ⟨rfl, rfl⟩, ex_thr (k' := 1) (by decide) (by decide) ?_⟩
    refine ex_istore (L' := [some (.ref (4096)), some (.ref (0)), some (.ref (56)), some (.ref (93)), some (.int (nI (m))), some (.int (nI (1))), none, none]) dL_law_657 (by decide) rfl ?_
    refine ex_aload_n (i := 2) dL_law_659 rfl rfl ?_
    refine ex_aload_n (i := 0) dL_law_660 rfl rfl ?_
    refine ex_iload dL_law_661 rfl ?_
    refine ex_iconst (v := nI 1) dL_law_663 (by decide) ?_
    refine ex_iaddN dL_law_664 ?_
    refine ex_sldN rfl dL_law_665 h97 hL3 (by omega) (congrFun h96 _) ?_
    refine ex_aload_n (i := 0) dL_law_666 rfl rfl ?_
    refine ex_iload dL_law_667 rfl ?_
    refine ex_iconst (v := nI 2) dL_law_669 (by decide) ?_
    refine ex_iaddN dL_law_670 ?_
    refine ex_sldN rfl dL_law_671 h97 hL3 (by omega) (congrFun h96 _) ?_
    refine ex_cVL (ν := m_Model_lookaheads) (a := 56) (ci := 10) (as := [.int (xs (m + 1)), .int (xs (m + 2))]) dL_law_672 ln_Law_99 mf_Model_lookaheads rfl (Nat.le_of_ble_eq_true rfl) rfl rfl np_Model_lookaheads rfl rfl ⟨(Nat.le_of_ble_eq_true rfl), (Nat.le_of_ble_eq_true rfl), (Nat.le_of_ble_eq_true rfl), (Nat.le_of_ble_eq_true rfl)⟩ ?_
    refine sB_Model_lookaheads iG.2.1 b2 b3 hS2 hS hE (fun _ i1 hf hc => ?_) (fun z => absurd hb z) (fun _ z => absurd hb z) (fun _ _ z => absurd hb z) (fun _ _ z => absurd hb z)
    exact ⟨_, rfl, ⟨hf.1 4096 (by decide) (by decide), hf.1 4097 (by decide) (by decide)⟩, tail_lookaheads hc (by decide) (fun z => absurd z (by decide)) (nxt _ _ _ _ (hIV.fm (hf.mono (by decide) (by decide)) (fun c hc => rfl)))⟩
    skip
  · refine WQ.er ⟨_, _, _, _, rfl, by decide, ⟨rfl, rfl⟩, ex_thr (k' := 2) (by decide) (by decide) ?_⟩
    refine ex_istore (L' := [some (.ref (4096)), some (.ref (0)), some (.ref (56)), some (.ref (93)), some (.int (nI (m))), some (.int (nI (2))), none, none]) dL_law_657 (by decide) rfl ?_
    refine ex_aload_n (i := 2) dL_law_659 rfl rfl ?_
    refine ex_aload_n (i := 0) dL_law_660 rfl rfl ?_
    refine ex_iload dL_law_661 rfl ?_
    refine ex_iconst (v := nI 1) dL_law_663 (by decide) ?_
    refine ex_iaddN dL_law_664 ?_
    refine ex_sldN rfl dL_law_665 h97 hL3 (by omega) (congrFun h96 _) ?_
    refine ex_aload_n (i := 0) dL_law_666 rfl rfl ?_
    refine ex_iload dL_law_667 rfl ?_
    refine ex_iconst (v := nI 2) dL_law_669 (by decide) ?_
    refine ex_iaddN dL_law_670 ?_
    refine ex_sldN rfl dL_law_671 h97 hL3 (by omega) (congrFun h96 _) ?_
    refine ex_cVL (ν := m_Model_lookaheads) (a := 56) (ci := 10) (as := [.int (xs (m + 1)), .int (xs (m + 2))]) dL_law_672 ln_Law_99 mf_Model_lookaheads rfl (Nat.le_of_ble_eq_true rfl) rfl rfl np_Model_lookaheads rfl rfl ⟨(Nat.le_of_ble_eq_true rfl), (Nat.le_of_ble_eq_true rfl), (Nat.le_of_ble_eq_true rfl), (Nat.le_of_ble_eq_true rfl)⟩ ?_
    refine sB_Model_lookaheads iG.2.1 b2 b3 hS2 hS hE (fun z => absurd z hb) (fun _ _ i1 hf hc => ?_) (fun s _ hs hs2 => absurd ⟨s, hs, hs2⟩ hx) (fun s _ _ hs hs2 => absurd ⟨s, hs, hs2⟩ hx) (fun s _ _ hs hs2 => absurd ⟨s, hs, hs2⟩ hx)
    exact ⟨_, rfl, ⟨hf.1 4096 (by decide) (by decide), hf.1 4097 (by decide) (by decide)⟩, tail_lookaheads hc (by decide) (fun z => absurd z (by decide)) (nxt _ _ _ _ (hIV.fm (hf.mono (by decide) (by decide)) (fun c hc => rfl)))⟩
    skip
  · refine WQ.er ⟨_, _, _, _, rfl, by decide, ⟨rfl, rfl⟩, ex_thr (k' := 3) (by decide) (by decide) ?_⟩
    refine ex_istore (L' := [some (.ref (4096)), some (.ref (0)), some (.ref (56)), some (.ref (93)), some (.int (nI (m))), some (.int (nI (3))), none, none]) dL_law_657 (by decide) rfl ?_
    refine ex_aload_n (i := 2) dL_law_659 rfl rfl ?_
    refine ex_aload_n (i := 0) dL_law_660 rfl rfl ?_
    refine ex_iload dL_law_661 rfl ?_
    refine ex_iconst (v := nI 1) dL_law_663 (by decide) ?_
    refine ex_iaddN dL_law_664 ?_
    refine ex_sldN rfl dL_law_665 h97 hL3 (by omega) (congrFun h96 _) ?_
    refine ex_aload_n (i := 0) dL_law_666 rfl rfl ?_
    refine ex_iload dL_law_667 rfl ?_
    refine ex_iconst (v := nI 2) dL_law_669 (by decide) ?_
    refine ex_iaddN dL_law_670 ?_
    refine ex_sldN rfl dL_law_671 h97 hL3 (by omega) (congrFun h96 _) ?_
    refine ex_cVL (ν := m_Model_lookaheads) (a := 56) (ci := 10) (as := [.int (xs (m + 1)), .int (xs (m + 2))]) dL_law_672 ln_Law_99 mf_Model_lookaheads rfl (Nat.le_of_ble_eq_true rfl) rfl rfl np_Model_lookaheads rfl rfl ⟨(Nat.le_of_ble_eq_true rfl), (Nat.le_of_ble_eq_true rfl), (Nat.le_of_ble_eq_true rfl), (Nat.le_of_ble_eq_true rfl)⟩ ?_
    refine sB_Model_lookaheads iG.2.1 b2 b3 hS2 hS hE (fun z => absurd z hb) (fun _ z => absurd ⟨s, hs, hs2⟩ z) (fun _ _ _ _ _ i1 hf hc => ?_) (fun _ r _ _ _ hr hr2 => absurd ⟨r, hr, hr2⟩ hx) (fun _ r _ _ _ hr hr2 => absurd ⟨r, hr, hr2⟩ hx)
    exact ⟨_, rfl, ⟨hf.1 4096 (by decide) (by decide), hf.1 4097 (by decide) (by decide)⟩, tail_lookaheads hc (by decide) (fun z => absurd z (by decide)) (nxt _ _ _ _ (hIV.fm (hf.mono (by decide) (by decide)) (fun c hc => rfl)))⟩
    skip
  · refine WQ.er ⟨_, _, _, _, rfl, by decide, ⟨rfl, rfl⟩, ex_thr (k' := 3) (by decide) (by decide) ?_⟩
    refine ex_istore (L' := [some (.ref (4096)), some (.ref (0)), some (.ref (56)), some (.ref (93)), some (.int (nI (m))), some (.int (nI (3))), none, none]) dL_law_657 (by decide) rfl ?_
    refine ex_aload_n (i := 2) dL_law_659 rfl rfl ?_
    refine ex_aload_n (i := 0) dL_law_660 rfl rfl ?_
    refine ex_iload dL_law_661 rfl ?_
    refine ex_iconst (v := nI 1) dL_law_663 (by decide) ?_
    refine ex_iaddN dL_law_664 ?_
    refine ex_sldN rfl dL_law_665 h97 hL3 (by omega) (congrFun h96 _) ?_
    refine ex_aload_n (i := 0) dL_law_666 rfl rfl ?_
    refine ex_iload dL_law_667 rfl ?_
    refine ex_iconst (v := nI 2) dL_law_669 (by decide) ?_
    refine ex_iaddN dL_law_670 ?_
    refine ex_sldN rfl dL_law_671 h97 hL3 (by omega) (congrFun h96 _) ?_
    refine ex_cVL (ν := m_Model_lookaheads) (a := 56) (ci := 10) (as := [.int (xs (m + 1)), .int (xs (m + 2))]) dL_law_672 ln_Law_99 mf_Model_lookaheads rfl (Nat.le_of_ble_eq_true rfl) rfl rfl np_Model_lookaheads rfl rfl ⟨(Nat.le_of_ble_eq_true rfl), (Nat.le_of_ble_eq_true rfl), (Nat.le_of_ble_eq_true rfl), (Nat.le_of_ble_eq_true rfl)⟩ ?_
    refine sB_Model_lookaheads iG.2.1 b2 b3 hS2 hS hE (fun z => absurd z hb) (fun _ z => absurd ⟨s, hs, hs2⟩ z) (fun _ _ _ _ z => absurd ⟨r, hr, hr2⟩ z) (fun _ _ _ _ _ _ _ _ i1 hf hc => ?_) (fun s9 r9 _ hs9 hs92 hr9 hr92 hz => ?_)
    · exact ⟨_, rfl, ⟨hf.1 4096 (by decide) (by decide), hf.1 4097 (by decide) (by decide)⟩, tail_lookaheads hc (by decide) (fun z => absurd z (by decide)) (nxt _ _ _ _ (hIV.fm (hf.mono (by decide) (by decide)) (fun c hc => rfl)))⟩
    · have e1 : s9 = s := by rw [hs] at hs9; exact ((nI_eq (by omega) (by omega)).mp hs9).symm
      have e2 : r9 = r := by rw [hr] at hr9; exact ((nI_eq (by omega) (by omega)).mp hr9).symm
      subst e1 e2
      exact absurd ((hFE (by omega) _ _ hs2 hr2).mp hx) hz
    skip
  · refine WQ.ok ⟨_, _, _, _, _, rfl, rfl, ⟨rfl, rfl⟩, ex_okk ?_⟩
    refine ex_istore (L' := [some (.ref (4096)), some (.ref (0)), some (.ref (56)), some (.ref (93)), some (.int (nI (m))), some (.int (nI (0))), none, none]) dL_law_657 (by decide) rfl ?_
    refine ex_aload_n (i := 2) dL_law_659 rfl rfl ?_
    refine ex_aload_n (i := 0) dL_law_660 rfl rfl ?_
    refine ex_iload dL_law_661 rfl ?_
    refine ex_iconst (v := nI 1) dL_law_663 (by decide) ?_
    refine ex_iaddN dL_law_664 ?_
    refine ex_sldN rfl dL_law_665 h97 hL3 (by omega) (congrFun h96 _) ?_
    refine ex_aload_n (i := 0) dL_law_666 rfl rfl ?_
    refine ex_iload dL_law_667 rfl ?_
    refine ex_iconst (v := nI 2) dL_law_669 (by decide) ?_
    refine ex_iaddN dL_law_670 ?_
    refine ex_sldN rfl dL_law_671 h97 hL3 (by omega) (congrFun h96 _) ?_
    refine ex_cVL (ν := m_Model_lookaheads) (a := 56) (ci := 10) (as := [.int (xs (m + 1)), .int (xs (m + 2))]) dL_law_672 ln_Law_99 mf_Model_lookaheads rfl (Nat.le_of_ble_eq_true rfl) rfl rfl np_Model_lookaheads rfl rfl ⟨(Nat.le_of_ble_eq_true rfl), (Nat.le_of_ble_eq_true rfl), (Nat.le_of_ble_eq_true rfl), (Nat.le_of_ble_eq_true rfl)⟩ ?_
    refine sB_Model_lookaheads iG.2.1 b2 b3 hS2 hS hE (fun z => absurd z hb) (fun _ z => absurd ⟨s, hs, hs2⟩ z) (fun _ _ _ _ z => absurd ⟨r, hr, hr2⟩ z) (fun s9 r9 _ hs9 hs92 hr9 hr92 hz => ?_) (fun s9 r9 _ hs9 hs92 hr9 hr92 hz i1 hf hc => ?_)
    · have e1 : s9 = s := by rw [hs] at hs9; exact ((nI_eq (by omega) (by omega)).mp hs9).symm
      have e2 : r9 = r := by rw [hr] at hr9; exact ((nI_eq (by omega) (by omega)).mp hr9).symm
      subst e1 e2
      exact absurd ((hFE (by omega) _ _ hs2 hr2).mpr hz) hx
    · have e1 : s9 = s := by rw [hs] at hs9; exact ((nI_eq (by omega) (by omega)).mp hs9).symm
      have e2 : r9 = r := by rw [hr] at hr9; exact ((nI_eq (by omega) (by omega)).mp hr9).symm
      subst e1 e2
      exact ⟨_, rfl, ⟨hf.1 4096 (by decide) (by decide), hf.1 4097 (by decide) (by decide)⟩, tail_lookaheads hc (by decide) (fun _ => by rw [qU_at, hA (by omega) _ _ hs2 hr2 hx]) (nxt _ _ _ _ (hIV.fm (hf.mono (by decide) (by decide)) (fun c hc => qU_ne hc)))⟩
    skip
