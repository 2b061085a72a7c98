/-! ===== the law: the loop that derives ===== -/
section S95
variable {xs : Nat → Int32} {L n : Nat} {sy : Nat → Nat → Nat}
/-- what is next is looked at: a token, a rule's end, or a nonterminal -/
theorem dlp_body (hL3 : L ≤ 260) {d step e : Nat} {σ w : List Nat} {i : Nat → Nat → Int32} {q : Nat → Nat → Int64} (ih : DLP xs L n sy d) (hst : step + 1 + d = 201) (hp : PV xs L i n sy) (hs : STV i σ) (he : okS n e) (hok : ∀ e ∈ σ, okS n e) (hn : NTD n i w) (hd : ∀ f w', Drv n sy f (e :: σ) w' → ∃ f', Drv n sy f' [8] (w ++ w')) (hl57 : σ.length ≤ 57) (hm1 : w.length ≤ 60) (hk1 : (tks w).length ≤ 39) :
    Wx m_Law_law 441 [some (.ref 4096), some (.ref 0), none, some (.int (nI n)), some (.ref 56), some (.ref 57), some (.ref 58), some (.ref 59), some (.int (nI σ.length)), some (.int (nI w.length)), some (.int (nI (tks w).length)), some (.int (nI step)), some (.int (nI e)), none, none] [] (60, 0, i, q, RT false) (500 + (d + 1), 5000 + 6 * (d + 1)) Qf := by
  obtain ⟨p1, p2, p3, p4, ⟨p5, p6⟩, p7, ⟨h96, h97⟩, p9, p10, p11⟩ := id hp
  have gw := p2.2.2
  have h6 := hn.2.2.1
  rcases he with he | he | he
  · have tm : ¬ tmX (nI e) = 0 := by
      unfold tmX
      rw [nI_toInt (by omega), if_pos (by omega)]; decide
    refine ex_iload dL_law_441 rfl ?_
    refine ex_bipush (v := nI 20) dL_law_443 (by decide) ?_
    refine ex_icmp_geN (tgt := 455) dL_law_445 (by decide) (by omega) (by omega) (fun h445 => by omega) (fun h445 => ?_)
    refine ex_iload dL_law_448 rfl ?_
    refine ex_bipush (v := nI 8) dL_law_450 (by decide) ?_
    refine ex_icmp_geN (tgt := 506) dL_law_452 (by decide) (by omega) (by omega) (fun h452 => by omega) (fun h452 => ?_)
    refine ex_aload dL_law_455 rfl ?_
    refine ex_iload dL_law_457 rfl ?_
    refine ex_iload dL_law_459 rfl ?_
    refine ex_bipush (v := nI 20) dL_law_461 (by decide) ?_
    refine ex_icmp_ltN (tgt := 474) dL_law_463 (by decide) (by omega) (by omega) (fun h463 => ?_) (fun h463 => by omega)
    refine ex_iload dL_law_474 rfl ?_
    refine ex_ineg dL_law_476 ?_
    refine ex_iastN dL_law_477 rfl (by decide) (by omega) ?_
    refine ex_iincN (L' := [some (.ref (4096)), some (.ref (0)), none, some (.int (nI (n))), some (.ref (56)), some (.ref (57)), some (.ref (58)), some (.ref (59)), some (.int (nI (σ.length))), some (.int (nI (w.length + 1))), some (.int (nI ((tks w).length))), some (.int (nI (step))), some (.int (nI (e))), none, none]) dL_law_478 rfl rfl (by decide) rfl ?_
    refine ex_iload dL_law_481 rfl ?_
    refine ex_bipush (v := nI 8) dL_law_483 (by decide) ?_
    refine ex_icmp_geN (tgt := 602) dL_law_485 (by decide) (by omega) (by omega) (fun h485 => by omega) (fun h485 => ?_)
    refine ex_aload_n (i := 1) dL_law_488 rfl rfl ?_
    refine ex_iload dL_law_489 rfl ?_
    refine ex_iload dL_law_491 rfl ?_
    refine ex_cHL (ν := m_Law_token) (as := [.ref (0), .int (nI (e)), .int (nI (step))]) (kc := 500 + d) (sc := 5000 + 6 * d) (by omega) (by omega) dL_law_493 lnH_token mfH_token np_Law_token rfl rfl ⟨(Nat.le_of_ble_eq_true rfl), (Nat.le_of_ble_eq_true rfl), (Nat.le_of_ble_eq_true rfl), (Nat.le_of_ble_eq_true rfl)⟩ ?_
    refine sp_Law_token (ζ := 4) (sp_Works_token (a := (tks w).length) (by rw [xU_ne _ _ _ (show (32 : Nat) ≠ 59 by decide)]; exact h6) (by omega) (fun z => absurd z tm) (fun _ z => by omega) (fun _ _ => WQ.ok ?_))
    refine ⟨_, rfl, ⟨rfl, rfl⟩, ?_⟩
    refine ex_iincN (L' := [some (.ref (4096)), some (.ref (0)), none, some (.int (nI (n))), some (.ref (56)), some (.ref (57)), some (.ref (58)), some (.ref (59)), some (.int (nI (σ.length))), some (.int (nI (w.length + 1))), some (.int (nI ((tks w).length + 1))), some (.int (nI (step))), some (.int (nI (e))), none, none]) dL_law_496 rfl rfl (by decide) rfl ?_
    refine ex_iload dL_law_499 rfl ?_
    refine ex_icmp_eqN (tgt := 602) dL_law_501 (by decide) (by omega) (by omega) (fun h501 => ?_) (fun h501 => by exact absurd rfl h501)
    refine ex_iincN (L' := [some (.ref (4096)), some (.ref (0)), none, some (.int (nI (n))), some (.ref (56)), some (.ref (57)), some (.ref (58)), some (.ref (59)), some (.int (nI (σ.length))), some (.int (nI (w.length + 1))), some (.int (nI ((tks w).length + 1))), some (.int (nI (step + 1))), some (.int (nI (e))), none, none]) dL_law_602 rfl rfl (by decide) rfl ?_
    refine ex_goto (tgt := 395) dL_law_605 (by decide) ?_
    refine ih (step + 1) σ (w ++ [e]) _ _ _ _ q _ _ _ hst (hp.fr (l := [59, 34, 36, 32]) ((((Fr.rf.U (by decide)).U (by decide)).U (by decide)).U (by decide)) (by decide)) (stv_cg hs rfl) hok (ntd_tok hn he rfl) (fun f w' h => ?_) rfl ?_ ?_ (by omega) (by omega) (by omega)
    · have := hd (f + 1) (e :: w') (drv_out (Or.inl (by omega)) h)
      rw [List.append_assoc]; exact this
    · rw [List.length_append]; rfl
    · rw [tks_app, List.length_append, tks_tm (by omega)]; rfl
  · have H0 : Wx m_Law_law 535 [some (.ref 4096), some (.ref 0), none, some (.int (nI n)), some (.ref 56), some (.ref 57), some (.ref 58), some (.ref 59), some (.int (nI σ.length)), some (.int (nI w.length)), some (.int (nI (tks w).length)), some (.int (nI step)), some (.int (nI e)), none, none] [.int (-1)] (60, 0, i, q, RT false) (500 + (d + 1), 5000 + 6 * (d + 1)) Qf := by
      refine ex_istore (L' := [some (.ref (4096)), some (.ref (0)), none, some (.int (nI (n))), some (.ref (56)), some (.ref (57)), some (.ref (58)), some (.ref (59)), some (.int (nI (σ.length))), some (.int (nI (w.length))), some (.int (nI ((tks w).length))), some (.int (nI (step))), some (.int (nI (e))), some (.int ((-1))), none]) dL_law_535 (by decide) rfl ?_
      refine ex_iload dL_law_537 rfl ?_
      refine ex_if_ge (tgt := 544) dL_law_539 (by decide) (fun h539 => by exact absurd h539 (by decide)) (fun h539 => ?_)
      refine ex_iconst (v := nI 1) dL_law_542 (by decide) ?_
      refine ex_K0 ?_
      refine ex_iret dL_law_543 rfl (by decide) ?_
      rfl
    have H1 : ∀ r, r < n → sy r 0 = e → Wx m_Law_law 535 [some (.ref 4096), some (.ref 0), none, some (.int (nI n)), some (.ref 56), some (.ref 57), some (.ref 58), some (.ref 59), some (.int (nI σ.length)), some (.int (nI w.length)), some (.int (nI (tks w).length)), some (.int (nI step)), some (.int (nI e)), none, none] [.int (nI r)] (60, 0, i, q, RT false) (500 + (d + 1), 5000 + 6 * (d + 1)) Qf := by
      intro r hr hre
      refine ex_istore (L' := [some (.ref (4096)), some (.ref (0)), none, some (.int (nI (n))), some (.ref (56)), some (.ref (57)), some (.ref (58)), some (.ref (59)), some (.int (nI (σ.length))), some (.int (nI (w.length))), some (.int (nI ((tks w).length))), some (.int (nI (step))), some (.int (nI (e))), some (.int (nI (r))), none]) dL_law_535 (by decide) rfl ?_
      refine ex_iload dL_law_537 rfl ?_
      refine ex_if_geN (tgt := 544) dL_law_539 (by decide) (by omega) ?_
      refine ex_less (L' := [some (.ref 4096), some (.ref 0), none, some (.int (nI n)), some (.ref 56), some (.ref 57), some (.ref 58), some (.ref 59), some (.int (nI σ.length)), some (.int (nI w.length)), some (.int (nI (tks w).length)), some (.int (nI step)), none, some (.int (nI r)), none]) ⟨rfl, rfl, rfl, rfl, rfl, rfl, rfl, rfl, rfl, rfl, rfl, rfl, trivial⟩ ?_
      exact ex_Kw ⟨by show 500 + d ≤ 500 + (d + 1); omega, by show 5000 + 6 * d ≤ 5000 + 6 * (d + 1); omega⟩ (dlp_push ih hst hp hs hok hn hd he hr hre rfl rfl hl57 (by omega) (by omega))
    have CH : ∀ v b, b < 2 → Wx m_Law_law 532 [some (.ref 4096), some (.ref 0), none, some (.int (nI n)), some (.ref 56), some (.ref 57), some (.ref 58), some (.ref 59), some (.int (nI σ.length)), some (.int (nI w.length)), some (.int (nI (tks w).length)), some (.int (nI step)), some (.int (nI e)), none, none] [.int (nI b), .int v, .int (nI e), .int (nI n), .ref 56] (60, 0, i, q, RT false) (500 + (d + 1), 5000 + 6 * (d + 1)) Qf := by
      intro v b hb
      refine ex_cSL (ν := m_Law_choose) (as := [.ref (56), .int (nI (n)), .int (nI (e)), .int (v), .int (nI (b))]) dL_law_532 ln_Law_69 mf_Law_choose np_Law_choose rfl rfl ⟨(Nat.le_of_ble_eq_true rfl), (Nat.le_of_ble_eq_true rfl), (Nat.le_of_ble_eq_true rfl), (Nat.le_of_ble_eq_true rfl)⟩ ?_
      exact sp_Law_choose (lf := fun j => sy j 0) (m := n) (s := e) (b := b) (by omega) hb (by omega) (by decide) (fun j hj => ⟨p5 j hj, by have := gw.2.2.1 j hj; omega⟩) ⟨_, rfl, ⟨rfl, rfl⟩, H0⟩ (fun r hr he => ⟨_, rfl, ⟨rfl, rfl⟩, H1 r hr he⟩)
      
    refine ex_iload dL_law_441 rfl ?_
    refine ex_bipush (v := nI 20) dL_law_443 (by decide) ?_
    refine ex_icmp_geN (tgt := 455) dL_law_445 (by decide) (by omega) (by omega) (fun h445 => by omega) (fun h445 => ?_)
    refine ex_iload dL_law_448 rfl ?_
    refine ex_bipush (v := nI 8) dL_law_450 (by decide) ?_
    refine ex_icmp_geN (tgt := 506) dL_law_452 (by decide) (by omega) (by omega) (fun h452 => ?_) (fun h452 => by omega)
    refine ex_aload dL_law_506 rfl ?_
    refine ex_iload_n (i := 3) dL_law_508 rfl rfl ?_
    refine ex_iload dL_law_509 rfl ?_
    refine ex_aload_n (i := 0) dL_law_511 rfl rfl ?_
    refine ex_bipush (v := nI 21) dL_law_512 (by decide) ?_
    refine ex_iload dL_law_514 rfl ?_
    refine ex_iaddN dL_law_516 ?_
    refine ex_cZL (ν := m_Law_cell) (as := [.ref (4096), .int (nI (21 + step))]) (by decide) dL_law_517 ln_Law_39 mfZ_Law_cell np_Law_cell rfl rfl ⟨(Nat.le_of_ble_eq_true rfl), (Nat.le_of_ble_eq_true rfl), (Nat.le_of_ble_eq_true rfl), (Nat.le_of_ble_eq_true rfl)⟩ ?_
    refine sp_Law_cell (by omega) h97 hL3 h96 ?_
    refine ⟨_, rfl, ⟨rfl, rfl⟩, ?_⟩
    refine ex_iload dL_law_520 rfl ?_
    refine ex_bipush (v := nI 25) dL_law_522 (by decide) ?_
    refine ex_icmp_leN (tgt := 531) dL_law_524 (by decide) (by omega) (by omega) (fun h524 => ?_) (fun h524 => ?_)
    · refine ex_iconst (v := nI 0) dL_law_531 (by decide) ?_
      exact CH _ _ (by decide)
    · refine ex_iconst (v := nI 1) dL_law_527 (by decide) ?_
      refine ex_goto (tgt := 532) dL_law_528 (by decide) ?_
      exact CH _ _ (by decide)
  · obtain ⟨r, rfl⟩ : ∃ r, e = 20 + r := ⟨e - 20, by omega⟩
    refine ex_iload dL_law_441 rfl ?_
    refine ex_bipush (v := nI 20) dL_law_443 (by decide) ?_
    refine ex_icmp_geN (tgt := 455) dL_law_445 (by decide) (by omega) (by omega) (fun h445 => ?_) (fun h445 => by omega)
    refine ex_aload dL_law_455 rfl ?_
    refine ex_iload dL_law_457 rfl ?_
    refine ex_iload dL_law_459 rfl ?_
    refine ex_bipush (v := nI 20) dL_law_461 (by decide) ?_
    refine ex_icmp_ltN (tgt := 474) dL_law_463 (by decide) (by omega) (by omega) (fun h463 => by omega) (fun h463 => ?_)
    refine ex_iload dL_law_466 rfl ?_
    refine ex_bipush (v := nI 20) dL_law_468 (by decide) ?_
    refine ex_isubN dL_law_470 (by omega) ?_
    refine ex_goto (tgt := 477) dL_law_471 (by decide) ?_
    refine ex_iastN dL_law_477 rfl (by decide) (by omega) ?_
    refine ex_iincN (L' := [some (.ref (4096)), some (.ref (0)), none, some (.int (nI (n))), some (.ref (56)), some (.ref (57)), some (.ref (58)), some (.ref (59)), some (.int (nI (σ.length))), some (.int (nI (w.length + 1))), some (.int (nI ((tks w).length))), some (.int (nI (step))), some (.int (nI (20 + r))), none, none]) dL_law_478 rfl rfl (by decide) rfl ?_
    refine ex_iload dL_law_481 rfl ?_
    refine ex_bipush (v := nI 8) dL_law_483 (by decide) ?_
    refine ex_icmp_geN (tgt := 602) dL_law_485 (by decide) (by omega) (by omega) (fun h485 => ?_) (fun h485 => by omega)
    refine ex_iincN (L' := [some (.ref (4096)), some (.ref (0)), none, some (.int (nI (n))), some (.ref (56)), some (.ref (57)), some (.ref (58)), some (.ref (59)), some (.int (nI (σ.length))), some (.int (nI (w.length + 1))), some (.int (nI ((tks w).length))), some (.int (nI (step + 1))), some (.int (nI (20 + r))), none, none]) dL_law_602 rfl rfl (by decide) rfl ?_
    refine ex_goto (tgt := 395) dL_law_605 (by decide) ?_
    refine ex_Kw (K := (500 + d, 5000 + 6 * d)) ⟨by show 500 + d ≤ 500 + (d + 1); omega, by show 5000 + 6 * d ≤ 5000 + 6 * (d + 1); omega⟩ ?_
    refine ih (step + 1) σ (w ++ [20 + r]) _ _ _ _ q _ _ _ hst (hp.fr (l := [59]) (Fr.rf.U (by decide)) (by decide)) (stv_cg hs rfl) hok (ntd_rule hn (by omega) (Fr.rf.U (by decide)) ?_) (fun f w' h => ?_) rfl ?_ ?_ (by omega) (by omega) (by omega)
    · rw [xU_at, show 20 + r - 20 = r by omega]
    · have := hd (f + 1) ((20 + r) :: w') (drv_out (Or.inr (by omega)) h)
      rw [List.append_assoc]; exact this
    · rw [List.length_append]; rfl
    · rw [tks_app, List.length_append, tks_rl (by omega)]; rfl
theorem dlp_all (hL3 : L ≤ 260) (hN : NXD xs L n sy) : ∀ d, DLP xs L n sy d := by
  intro d
  induction d with
  | zero =>
    intro step σ w h m k i q x12 x13 x14 hst hp hs hok hn hd hh hm hk hh1 hm1 hk1
    cases σ with
    | nil =>
      subst hh
      exact dlp_end hN hp hn hd hm hk hm1 hk1
    | cons e σ =>
      subst hh hm hk
      refine ex_less (L' := [some (.ref 4096), some (.ref 0), none, some (.int (nI n)), some (.ref 56), some (.ref 57), some (.ref 58), some (.ref 59), some (.int (nI (σ.length + 1))), some (.int (nI w.length)), some (.int (nI (tks w).length)), some (.int (nI step)), none, none, none]) ⟨rfl, rfl, rfl, rfl, rfl, rfl, rfl, rfl, rfl, rfl, rfl, trivial⟩ ?_
      have hl : σ.length + 1 ≤ 63 := hh1
      refine ex_iload dL_law_395 rfl ?_
      refine ex_if_leN (tgt := 608) dL_law_397 (by decide) (by omega) (fun h397 => by omega) (fun h397 => ?_)
      refine ex_iload dL_law_400 rfl ?_
      refine ex_sipush (v := nI 200) dL_law_402 (by decide) ?_
      refine ex_icmp_gtN (tgt := 429) dL_law_405 (by decide) (by omega) (by omega) (fun h405 => ?_) (fun h405 => by omega)
      exact dlp_ret
  | succ d ih =>
    intro step σ w h m k i q x12 x13 x14 hst hp hs hok hn hd hh hm hk hh1 hm1 hk1
    cases σ with
    | nil =>
      subst hh
      exact dlp_end hN hp hn hd hm hk hm1 hk1
    | cons e σ =>
      subst hh hm hk
      refine ex_less (L' := [some (.ref 4096), some (.ref 0), none, some (.int (nI n)), some (.ref 56), some (.ref 57), some (.ref 58), some (.ref 59), some (.int (nI (σ.length + 1))), some (.int (nI w.length)), some (.int (nI (tks w).length)), some (.int (nI step)), none, none, none]) ⟨rfl, rfl, rfl, rfl, rfl, rfl, rfl, rfl, rfl, rfl, rfl, trivial⟩ ?_
      have hl : σ.length + 1 ≤ 63 := hh1
      obtain ⟨s1, s2⟩ := stv_pop hs
      refine ex_iload dL_law_395 rfl ?_
      refine ex_if_leN (tgt := 608) dL_law_397 (by decide) (by omega) (fun h397 => by omega) (fun h397 => ?_)
      refine ex_iload dL_law_400 rfl ?_
      refine ex_sipush (v := nI 200) dL_law_402 (by decide) ?_
      refine ex_icmp_gtN (tgt := 429) dL_law_405 (by decide) (by omega) (by omega) (fun h405 => by omega) (fun h405 => ?_)
      refine ex_iload dL_law_408 rfl ?_
      refine ex_bipush (v := nI 58) dL_law_410 (by decide) ?_
      refine ex_icmp_gtN (tgt := 429) dL_law_412 (by decide) (by omega) (by omega) (fun h412 => ?_) (fun h412 => ?_)
      · exact dlp_ret
      · refine ex_iload dL_law_415 rfl ?_
        refine ex_bipush (v := nI 60) dL_law_417 (by decide) ?_
        refine ex_icmp_gtN (tgt := 429) dL_law_419 (by decide) (by omega) (by omega) (fun h419 => ?_) (fun h419 => ?_)
        · exact dlp_ret
        · refine ex_iload dL_law_422 rfl ?_
          refine ex_bipush (v := nI 39) dL_law_424 (by decide) ?_
          refine ex_icmp_leN (tgt := 431) dL_law_426 (by decide) (by omega) (by omega) (fun h426 => ?_) (fun h426 => ?_)
          · refine ex_idecN (b := σ.length) (L' := [some (.ref (4096)), some (.ref (0)), none, some (.int (nI (n))), some (.ref (56)), some (.ref (57)), some (.ref (58)), some (.ref (59)), some (.int (nI (σ.length))), some (.int (nI (w.length))), some (.int (nI ((tks w).length))), some (.int (nI (step))), none, none, none]) dL_law_431 rfl rfl (by decide) rfl ?_
            refine ex_aload dL_law_434 rfl ?_
            refine ex_iload dL_law_436 rfl ?_
            refine ex_ialdN dL_law_438 rfl (by decide) (by omega) rfl ?_
            refine ex_asN (a := e) s2 ?_
            refine ex_istore (L' := [some (.ref (4096)), some (.ref (0)), none, some (.int (nI (n))), some (.ref (56)), some (.ref (57)), some (.ref (58)), some (.ref (59)), some (.int (nI (σ.length))), some (.int (nI (w.length))), some (.int (nI ((tks w).length))), some (.int (nI (step))), some (.int (nI (e))), none, none]) dL_law_439 (by decide) rfl ?_
            exact dlp_body hL3 ih (by omega) hp s1 (hok e List.mem_cons_self) (fun a ha => hok a (List.mem_cons_of_mem _ ha)) hn hd (by omega) (by omega) (by omega)
          · exact dlp_ret
/-- the derivation, whole -/
theorem lw_derive (hL3 : L ≤ 260) (hN : NXD xs L n sy) : NXB xs L n sy := by
  intro i q hp h6 h8
  refine ex_Kw (K := (500 + 201, 5000 + 6 * 201)) ⟨by decide, by decide⟩ ?_
  refine dlp_all hL3 hN 201 0 [8] [] 1 0 0 i q none none none (by decide) hp (fun j e hj => ?_) (fun e he => ?_) ⟨fun j e hj => by simp at hj, fun e he => (by cases he), h6, fun j x hj => by simp [tks] at hj⟩ (fun f w' h => ⟨f, h⟩) rfl rfl rfl (by decide) (by decide) (by decide)
  · cases j with
    | zero =>
      have : 8 = e := by simpa using hj
      subst this; exact h8
    | succ j => simp at hj
  · have : e = 8 := by simpa using he
    subst this; exact Or.inr (Or.inl (by decide))
end S95
