/-! ===== the law: its build ===== -/
theorem ex_newaF {μ : xMeth} {pc : Nat} {Lc : xLoc} {st : List Value} {n : Nat} {i : Nat → Nat → Int32} {q : Nat → Nat → Int64} {r : Nat → Nat → Value} {k1 k2 : Nat} {Q : xRes → xMem → Prop} {N : Nat} {x : Int32} (d : decode (xCd μ) pc = .ok (.newarray .int, 2)) (har : Cond.arrayClass .int ∈ xWd) (hs : SHl[n]? = some (.inr (0, N))) (hx : x = nI N) (hN : N < 4096)
    (kk : ∀ i', Fr [n] i i' → Wx μ (pc + 2) Lc (.ref n :: st) (n + 1, 0, i', q, r) (k1, k2) Q) : Wx μ pc Lc (.int x :: st) (n, 0, i, q, r) (k1 + 1, k2 + N) Q :=
  ex_newaI d har hs hx hN (kk _ (fun c hc => if_neg (fun e => hc (by rw [e]; exact List.mem_singleton.mpr rfl))))
section S93a
variable {ζ g : Nat} {i : Nat → Nat → Int32} {q : Nat → Nat → Int64} {Q : xRes → xMem → Prop}
theorem sp_lc3_46 {b f : Nat} (h7 : i 0 7 = nI b) (hb : b ≤ 1) (hf : b = 1 → i 27 3 = nI f ∧ f < 2) (hQ : Q (.ok (some (.int (if b = 1 then i 16 7 else nI 0)))) (56 + ζ, g, i, q, RT false)) : Wx m_Law_count 0 [some (.ref 0), some (.int (nI 3)), none] [] (56 + ζ, g, i, q, RT false) (1, 6) Q :=
  sp_Law_count (sp_Works_count_46 h7 hb hf (fun h => absurd ⟨3, rfl, by decide⟩ h) (fun k hk hk7 => WQ.ok (by
    have e : k = 3 := ((nI_eq (by decide) (by omega)).mp hk).symm
    subst e; exact hQ)))
theorem sp_lc4_46 {b f : Nat} (h7 : i 0 7 = nI b) (hb : b ≤ 1) (hf : b = 1 → i 27 3 = nI f ∧ f < 2) (hQ : Q (.ok (some (.int (if b = 1 then nI f else nI 0)))) (56 + ζ, g, i, q, RT false)) : Wx m_Law_count 0 [some (.ref 0), some (.int (nI 4)), none] [] (56 + ζ, g, i, q, RT false) (1, 6) Q :=
  sp_Law_count (sp_Works_count_46 h7 hb hf (fun h => absurd ⟨4, rfl, by decide⟩ h) (fun k hk hk7 => WQ.ok (by
    have e : k = 4 := ((nI_eq (by decide) (by omega)).mp hk).symm
    subst e; exact hQ)))
theorem sp_lc5_51 {b f : Nat} (h7 : i 0 7 = nI b) (hb : b ≤ 1) (hf : b = 1 → i 27 3 = nI f ∧ f < 2) (hQ : Q (.ok (some (.int (i 51 2)))) (56 + ζ, g, i, q, RT true)) : Wx m_Law_count 0 [some (.ref 0), some (.int (nI 5)), none] [] (56 + ζ, g, i, q, RT true) (1, 6) Q :=
  sp_Law_count (sp_Works_count_51 h7 hb hf (fun h => absurd ⟨5, rfl, by decide⟩ h) (fun k hk hk7 => WQ.ok (by
    have e : k = 5 := ((nI_eq (by decide) (by omega)).mp hk).symm
    subst e; exact hQ)))
theorem sp_lc6_51 {b f : Nat} (h7 : i 0 7 = nI b) (hb : b ≤ 1) (hf : b = 1 → i 27 3 = nI f ∧ f < 2) (hQ : Q (.ok (some (.int (i 32 6)))) (56 + ζ, g, i, q, RT true)) : Wx m_Law_count 0 [some (.ref 0), some (.int (nI 6)), none] [] (56 + ζ, g, i, q, RT true) (1, 6) Q :=
  sp_Law_count (sp_Works_count_51 h7 hb hf (fun h => absurd ⟨6, rfl, by decide⟩ h) (fun k hk hk7 => WQ.ok (by
    have e : k = 6 := ((nI_eq (by decide) (by omega)).mp hk).symm
    subst e; exact hQ)))
end S93a
/-- a built table without conflicts, of a grammar without levels and equations -/
def BT (i : Nat → Nat → Int32) (n : Nat) (sy : Nat → Nat → Nat) : Prop := ∃ S T pr F fi, LCt n sy T S pr ∧ isF n sy fi ∧ CLa n sy fi T S F ∧ (∀ s it, s < S → it < 75 → pr s it → F (s * 75 + it) ≠ 0) ∧ (F 70).testBit 0 = true ∧
  (∀ s x, s < S → 1 ≤ x → x < 14 → i 24 (s * 14 + x) = nI (T s x)) ∧ (∀ j, j < 7 * S → i 26 j = DcA sy (fun _ => 0) (fun _ => 0) F T j ∧ DcA sy (fun _ => 0) (fun _ => 0) F T j ≠ nI 1001) ∧ i 16 7 = nI 0 ∧ i 27 3 = nI 0
/-- what holds while tokens are added -/
def PV (xs : Nat → Int32) (L : Nat) (i : Nat → Nat → Int32) (n : Nat) (sy : Nat → Nat → Nat) : Prop :=
  SC i ∧ GS i n sy ∧ ES i (fun _ => 0) (fun _ => 0) (fun _ => 0) ∧ BT i n sy ∧ AR i n sy ∧ i 0 7 = nI 1 ∧ (i 4096 = xs ∧ i 4097 0 = nI L) ∧ sy 0 0 = 8 ∧ 1 ≤ n ∧ n ≤ 6
theorem PV.fr {xs : Nat → Int32} {L n : Nat} {sy : Nat → Nat → Nat} {i i1 : Nat → Nat → Int32} {l : List Nat} (h : PV xs L i n sy) (hf : Fr l i i1) (hl : ∀ c ∈ l, c ∈ [32, 34, 36, 58, 59]) : PV xs L i1 n sy := by
  obtain ⟨a, b, c, ⟨S, T, pr, F, fi, d1, d2, d3, d4, d5, d6, d7, d8, d9⟩, e, f, ⟨g1, g2⟩, h1, h2, h3⟩ := h
  have hf : Fr [32, 34, 36, 58, 59] i i1 := hf.mono hl
  exact ⟨SC_Fr (l := [32, 34, 36, 58, 59]) rfl hf a, b.fr hf (by decide) (by decide), c.fr hf (by decide) (by decide) (by decide), ⟨S, T, pr, F, fi, d1, d2, d3, d4, d5, fun s x hs h1 h2 => by rw [hf 24 (by decide)]; exact d6 s x hs h1 h2, fun j hj => by rw [hf 26 (by decide)]; exact d7 j hj, by rw [hf 16 (by decide)]; exact d8, by rw [hf 27 (by decide)]; exact d9⟩,
    ⟨fun r hr => by rw [hf 56 (by decide)]; exact e.1 r hr, fun r k hr hk => by rw [hf 57 (by decide)]; exact e.2 r k hr hk⟩, by rw [hf 0 (by decide)]; exact f, ⟨by rw [hf 4096 (by decide)]; exact g1, by rw [hf 4097 (by decide)]; exact g2⟩, h1, h2, h3⟩
/-- the law's end -/
abbrev Qf : xRes → xMem → Prop := fun r _ => r = .ok (some (.int 1))
abbrev NXB (xs : Nat → Int32) (L n : Nat) (sy : Nat → Nat → Nat) : Prop := ∀ i q, PV xs L i n sy → i 32 6 = nI 0 → i 58 0 = nI 8 → Wx m_Law_law 395 [some (.ref 4096), some (.ref 0), none, some (.int (nI n)), some (.ref 56), some (.ref 57), some (.ref 58), some (.ref 59), some (.int (nI 1)), some (.int (nI 0)), some (.int (nI 0)), some (.int (nI 0)), none, none, none] [] (60, 0, i, q, RT false) (800, 8000) Qf
theorem lw_build {xs : Nat → Int32} {L n : Nat} {sy : Nat → Nat → Nat} {i : Nat → Nat → Int32} (hn1 : 1 ≤ n) (hn6 : n ≤ 6) (hv : LV xs L i n sy) (ha : AR i n sy) (h8 : sy 0 0 = 8) (hN : NXB xs L n sy) :
    Wx m_Law_law 327 [some (.ref 4096), some (.ref 0), none, some (.int (nI n)), some (.ref 56), some (.ref 57), none, none, none, none, none, none, none, none, none] [] (58, 0, i, q0L, RT false) (900, 9000) Qf := by
  obtain ⟨v1, v2, v3, ⟨f, v4, v5⟩, v6, v7, v8, ⟨v9, v10⟩, v11, v12⟩ := hv
  have gw := v3.2.2
  by_cases hS : (KS n sy).length ≤ 50
  · have k1 := (KS_0 (n := n) (sy := sy)).1
    have AFTER : ∀ i1 q1, Fr [0, 16, 22, 24, 26, 27, 29, 31] i i1 → i1 0 7 = nI 1 → BL n sy (fun _ => 0) (fun _ => 0) (fun _ => 0) f (fun _ => 0) (fun _ => 0) i1 → Wx m_Law_law 331 [some (.ref 4096), some (.ref 0), none, some (.int (nI n)), some (.ref 56), some (.ref 57), none, none, none, none, none, none, none, none, none] [.int (nI (KS n sy).length)] (58, 0, i1, q1, RT false) (899, 8994) Qf := by
      intro i1 q1 f1 e7 hB
      obtain ⟨S, T, pr, F, t1, t2, t3, t4, t5, t6, t7, t8⟩ := tab_of gw hn1 v5 hB
      obtain ⟨F0, F9, tr, fl, -, -, -, -, -, -, ⟨r1, r2, r3, -, -⟩⟩ := hB
      have fl0 : fl = 0 := by
        by_cases z : fl = 0
        · exact z
        · exact absurd (r3.mp (by omega)) (slA_0 (fun _ => rfl))
      subst fl0
      obtain ⟨cj, hcj⟩ : ∃ cj, cj = cjF (DcA sy (fun _ => 0) (fun _ => 0) F T) (7 * S) := ⟨_, rfl⟩
      rw [← hcj] at t8
      have hcl : cj ≤ 7 * S := by rw [hcj]; exact cjF_le
      have hS50 := t1.1.2.1
      by_cases c0 : cj = 0
      · have nx : ∀ i2, Fr [58, 59] i1 i2 → PV xs L (xU i2 58 0 (nI 8)) n sy := fun i2 f2 => by
          have f3 : Fr [58, 59] i1 (xU i2 58 0 (nI 8)) := f2.U (by decide)
          have f4 : Fr [0, 16, 22, 24, 26, 27, 29, 31, 58, 59] i (xU i2 58 0 (nI 8)) := (f1.mono (by decide)).tr (f3.mono (by decide))
          refine ⟨SC_Fr (l := [0, 16, 22, 24, 26, 27, 29, 31, 58, 59]) rfl f4 v1, v3.fr f4 (by decide) (by decide), v6.fr f4 (by decide) (by decide) (by decide), ⟨S, T, pr, F, f, t1, v5, t2, t3, t4, fun s x hs h1 h2 => by rw [f3 24 (by decide)]; exact t6 s x hs h1 h2, fun j hj => ⟨by rw [f3 26 (by decide)]; exact t7 j hj, cjF_0 (by rw [← hcj]; exact c0) j hj⟩, by rw [f3 16 (by decide), t8, c0], by rw [f3 27 (by decide)]; exact r1⟩,
            ⟨fun r hr => by rw [f4 56 (by decide)]; exact ha.1 r hr, fun r k hr hk => by rw [f4 57 (by decide)]; exact ha.2 r k hr hk⟩, by rw [f3 0 (by decide)]; exact e7, ⟨by rw [f4 4096 (by decide)]; exact v11, by rw [f4 4097 (by decide)]; exact v12⟩, h8, hn1, hn6⟩
        refine ex_iconst (v := nI 1) dL_law_331 (by decide) ?_
        refine ex_icmp_ltN (tgt := 351) dL_law_332 (by decide) (by omega) (by omega) (fun h332 => by omega) (fun h332 => ?_)
        refine ex_aload_n (i := 1) dL_law_335 rfl rfl ?_
        refine ex_iconst (v := nI 3) dL_law_336 (by decide) ?_
        refine ex_cHL (ν := m_Law_count) (as := [.ref (0), .int (nI (3))]) (kc := 898) (sc := 8988) (by decide) (by decide) dL_law_337 lnH_count mfH_count np_Law_count rfl rfl ⟨(Nat.le_of_ble_eq_true rfl), (Nat.le_of_ble_eq_true rfl), (Nat.le_of_ble_eq_true rfl), (Nat.le_of_ble_eq_true rfl)⟩ ?_
        refine sp_lc3_46 (ζ := 2) (b := 1) (f := 0) e7 (Nat.le_refl _) (fun _ => ⟨r1, by decide⟩) ?_
        refine ⟨_, rfl, ⟨rfl, rfl⟩, ?_⟩
        refine ex_asN (a := 0) (by rw [if_pos rfl, t8, c0]) ?_
        refine ex_if_neN (tgt := 351) dL_law_340 (by decide) (by omega) (fun h340 => by exact absurd h340 (by decide)) (fun h340 => ?_)
        refine ex_aload_n (i := 1) dL_law_343 rfl rfl ?_
        refine ex_iconst (v := nI 4) dL_law_344 (by decide) ?_
        refine ex_cHL (ν := m_Law_count) (as := [.ref (0), .int (nI (4))]) (kc := 897) (sc := 8982) (by decide) (by decide) dL_law_345 lnH_count mfH_count np_Law_count rfl rfl ⟨(Nat.le_of_ble_eq_true rfl), (Nat.le_of_ble_eq_true rfl), (Nat.le_of_ble_eq_true rfl), (Nat.le_of_ble_eq_true rfl)⟩ ?_
        refine sp_lc4_46 (ζ := 2) (b := 1) (f := 0) e7 (Nat.le_refl _) (fun _ => ⟨r1, by decide⟩) ?_
        refine ⟨_, rfl, ⟨rfl, rfl⟩, ?_⟩
        refine ex_asN (a := 0) (by rw [if_pos rfl]) ?_
        refine ex_if_eqN (tgt := 365) dL_law_348 (by decide) (by omega) (fun h348 => ?_) (fun h348 => by exact absurd h348 (by decide))
        refine ex_bipush (v := nI 64) dL_law_365 (by decide) ?_
        refine ex_Kw (K := (896 + 1, 8918 + 64)) ⟨by decide, by decide⟩ ?_
        refine ex_newaF (N := 64) dL_law_367 wr_int rfl rfl (by decide) (fun iz58 hiz58 => ?_)
        refine ex_astore (L' := [some (.ref (4096)), some (.ref (0)), none, some (.int (nI (n))), some (.ref (56)), some (.ref (57)), some (.ref (58)), none, none, none, none, none, none, none, none]) dL_law_369 (by decide) rfl ?_
        refine ex_bipush (v := nI 64) dL_law_371 (by decide) ?_
        refine ex_Kw (K := (895 + 1, 8854 + 64)) ⟨by decide, by decide⟩ ?_
        refine ex_newaF (N := 64) dL_law_373 wr_int rfl rfl (by decide) (fun iz59 hiz59 => ?_)
        refine ex_astore (L' := [some (.ref (4096)), some (.ref (0)), none, some (.int (nI (n))), some (.ref (56)), some (.ref (57)), some (.ref (58)), some (.ref (59)), none, none, none, none, none, none, none]) dL_law_375 (by decide) rfl ?_
        refine ex_iconst (v := nI 1) dL_law_377 (by decide) ?_
        refine ex_istore (L' := [some (.ref (4096)), some (.ref (0)), none, some (.int (nI (n))), some (.ref (56)), some (.ref (57)), some (.ref (58)), some (.ref (59)), some (.int (nI (1))), none, none, none, none, none, none]) dL_law_378 (by decide) rfl ?_
        refine ex_iconst (v := nI 0) dL_law_380 (by decide) ?_
        refine ex_istore (L' := [some (.ref (4096)), some (.ref (0)), none, some (.int (nI (n))), some (.ref (56)), some (.ref (57)), some (.ref (58)), some (.ref (59)), some (.int (nI (1))), some (.int (nI (0))), none, none, none, none, none]) dL_law_381 (by decide) rfl ?_
        refine ex_iconst (v := nI 0) dL_law_383 (by decide) ?_
        refine ex_istore (L' := [some (.ref (4096)), some (.ref (0)), none, some (.int (nI (n))), some (.ref (56)), some (.ref (57)), some (.ref (58)), some (.ref (59)), some (.int (nI (1))), some (.int (nI (0))), some (.int (nI (0))), none, none, none, none]) dL_law_384 (by decide) rfl ?_
        refine ex_aload dL_law_386 rfl ?_
        refine ex_iconst (v := nI 0) dL_law_388 (by decide) ?_
        refine ex_bipush (v := nI 8) dL_law_389 (by decide) ?_
        refine ex_iastN dL_law_391 rfl (by decide) (by omega) ?_
        refine ex_iconst (v := nI 0) dL_law_392 (by decide) ?_
        refine ex_istore (L' := [some (.ref (4096)), some (.ref (0)), none, some (.int (nI (n))), some (.ref (56)), some (.ref (57)), some (.ref (58)), some (.ref (59)), some (.int (nI (1))), some (.int (nI (0))), some (.int (nI (0))), some (.int (nI (0))), none, none, none]) dL_law_393 (by decide) rfl ?_
        have f9 : Fr [58, 59] i1 iz59 := (hiz58.mono (by decide)).tr (hiz59.mono (by decide))
        have f10 : Fr [58, 59] i1 (xU iz59 58 0 (nI 8)) := f9.U (by decide)
        refine ex_Kw ⟨by decide, by decide⟩ (hN _ q1 (nx _ f9) ?_ (by rw [xU_at]; unfold upd; rw [if_pos rfl]))
        rw [f10 32 (by decide), f1 32 (by decide)]; exact v10
      ·
        refine ex_iconst (v := nI 1) dL_law_331 (by decide) ?_
        refine ex_icmp_ltN (tgt := 351) dL_law_332 (by decide) (by omega) (by omega) (fun h332 => by omega) (fun h332 => ?_)
        refine ex_aload_n (i := 1) dL_law_335 rfl rfl ?_
        refine ex_iconst (v := nI 3) dL_law_336 (by decide) ?_
        refine ex_cHL (ν := m_Law_count) (as := [.ref (0), .int (nI (3))]) (kc := 898) (sc := 8988) (by decide) (by decide) dL_law_337 lnH_count mfH_count np_Law_count rfl rfl ⟨(Nat.le_of_ble_eq_true rfl), (Nat.le_of_ble_eq_true rfl), (Nat.le_of_ble_eq_true rfl), (Nat.le_of_ble_eq_true rfl)⟩ ?_
        refine sp_lc3_46 (ζ := 2) (b := 1) (f := 0) e7 (Nat.le_refl _) (fun _ => ⟨r1, by decide⟩) ?_
        refine ⟨_, rfl, ⟨rfl, rfl⟩, ?_⟩
        refine ex_asN (a := cj) (by rw [if_pos rfl, t8]) ?_
        refine ex_if_neN (tgt := 351) dL_law_340 (by decide) (by omega) (fun h340 => ?_) (fun h340 => by exact absurd h340 c0)
        refine ex_aload_n (i := 1) dL_law_351 rfl rfl ?_
        refine ex_iconst (v := nI 4) dL_law_352 (by decide) ?_
        refine ex_cHL (ν := m_Law_count) (as := [.ref (0), .int (nI (4))]) (kc := 897) (sc := 8982) (by decide) (by decide) dL_law_353 lnH_count mfH_count np_Law_count rfl rfl ⟨(Nat.le_of_ble_eq_true rfl), (Nat.le_of_ble_eq_true rfl), (Nat.le_of_ble_eq_true rfl), (Nat.le_of_ble_eq_true rfl)⟩ ?_
        refine sp_lc4_46 (ζ := 2) (b := 1) (f := 0) e7 (Nat.le_refl _) (fun _ => ⟨r1, by decide⟩) ?_
        refine ⟨_, rfl, ⟨rfl, rfl⟩, ?_⟩
        refine ex_asN (a := 0) (by rw [if_pos rfl]) ?_
        refine ex_if_neN (tgt := 363) dL_law_356 (by decide) (by omega) (fun h356 => by exact absurd h356 (by decide)) (fun h356 => ?_)
        refine ex_iconst (v := nI 1) dL_law_359 (by decide) ?_
        refine ex_goto (tgt := 364) dL_law_360 (by decide) ?_
        refine ex_K0 ?_
        refine ex_iret dL_law_364 rfl (by decide) ?_
        rfl
    refine ex_aload_n (i := 1) dL_law_327 rfl rfl ?_
    refine ex_cHL (ν := m_Law_build) (as := [.ref (0)]) (kc := 899) (sc := 8994) (by decide) (by decide) dL_law_328 lnH_build mfH_build np_Law_build rfl rfl ⟨(Nat.le_of_ble_eq_true rfl), (Nat.le_of_ble_eq_true rfl), (Nat.le_of_ble_eq_true rfl), (Nat.le_of_ble_eq_true rfl)⟩ ?_
    refine sp_Law_build (ζ := 2) (sp_Works_build v1 v3 v6 v2 v4 v5.2.2 v7 (fun _ => Nat.zero_le _) v8 (fun _ => Nat.zero_le _) (fun z => by omega) (fun _ z => by omega) (fun _ _ i1 q1 f1 e7 e8 fq hB => ?_))
    refine WQ.ok ?_
    refine ⟨_, rfl, ⟨f1 4096 (by decide), f1 4097 (by decide)⟩, ?_⟩
    exact AFTER i1 q1 f1 e7 hB
  ·
    refine ex_aload_n (i := 1) dL_law_327 rfl rfl ?_
    refine ex_cHL (ν := m_Law_build) (as := [.ref (0)]) (kc := 899) (sc := 8994) (by decide) (by decide) dL_law_328 lnH_build mfH_build np_Law_build rfl rfl ⟨(Nat.le_of_ble_eq_true rfl), (Nat.le_of_ble_eq_true rfl), (Nat.le_of_ble_eq_true rfl), (Nat.le_of_ble_eq_true rfl)⟩ ?_
    refine sp_Law_build (ζ := 2) (sp_Works_build v1 v3 v6 v2 v4 v5.2.2 v7 (fun _ => Nat.zero_le _) v8 (fun _ => Nat.zero_le _) (fun z => by omega) (fun _ _ i1 q1 f1 e7 e8 fq sb => ?_) (fun _ z => absurd z hS))
    refine WQ.er (c := -102) rfl ?_
    refine ⟨_, rfl, ⟨f1 4096 (by decide), f1 4097 (by decide)⟩, ?_⟩
    refine ex_iconst (v := nI 1) dL_law_331 (by decide) ?_
    refine ex_icmp_lt (tgt := 351) dL_law_332 (by decide) (fun h332 => ?_) (fun h332 => by exact absurd (by decide) h332)
    refine ex_aload_n (i := 1) dL_law_351 rfl rfl ?_
    refine ex_iconst (v := nI 4) dL_law_352 (by decide) ?_
    refine ex_cHL (ν := m_Law_count) (as := [.ref (0), .int (nI (4))]) (kc := 898) (sc := 8988) (by decide) (by decide) dL_law_353 lnH_count mfH_count np_Law_count rfl rfl ⟨(Nat.le_of_ble_eq_true rfl), (Nat.le_of_ble_eq_true rfl), (Nat.le_of_ble_eq_true rfl), (Nat.le_of_ble_eq_true rfl)⟩ ?_
    refine sp_lc4_46 (ζ := 2) (b := 0) (f := 0) e7 (Nat.zero_le _) (fun z => absurd z (by decide)) ?_
    refine ⟨_, rfl, ⟨rfl, rfl⟩, ?_⟩
    refine ex_asN (a := 0) (by rw [if_neg (by decide)]) ?_
    refine ex_if_neN (tgt := 363) dL_law_356 (by decide) (by omega) (fun h356 => by exact absurd h356 (by decide)) (fun h356 => ?_)
    refine ex_iconst (v := nI 1) dL_law_359 (by decide) ?_
    refine ex_goto (tgt := 364) dL_law_360 (by decide) ?_
    refine ex_K0 ?_
    refine ex_iret dL_law_364 rfl (by decide) ?_
    rfl
