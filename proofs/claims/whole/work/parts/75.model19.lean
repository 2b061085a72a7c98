/-! ===== the reference: build ===== -/
/-- the targets, as one row -/
noncomputable def TJm (n : Nat) (sy : Nat → Nat → Nat) (j : Nat) : Nat := if j % 14 = 0 then 0 else tg n sy (KS n sy) (j / 14) (j % 14)
/-- which rules can be reduced, as the reference has it -/
def PmA (n : Nat) (sy : Nat → Nat → Nat) (E A : Nat → Nat) (s x k : Nat) : Prop := (k < n ∧ E (75 * s + 5 * k + lnR sy k) ≠ 0 ∧ (A (14 * s + k)).testBit x = true) ∨ (k = 14 ∧ x = 0 ∧ E (75 * s + 71) ≠ 0)
noncomputable def DmS (n : Nat) (sy : Nat → Nat → Nat) (lv kd E A : Nat → Nat) (s x : Nat) : Int32 := dcV (rcF (PmA n sy E A s x) 15) (if x = 0 then 0 else TJm n sy (14 * s + x)) (lvS lv (sy (rcF (PmA n sy E A s x) 15).2)) (lv x) (kd x)
noncomputable def DmA (n : Nat) (sy : Nat → Nat → Nat) (lv kd E A : Nat → Nat) (j : Nat) : Int32 := DmS n sy lv kd E A (j / 7) (j % 7)
/-- what a build of the reference leaves -/
def ML (n : Nat) (sy : Nat → Nat → Nat) (op xp yp lv kd : Nat → Nat) (i1 : Nat → Nat → Int32) : Prop := ∃ (E f RD W A H : Nat → Nat) (fl : Nat),
  MFI n sy (KS n sy) i1 E ∧ (∀ j, j < 14 * (KS n sy).length → i1 67 j = nI (TJm n sy j) ∧ TJm n sy j < (KS n sy).length) ∧ isF n sy f ∧
  (clR (TJm n sy) f (KS n sy).length (sy 0 0) RD ∧ leR (TJm n sy) f (KS n sy).length (sy 0 0) RD) ∧ (clW (TJm n sy) f (KS n sy).length n sy RD W ∧ leW (TJm n sy) f (KS n sy).length n sy RD W) ∧
  (Vw i1 72 (14 * (KS n sy).length) A ∧ (∀ k, A k < 128) ∧ lbP (TJm n sy) n sy W (fun s _ => s < (KS n sy).length) A (KS n sy).length) ∧
  (i1 56 12 = nI (cjF (DmA n sy lv kd E A) (7 * (KS n sy).length)) ∧ ∀ j, j < 7 * (KS n sy).length → i1 73 j = DmA n sy lv kd E A j) ∧
  (i1 56 10 = nI fl ∧ fl < 2 ∧ (fl = 1 → slC sy op xp yp H n) ∧ leH n sy op xp yp H ∧ ∀ r c, r < n → c < 256 → clHc sy op xp yp H r c ∧ (posP sy H r c → slf (hgW sy op xp yp (pkC c) r) → fl = 1))
theorem ex_mem {μ : xMeth} {pc : Nat} {L : xLoc} {st : List Value} {n g : Nat} {i i' : Nat → Nat → Int32} {q : Nat → Nat → Int64} {r : Nat → Nat → Value} {K : Nat × Nat} {Q : xRes → xMem → Prop} (h : i = i') (k : Wx μ pc L st (n, g, i', q, r) K Q) : Wx μ pc L st (n, g, i, q, r) K Q := by rw [h]; exact k
section S75
variable {g : Nat} {i : Nat → Nat → Int32} {q : Nat → Nat → Int64} {t : Bool} {Q : xRes → xMem → Prop} {n : Nat} {sy : Nat → Nat → Nat} {op xp yp lv kd : Nat → Nat}
theorem TJm_of {ks : List Nat} {i1 : Nat → Nat → Int32} (h0 : ks = KS n sy) (h1 : 1 ≤ ks.length) (h : MTI n sy ks i1 ks.length 1) : ∀ j, j < 14 * ks.length → i1 67 j = nI (TJm n sy j) ∧ TJm n sy j < ks.length := by
  intro j hj
  obtain ⟨a, b⟩ := h (j / 14) (j % 14) (by omega) (by omega)
  rw [show 14 * (j / 14) + j % 14 = j by omega] at a b
  unfold TJm
  rw [← h0]
  by_cases z : j % 14 = 0
  · rw [if_pos z]; exact ⟨b (by omega), by omega⟩
  · rw [if_neg z]
    obtain ⟨c, d⟩ := a ⟨by omega, Or.inl (by omega)⟩
    exact ⟨d, tg_lt h1 c⟩
theorem RG_goal {i1 : Nat → Nat → Int32} (rg : RG i n sy) (e3 : i1 56 3 = i 56 3) (e57 : i1 57 = upd (i 57) 14 (nI 7)) (e58 : i1 58 = upd (i 58) 56 (nI (sy 0 0))) (e59 : i1 59 = upd (i 59) 14 (nI 1)) (n0 : 0 < n) : RG i1 n sy ∧ RG14 i1 sy := by
  obtain ⟨a, b, c, d, e⟩ := rg
  have hn := e.1
  refine ⟨⟨by rw [e3]; exact a, fun r hr => ?_, fun r k hr hk => ?_, fun r hr => ?_, e⟩, ?_, ?_, ?_⟩
  · rw [e57]; unfold upd; rw [if_neg (by omega)]; exact b r hr
  · rw [e58]; unfold upd; rw [if_neg (by omega)]; exact c r k hr hk
  · rw [e59]; unfold upd; rw [if_neg (by omega)]; exact d r hr
  · rw [e58]; unfold upd; rw [if_pos (by decide), e.2.2.2.2.2.2.2.1 n0]
  · rw [e59]; unfold upd; rw [if_pos rfl]
  · have h1 := e.2.2.2.2.2.2.2.1 n0
    have h2 := e.2.2.2.2.2.2.1
    have h3 := e.2.2.1 0 n0
    show lnS (sy 14) = 1
    unfold lnS
    rw [if_neg (by omega), if_pos h2]
theorem sp_Model_build (rg : RG i n sy) (re : RE i op xp yp) (es : ESw op xp yp) (hlv : Vw i 60 7 lv) (hlb : ∀ s, lv s ≤ 9) (hkd : Vw i 61 7 kd) (hkb : ∀ s, kd s ≤ 2)
    (hX1 : n = 0 → ∀ i1, Fm [] [9, 45] i i1 → i1 56 45 = nI 1 → i1 56 9 = nI 0 → Q (.ok (some (.int (nI 0)))) (94, g, i1, q, RT t))
    (hX2 : ¬ n = 0 → 50 < (KS n sy).length → ∀ i1, Fm [57, 58, 59, 65, 66, 67] [9, 11, 45] i i1 → i1 56 45 = nI 2 → i1 56 9 = nI 0 → RG i1 n sy → Q (.ok (some (.int (nI 0)))) (94, g, i1, q, RT t))
    (hQ : ¬ n = 0 → (KS n sy).length ≤ 50 → ∀ i1, Fm [57, 58, 59, 65, 66, 67, 68, 69, 70, 71, 72, 73, 74, 75, 76] [9, 10, 11, 12, 45] i i1 → i1 56 45 = nI 0 → i1 56 9 = nI 1 → RG i1 n sy → ML n sy op xp yp lv kd i1 → Q (.ok (some (.int (nI (KS n sy).length)))) (94, g, i1, q, RT t)) :
    Wx m_Model_build 0 [some (.ref 56), none] [] (94, g, i, q, RT t) (0, 0) Q := by
  have gw := rg.2.2.2.2
  have hn := gw.1
  have e3a : xU i 56 9 (nI 0) 56 3 = nI n := by rw [xU_at]; simp [upd]; exact rg.1
  by_cases n0 : n = 0
  ·
    refine ex_aload_n (i := 0) dX10_build_0 rfl rfl ?_
    refine ex_iconst (v := nI 0) dX10_build_1 (by decide) ?_
    refine ex_putI dX10_build_2 fl_Model_148 cf_10 rfl (Or.inl rfl) (by decide) (by decide) rfl (by decide) ?_
    refine ex_aload_n (i := 0) dX10_build_5 rfl rfl ?_
    refine ex_aload_n (i := 0) dX10_build_6 rfl rfl ?_
    refine ex_getI dX10_build_7 fl_Model_145 rfl rfl (by decide) ?_
    refine ex_asI (y := i (56) (3)) (by first | rfl | simp [xU, upd]) ?_
    refine ex_asN (a := n) e3a ?_
    refine ex_if_leN (tgt := 17) dX10_build_10 (by decide) (by omega) (fun h10 => ?_) (fun h10 => by omega)
    refine ex_iconst (v := nI 0) dX10_build_17 (by decide) ?_
    refine ex_iconst (v := nI 1) dX10_build_18 (by decide) ?_
    refine ex_cV (ν := m_Model_good) (a := 56) (ci := 10) (as := [.int (nI (0)), .int (nI (1))]) dX10_build_19 ln_Model_141 mf_Model_good rfl (Nat.le_of_ble_eq_true rfl) rfl rfl np_Model_good rfl rfl ⟨(Nat.le_of_ble_eq_true rfl), (Nat.le_of_ble_eq_true rfl), (Nat.le_of_ble_eq_true rfl), (Nat.le_of_ble_eq_true rfl)⟩ (by decide) ?_
    refine sp_Model_good (b := 0) (by decide) ?_
    refine ⟨_, rfl, ?_⟩
    refine ex_if_neN (tgt := 27) dX10_build_22 (by decide) (by omega) (fun h22 => by exact absurd h22 (by decide)) (fun h22 => ?_)
    refine ex_iconst (v := nI 0) dX10_build_25 (by decide) ?_
    refine ex_iret dX10_build_26 rfl rfl ?_
    exact hX1 n0 _ ((Fm.rf.F (by decide)).F (by decide)) (by rw [xU_at]; simp [upd]) (by rw [xU_at]; simp [upd, xU])
  · have hn0 : 0 < n := by omega
    obtain ⟨ia, hia⟩ : ∃ ia, ia = xU (xU (xU (xU (xU i 56 9 (nI 0)) 56 45 (nI 0)) 57 14 (nI 7)) 58 56 (nI (sy 0 0))) 59 14 (nI 1) := ⟨_, rfl⟩
    have hfa : Fm [57, 58, 59] [9, 45] i ia := by rw [hia]; exact ((((Fm.rf.F (by decide)).F (by decide)).U (by decide) (by decide)).U (by decide) (by decide)).U (by decide) (by decide)
    have ea45 : ia 56 45 = nI 0 := by rw [hia]; simp [xU, upd]
    have ea9 : ia 56 9 = nI 0 := by rw [hia]; simp [xU, upd]
    obtain ⟨rga, h14a⟩ : RG ia n sy ∧ RG14 ia sy := by
      refine RG_goal (i := i) rg (hfa.2 3 (by decide)) ?_ ?_ ?_ hn0
      · rw [hia]; simp [xU]
      · rw [hia]; simp [xU]
      · rw [hia]; simp [xU]
    have e570 : xU (xU (xU i 56 9 (nI 0)) 56 45 (nI 0)) 57 14 (nI 7) 57 0 = nI (sy 0 0) := by
      rw [xU_at]; unfold upd; rw [if_neg (by decide), xU_ne _ _ _ (show (57 : Nat) ≠ 56 by decide), xU_ne _ _ _ (show (57 : Nat) ≠ 56 by decide)]; exact rg.2.1 0 hn0
    have H57 : Wx m_Model_build 57 [some (.ref 56), none] [] (94, g, ia, q, RT t) (0, 0) Q := by
      by_cases hk : (KS n sy).length ≤ 50
      · obtain ⟨S, hS⟩ : ∃ S, S = (KS n sy).length := ⟨_, rfl⟩
        have H71 : ∀ i1 E, Fm [65, 66, 67] [11] ia i1 → MFI n sy (KS n sy) i1 E → MTI n sy (KS n sy) i1 (KS n sy).length 1 → Wx m_Model_build 62 [some (.ref 56), none] [.int (nI 1), .ref 56] (94, g, i1, q, RT t) (0, 0) Q := by
          intro i1 E hf1 hFI hTI
          have hS1 := hFI.1.2.1
          have hTJ1 := TJm_of rfl hS1 hTI
          rw [← hS] at hS1 hTJ1 hk
          have h11 : xU i1 56 45 (nI 0) 56 11 = nI S := by rw [cd_ne _ _ (by decide), hS]; exact hFI.1.1
          have hf1' : Fm [65, 66, 67] [11, 45] ia (xU i1 56 45 (nI 0)) := (hf1.mono (by decide) (by decide)).F (by decide)
          have rg1 := rga.fm hf1' (by decide) (by decide) (by decide) (by decide)
          have re1 : RE (xU i1 56 45 (nI 0)) op xp yp := (re.fm (hfa.mono (l' := [57, 58, 59]) (ks' := [9, 45]) (by decide) (by decide)) (by decide) (by decide) (by decide)).fm hf1' (by decide) (by decide) (by decide)
          have hlv1 : Vw (xU i1 56 45 (nI 0)) 60 7 lv := (hlv.fm hfa (by decide) (by decide)).fm hf1' (by decide) (by decide)
          have hkd1 : Vw (xU i1 56 45 (nI 0)) 61 7 kd := (hkd.fm hfa (by decide) (by decide)).fm hf1' (by decide) (by decide)
          have hFI1 : MFI n sy (KS n sy) (xU i1 56 45 (nI 0)) E := hFI.T (cd_ne _ _ (by decide)) (xU_ne _ _ _ (by decide))
          have hTJ : ∀ j, j < 14 * S → xU i1 56 45 (nI 0) 67 j = nI (TJm n sy j) ∧ TJm n sy j < S := fun j hj => by rw [xU_ne _ _ _ (show (67 : Nat) ≠ 56 by decide)]; exact hTJ1 j hj
          have e57 : xU i1 56 45 (nI 0) 57 0 = nI (sy 0 0) := rg1.2.1 0 hn0
          have c45 : xU i1 56 45 (nI 0) 56 45 = nI 0 := cd_at _ _
          obtain ⟨ib, hib⟩ : ∃ ib, ib = xU i1 56 45 (nI 0) := ⟨_, rfl⟩
          rw [← hib] at h11 hf1' rg1 re1 hlv1 hkd1 hFI1 hTJ e57 c45
          -- the loop over what is to be done
          have DL : ∀ ic f RD W A, Fm [68, 69, 70, 71, 72] [12] ib ic → isF n sy f → clR (TJm n sy) f S (sy 0 0) RD → leR (TJm n sy) f S (sy 0 0) RD → clW (TJm n sy) f S n sy RD W → leW (TJm n sy) f S n sy RD W → Vw ic 72 (14 * S) A → (∀ k, A k < 128) → lbP (TJm n sy) n sy W (fun s _ => s < S) A S →
              ∀ d j i', j + d = 7 * S → Fm [73] [12] ic i' → i' 56 12 = nI (cjF (DmA n sy lv kd E A) j) → (∀ j', j' < j → i' 73 j' = DmA n sy lv kd E A j') → Wx m_Model_build 94 [some (.ref 56), some (.int (nI j))] [] (94, g, i', q, RT t) (0, 0) Q := by
            intro ic f RD W A hfc hfi hR1 hR2 hW1 hW2 hA1 hA2 hA3 d
            induction d with
            | zero =>
              intro j i' hj hf' h12 h73
              have e : j = 7 * S := hj
              subst e
              have hfb' : Fm [68, 69, 70, 71, 72, 73] [12] ib i' := (hfc.mono (by decide) (by decide)).tr (hf'.mono (by decide) (by decide))
              have e11 : i' 56 11 = nI S := by rw [hfb'.2 11 (by decide)]; exact h11
              refine ex_iload_n (i := 1) dX10_build_94 rfl rfl ?_
              refine ex_bipush (v := nI 7) dX10_build_95 (by decide) ?_
              refine ex_aload_n (i := 0) dX10_build_97 rfl rfl ?_
              refine ex_getI dX10_build_98 fl_Model_170 rfl rfl (by decide) ?_
              refine ex_asN (a := S) (by first | exact e11 | exact e119) ?_
              refine ex_imulN dX10_build_101 ?_
              refine ex_icmp_geN (tgt := 151) dX10_build_102 (by decide) (by omega) (by omega) (fun h102 => ?_) (fun h102 => by omega)
              refine ex_aload_n (i := 0) dX10_build_151 rfl rfl ?_
              refine ex_cV (ν := m_Model_rings) (a := 56) (ci := 10) (as := []) dX10_build_152 ln_Model_221 mf_Model_rings rfl (Nat.le_of_ble_eq_true rfl) rfl rfl np_Model_rings rfl rfl ⟨(Nat.le_of_ble_eq_true rfl), (Nat.le_of_ble_eq_true rfl), (Nat.le_of_ble_eq_true rfl), (Nat.le_of_ble_eq_true rfl)⟩ (by decide) ?_
              refine sp_Model_rings (rg1.fm hfb' (by decide) (by decide) (by decide) (by decide)) (re1.fm hfb' (by decide) (by decide) (by decide)) es (fun i9 H fl hI hC => ?_)
              have e119 : xU i9 56 9 (nI 1) 56 11 = nI S := by rw [xU_at]; simp only [upd]; rw [if_neg (by decide), hI.1.2 11 (by decide)]; exact e11
              refine ⟨_, rfl, ?_⟩
              refine ex_aload_n (i := 0) dX10_build_155 rfl rfl ?_
              refine ex_iconst (v := nI 1) dX10_build_156 (by decide) ?_
              refine ex_putI dX10_build_157 fl_Model_148 cf_10 rfl (Or.inl rfl) (by decide) (by decide) rfl (by decide) ?_
              refine ex_aload_n (i := 0) dX10_build_160 rfl rfl ?_
              refine ex_getI dX10_build_161 fl_Model_170 rfl rfl (by decide) ?_
              refine ex_asN (a := S) (by first | exact e11 | exact e119) ?_
              refine ex_iret dX10_build_164 rfl rfl ?_
              have hf9 : Fm [68, 69, 70, 71, 72, 73, 74, 75, 76] [9, 10, 12] ib (xU i9 56 9 (nI 1)) := ((hfb'.mono (by decide) (by decide)).tr (hI.1.mono (by decide) (by decide))).F (by decide)
              have hc9 : Fm [73, 74, 75, 76] [9, 10, 12] ic (xU i9 56 9 (nI 1)) := ((hf'.mono (by decide) (by decide)).tr (hI.1.mono (by decide) (by decide))).F (by decide)
              have h99 : Fm [74, 75, 76] [9, 10] i' (xU i9 56 9 (nI 1)) := (hI.1.mono (by decide) (by decide)).F (by decide)
              have hf09 : Fm [57, 58, 59, 65, 66, 67, 68, 69, 70, 71, 72, 73, 74, 75, 76] [9, 10, 11, 12, 45] i (xU i9 56 9 (nI 1)) := ((hfa.mono (by decide) (by decide)).tr (hf1'.mono (by decide) (by decide))).tr (hf9.mono (by decide) (by decide))
              rw [hS]
              rw [hS] at hk hTJ hR1 hR2 hW1 hW2 hA1 hA3 h12 h73
              refine hQ n0 hk _ hf09 (by rw [hf9.2 45 (by decide)]; exact c45) (by rw [xU_at]; simp [upd]) (rg1.fm hf9 (by decide) (by decide) (by decide) (by decide)) ⟨E, f, RD, W, A, H, fl, hFI1.T (hf9.2 11 (by decide)) (hf9.1 65 (by decide) (by decide)), fun j hj => ?_, hfi, ⟨hR1, hR2⟩, ⟨hW1, hW2⟩, ⟨?_, hA2, hA3⟩, ⟨?_, fun j hj => ?_⟩, ⟨?_, hI.2.2.1.2, hI.2.2.2.1, hI.2.2.2.2.1, hC⟩⟩
              · rw [hf9.1 67 (by decide) (by decide)]; exact hTJ j hj
              · exact hA1.fm hc9 (by decide) (by decide)
              · rw [h99.2 12 (by decide)]; exact h12
              · rw [h99.1 73 (by decide) (by decide)]; exact h73 j hj
              · rw [xU_at]; simp only [upd]; rw [if_neg (by decide)]; exact hI.2.2.1.1
            | succ d ih =>
              intro j i' hj hf' h12 h73
              have hfb' : Fm [68, 69, 70, 71, 72, 73] [12] ib i' := (hfc.mono (by decide) (by decide)).tr (hf'.mono (by decide) (by decide))
              have e11 : i' 56 11 = nI S := by rw [hfb'.2 11 (by decide)]; exact h11
              have hFI' := hFI1.T (hfb'.2 11 (by decide)) (hfb'.1 65 (by decide) (by decide))
              have hE' := hFI'.2.2.2.1
              rw [← hS] at hE'
              have hjS : j / 7 < S := by omega
              have hcl : cjF (DmA n sy lv kd E A) j ≤ j := cjF_le
              have cs : cjF (DmA n sy lv kd E A) (j + 1) = if DmA n sy lv kd E A j = nI 1001 then cjF (DmA n sy lv kd E A) j + 1 else cjF (DmA n sy lv kd E A) j := rfl
              have NX : ∀ i2, Fm [73] [12] ic i2 → i2 56 12 = nI (cjF (DmA n sy lv kd E A) (j + 1)) → i2 73 = upd (i' 73) j (DmA n sy lv kd E A j) → Wx m_Model_build 94 [some (.ref 56), some (.int (nI (j + 1)))] [] (94, g, i2, q, RT t) (0, 0) Q := fun i2 b1 b2 b3 =>
                ih (j + 1) i2 (by omega) b1 b2 (fun j' hj' => by
                  rw [b3]; unfold upd
                  by_cases e : j' = j
                  · rw [if_pos e, e]
                  · rw [if_neg e]; exact h73 j' (by omega))
              have hc' : (cjF (DmA n sy lv kd E A) (j + 1) = cjF (DmA n sy lv kd E A) j + 1 ∧ DmA n sy lv kd E A j = nI 1001) ∨ (cjF (DmA n sy lv kd E A) (j + 1) = cjF (DmA n sy lv kd E A) j ∧ ¬ DmA n sy lv kd E A j = nI 1001) := by
                by_cases z : DmA n sy lv kd E A j = nI 1001
                · rw [if_pos z] at cs; exact Or.inl ⟨cs, z⟩
                · rw [if_neg z] at cs; exact Or.inr ⟨cs, z⟩
              refine ex_iload_n (i := 1) dX10_build_94 rfl rfl ?_
              refine ex_bipush (v := nI 7) dX10_build_95 (by decide) ?_
              refine ex_aload_n (i := 0) dX10_build_97 rfl rfl ?_
              refine ex_getI dX10_build_98 fl_Model_170 rfl rfl (by decide) ?_
              refine ex_asN (a := S) e11 ?_
              refine ex_imulN dX10_build_101 ?_
              refine ex_icmp_geN (tgt := 151) dX10_build_102 (by decide) (by omega) (by omega) (fun h102 => by omega) (fun h102 => ?_)
              refine ex_aload_n (i := 0) dX10_build_105 rfl rfl ?_
              refine ex_getR (v := .ref (73)) dX10_build_106 fl_Model_59 rfl rfl (by decide) rfl ?_
              refine ex_iload_n (i := 1) dX10_build_109 rfl rfl ?_
              refine ex_aload_n (i := 0) dX10_build_110 rfl rfl ?_
              refine ex_iload_n (i := 1) dX10_build_111 rfl rfl ?_
              refine ex_bipush (v := nI 7) dX10_build_112 (by decide) ?_
              refine ex_idivN dX10_build_114 (by omega) (by decide) (by decide) ?_
              refine ex_iload_n (i := 1) dX10_build_115 rfl rfl ?_
              refine ex_bipush (v := nI 7) dX10_build_116 (by decide) ?_
              refine ex_iremN dX10_build_118 (by omega) (by decide) (by decide) ?_
              refine ex_cV (ν := m_Model_settle) (a := 56) (ci := 10) (as := [.int (nI (j / 7)), .int (nI (j % 7))]) dX10_build_119 ln_Model_218 mf_Model_settle rfl (Nat.le_of_ble_eq_true rfl) rfl rfl np_Model_settle rfl rfl ⟨(Nat.le_of_ble_eq_true rfl), (Nat.le_of_ble_eq_true rfl), (Nat.le_of_ble_eq_true rfl), (Nat.le_of_ble_eq_true rfl)⟩ (by decide) ?_
              refine sp_Model_settle (E := E) (A := A) (P := PmA n sy E A (j / 7) (j % 7)) (TJ := TJm n sy) (lv := lv) (kd := kd) (S := S) (rg1.fm hfb' (by decide) (by decide) (by decide) (by decide)) hn0 hk hjS (by omega) (fun m hm => by rw [hfb'.1 67 (by decide) (by decide)]; exact hTJ m hm) hE' (hA1.fm hf' (by decide) (by decide)) hA2 (hlv1.fm hfb' (by decide) (by decide)) hlb (hkd1.fm hfb' (by decide) (by decide)) hkb (fun k hk2 => ?_) ?_ (fun k k1 k2 => ?_) ?_
              · unfold PmA; exact ⟨fun z => z.elim (fun y => y.2) (fun y => by omega), fun z => Or.inl ⟨hk2, z⟩⟩
              · unfold PmA; exact ⟨fun z => z.elim (fun y => by omega) (fun y => y.2), fun z => Or.inr ⟨rfl, z⟩⟩
              · unfold PmA; exact fun z => z.elim (fun y => by omega) (fun y => by omega)
              refine ⟨_, rfl, ?_⟩
              refine ex_asI (y := DmA n sy lv kd E A j) rfl ?_
              refine ex_iastN dX10_build_122 rfl (by decide) (by omega) ?_
              refine ex_aload_n (i := 0) dX10_build_123 rfl rfl ?_
              refine ex_getR (v := .ref (73)) dX10_build_124 fl_Model_59 rfl rfl (by decide) rfl ?_
              refine ex_iload_n (i := 1) dX10_build_127 rfl rfl ?_
              refine ex_ialdN dX10_build_128 rfl (by decide) (by omega) rfl ?_
              refine ex_asI (y := DmA n sy lv kd E A j) (by first | rfl | simp [xU, upd]) ?_
              refine ex_sipush (v := nI 1001) dX10_build_129 (by decide) ?_
              refine ex_icmp_ne (tgt := 145) dX10_build_132 (by decide) (fun h132 => ?_) (fun h132 => ?_)
              · refine ex_iincN (L' := [some (.ref (56)), some (.int (nI (j + 1)))]) dX10_build_145 rfl rfl (by decide) rfl ?_
                refine ex_goto (tgt := 94) dX10_build_148 (by decide) ?_
                first
                | (refine NX _ ((hf'.U (by decide) (by decide)).F (by decide)) ?_ ?_
                   · rw [(hc'.resolve_right (fun z => z.2 h132)).1, xU_at]; simp [upd]
                   · simp [xU])
                | (refine NX _ (hf'.U (by decide) (by decide)) ?_ ?_
                   · rw [(hc'.resolve_left (fun z => h132 z.2)).1, xU_ne _ _ _ (show (56 : Nat) ≠ 73 by decide)]; exact h12
                   · simp [xU])
              · refine ex_aload_n (i := 0) dX10_build_135 rfl rfl ?_
                refine ex_dup dX10_build_136 rfl ?_
                refine ex_getI dX10_build_137 fl_Model_215 rfl rfl (by decide) ?_
                refine ex_asN (a := cjF (DmA n sy lv kd E A) j) h12 ?_
                refine ex_iconst (v := nI 1) dX10_build_140 (by decide) ?_
                refine ex_iaddN dX10_build_141 ?_
                refine ex_putI dX10_build_142 fl_Model_215 cf_10 rfl (Or.inl rfl) rfl rfl rfl (by decide) ?_
                refine ex_iincN (L' := [some (.ref (56)), some (.int (nI (j + 1)))]) dX10_build_145 rfl rfl (by decide) rfl ?_
                refine ex_goto (tgt := 94) dX10_build_148 (by decide) ?_
                first
                | (refine NX _ ((hf'.U (by decide) (by decide)).F (by decide)) ?_ ?_
                   · rw [(hc'.resolve_right (fun z => z.2 h132)).1, xU_at]; simp [upd]
                   · simp [xU])
                | (refine NX _ (hf'.U (by decide) (by decide)) ?_ ?_
                   · rw [(hc'.resolve_left (fun z => h132 z.2)).1, xU_ne _ _ _ (show (56 : Nat) ≠ 73 by decide)]; exact h12
                   · simp [xU])
          refine ex_iconst (v := nI 2) dX10_build_62 (by decide) ?_
          refine ex_cV (ν := m_Model_good) (a := 56) (ci := 10) (as := [.int (nI (1)), .int (nI (2))]) dX10_build_63 ln_Model_141 mf_Model_good rfl (Nat.le_of_ble_eq_true rfl) rfl rfl np_Model_good rfl rfl ⟨(Nat.le_of_ble_eq_true rfl), (Nat.le_of_ble_eq_true rfl), (Nat.le_of_ble_eq_true rfl), (Nat.le_of_ble_eq_true rfl)⟩ (by decide) ?_
          refine sp_Model_good (b := 1) (by decide) ?_
          refine ⟨_, rfl, ?_⟩
          refine ex_mem hib.symm ?_
          refine ex_if_neN (tgt := 71) dX10_build_66 (by decide) (by omega) (fun h66 => ?_) (fun h66 => by exact absurd h66 (by decide))
          refine ex_aload_n (i := 0) dX10_build_71 rfl rfl ?_
          refine ex_cV (ν := m_Model_beginnings) (a := 56) (ci := 10) (as := []) dX10_build_72 ln_Model_163 mf_Model_beginnings rfl (Nat.le_of_ble_eq_true rfl) rfl rfl np_Model_beginnings rfl rfl ⟨(Nat.le_of_ble_eq_true rfl), (Nat.le_of_ble_eq_true rfl), (Nat.le_of_ble_eq_true rfl), (Nat.le_of_ble_eq_true rfl)⟩ (by decide) ?_
          refine sp_Model_beginnings rg1 (fun i2 f c1 c2 c3 => ?_)
          have k2 : Fm [68, 69, 70, 71, 72] [12] ib i2 := c1.mono (by decide) (by decide)
          refine ⟨_, rfl, ?_⟩
          refine ex_aload_n (i := 0) dX10_build_75 rfl rfl ?_
          refine ex_cV (ν := m_Model_reads) (a := 56) (ci := 10) (as := []) dX10_build_76 ln_Model_206 mf_Model_reads rfl (Nat.le_of_ble_eq_true rfl) rfl rfl np_Model_reads rfl rfl ⟨(Nat.le_of_ble_eq_true rfl), (Nat.le_of_ble_eq_true rfl), (Nat.le_of_ble_eq_true rfl), (Nat.le_of_ble_eq_true rfl)⟩ (by decide) ?_
          refine sp_Model_reads (TJ := TJm n sy) (f := f) (S := S) (L0 := sy 0 0) hk (by have := gw.2.2.1 0 hn0; omega) (by rw [k2.2 11 (by decide)]; exact h11) (fun j hj => by rw [k2.1 67 (by decide) (by decide)]; exact hTJ j hj) c2 (by rw [k2.1 57 (by decide) (by decide)]; exact e57) (fun i3 RD d1 d2 d3 d4 d5 => ?_)
          have k3 : Fm [68, 69, 70, 71, 72] [12] ib i3 := k2.tr (d1.mono (by decide) (by decide))
          refine ⟨_, rfl, ?_⟩
          refine ex_aload_n (i := 0) dX10_build_79 rfl rfl ?_
          refine ex_cV (ν := m_Model_follows) (a := 56) (ci := 10) (as := []) dX10_build_80 ln_Model_209 mf_Model_follows rfl (Nat.le_of_ble_eq_true rfl) rfl rfl np_Model_follows rfl rfl ⟨(Nat.le_of_ble_eq_true rfl), (Nat.le_of_ble_eq_true rfl), (Nat.le_of_ble_eq_true rfl), (Nat.le_of_ble_eq_true rfl)⟩ (by decide) ?_
          refine sp_Model_follows (TJ := TJm n sy) (f := f) (RD := RD) (S := S) (rg1.fm k3 (by decide) (by decide) (by decide) (by decide)) (c2.fm d1 (by decide) (by decide)) hk (by rw [k3.2 11 (by decide)]; exact h11) (fun j hj => by rw [k3.1 67 (by decide) (by decide)]; exact hTJ j hj) d2 d3 (fun i4 W p1 p2 p3 p4 p5 => ?_)
          have k4 : Fm [68, 69, 70, 71, 72] [12] ib i4 := k3.tr (p1.mono (by decide) (by decide))
          refine ⟨_, rfl, ?_⟩
          refine ex_aload_n (i := 0) dX10_build_83 rfl rfl ?_
          refine ex_cV (ν := m_Model_lookback) (a := 56) (ci := 10) (as := []) dX10_build_84 ln_Model_212 mf_Model_lookback rfl (Nat.le_of_ble_eq_true rfl) rfl rfl np_Model_lookback rfl rfl ⟨(Nat.le_of_ble_eq_true rfl), (Nat.le_of_ble_eq_true rfl), (Nat.le_of_ble_eq_true rfl), (Nat.le_of_ble_eq_true rfl)⟩ (by decide) ?_
          refine sp_Model_lookback (TJ := TJm n sy) (S := S) (W := W) (rg1.fm k4 (by decide) (by decide) (by decide) (by decide)) hk (by rw [k4.2 11 (by decide)]; exact h11) (fun j hj => by rw [k4.1 67 (by decide) (by decide)]; exact hTJ j hj) p2 p3 (fun i5 A r1 r2 r3 r4 => ?_)
          have k5 : Fm [68, 69, 70, 71, 72] [12] ib i5 := k4.tr (r1.mono (by decide) (by decide))
          refine ⟨_, rfl, ?_⟩
          refine ex_aload_n (i := 0) dX10_build_87 rfl rfl ?_
          refine ex_iconst (v := nI 0) dX10_build_88 (by decide) ?_
          refine ex_putI dX10_build_89 fl_Model_215 cf_10 rfl (Or.inl rfl) rfl rfl rfl (by decide) ?_
          refine ex_iconst (v := nI 0) dX10_build_92 (by decide) ?_
          refine ex_istore_n (L' := [some (.ref (56)), some (.int (nI (0)))]) dX10_build_93 (i := 1) rfl (by decide) rfl ?_
          exact DL _ f RD W A (k5.F (by decide)) c3 d4 d5 p4 p5 (fun j hj => by rw [xU_ne _ _ _ (show (72 : Nat) ≠ 56 by decide)]; exact r2 j hj) r3 r4 (7 * S) 0 _ (by omega) Fm.rf (by rw [xU_at]; simp only [upd, if_true]; rfl) (fun j' h => by omega)
        refine ex_aload_n (i := 0) dX10_build_57 rfl rfl ?_
        refine ex_aload_n (i := 0) dX10_build_58 rfl rfl ?_
        refine ex_cV (ν := m_Model_makeStates) (a := 56) (ci := 10) (as := []) dX10_build_59 ln_Model_202 mf_Model_makeStates rfl (Nat.le_of_ble_eq_true rfl) rfl rfl np_Model_makeStates rfl rfl ⟨(Nat.le_of_ble_eq_true rfl), (Nat.le_of_ble_eq_true rfl), (Nat.le_of_ble_eq_true rfl), (Nat.le_of_ble_eq_true rfl)⟩ (by decide) ?_
        refine sp_Model_makeStates rga h14a (fun _ i1 E a1 a2 a3 => ⟨_, rfl, H71 i1 E a1 a2 a3⟩) (fun z => absurd z (by omega))
        skip
      ·
        refine ex_aload_n (i := 0) dX10_build_57 rfl rfl ?_
        refine ex_aload_n (i := 0) dX10_build_58 rfl rfl ?_
        refine ex_cV (ν := m_Model_makeStates) (a := 56) (ci := 10) (as := []) dX10_build_59 ln_Model_202 mf_Model_makeStates rfl (Nat.le_of_ble_eq_true rfl) rfl rfl np_Model_makeStates rfl rfl ⟨(Nat.le_of_ble_eq_true rfl), (Nat.le_of_ble_eq_true rfl), (Nat.le_of_ble_eq_true rfl), (Nat.le_of_ble_eq_true rfl)⟩ (by decide) ?_
        refine sp_Model_makeStates rga h14a (fun z => absurd z hk) (fun _ i1 a1 => ?_)
        refine ⟨_, rfl, ?_⟩
        refine ex_iconst (v := nI 2) dX10_build_62 (by decide) ?_
        refine ex_cV (ν := m_Model_good) (a := 56) (ci := 10) (as := [.int (nI (0)), .int (nI (2))]) dX10_build_63 ln_Model_141 mf_Model_good rfl (Nat.le_of_ble_eq_true rfl) rfl rfl np_Model_good rfl rfl ⟨(Nat.le_of_ble_eq_true rfl), (Nat.le_of_ble_eq_true rfl), (Nat.le_of_ble_eq_true rfl), (Nat.le_of_ble_eq_true rfl)⟩ (by decide) ?_
        refine sp_Model_good (b := 0) (by decide) ?_
        refine ⟨_, rfl, ?_⟩
        refine ex_if_neN (tgt := 71) dX10_build_66 (by decide) (by omega) (fun h66 => by exact absurd h66 (by decide)) (fun h66 => ?_)
        refine ex_iconst (v := nI 0) dX10_build_69 (by decide) ?_
        refine ex_iret dX10_build_70 rfl rfl ?_
        refine hX2 n0 (by omega) _ ((hfa.mono (by decide) (by decide)).tr ((a1.mono (by decide) (by decide)).F (by decide))) (cd_at _ _) ?_ ?_
        · rw [cd_ne _ _ (by decide), a1.2 9 (by decide)]; exact ea9
        · exact rga.fm (l := [65, 66, 67]) (ks := [11, 45]) ((a1.mono (by decide) (by decide)).F (by decide)) (by decide) (by decide) (by decide) (by decide)
    refine ex_aload_n (i := 0) dX10_build_0 rfl rfl ?_
    refine ex_iconst (v := nI 0) dX10_build_1 (by decide) ?_
    refine ex_putI dX10_build_2 fl_Model_148 cf_10 rfl (Or.inl rfl) (by decide) (by decide) rfl (by decide) ?_
    refine ex_aload_n (i := 0) dX10_build_5 rfl rfl ?_
    refine ex_aload_n (i := 0) dX10_build_6 rfl rfl ?_
    refine ex_getI dX10_build_7 fl_Model_145 rfl rfl (by decide) ?_
    refine ex_asI (y := i (56) (3)) (by first | rfl | simp [xU, upd]) ?_
    refine ex_asN (a := n) e3a ?_
    refine ex_if_leN (tgt := 17) dX10_build_10 (by decide) (by omega) (fun h10 => by omega) (fun h10 => ?_)
    refine ex_iconst (v := nI 1) dX10_build_13 (by decide) ?_
    refine ex_goto (tgt := 18) dX10_build_14 (by decide) ?_
    refine ex_iconst (v := nI 1) dX10_build_18 (by decide) ?_
    refine ex_cV (ν := m_Model_good) (a := 56) (ci := 10) (as := [.int (nI (1)), .int (nI (1))]) dX10_build_19 ln_Model_141 mf_Model_good rfl (Nat.le_of_ble_eq_true rfl) rfl rfl np_Model_good rfl rfl ⟨(Nat.le_of_ble_eq_true rfl), (Nat.le_of_ble_eq_true rfl), (Nat.le_of_ble_eq_true rfl), (Nat.le_of_ble_eq_true rfl)⟩ (by decide) ?_
    refine sp_Model_good (b := 1) (by decide) ?_
    refine ⟨_, rfl, ?_⟩
    refine ex_if_neN (tgt := 27) dX10_build_22 (by decide) (by omega) (fun h22 => ?_) (fun h22 => by exact absurd h22 (by decide))
    refine ex_aload_n (i := 0) dX10_build_27 rfl rfl ?_
    refine ex_getR (v := .ref (57)) dX10_build_28 fl_Model_7 rfl rfl (by decide) rfl ?_
    refine ex_bipush (v := nI 14) dX10_build_31 (by decide) ?_
    refine ex_bipush (v := nI 7) dX10_build_33 (by decide) ?_
    refine ex_iastN dX10_build_35 rfl (by decide) (by omega) ?_
    refine ex_aload_n (i := 0) dX10_build_36 rfl rfl ?_
    refine ex_getR (v := .ref (58)) dX10_build_37 fl_Model_13 rfl rfl (by decide) rfl ?_
    refine ex_bipush (v := nI 56) dX10_build_40 (by decide) ?_
    refine ex_aload_n (i := 0) dX10_build_42 rfl rfl ?_
    refine ex_getR (v := .ref (57)) dX10_build_43 fl_Model_7 rfl rfl (by decide) rfl ?_
    refine ex_iconst (v := nI 0) dX10_build_46 (by decide) ?_
    refine ex_ialdN dX10_build_47 rfl (by decide) (by omega) rfl ?_
    refine ex_asI (y := (xU (xU i 56 9 (nI 0)) 56 45 (nI 0)) (57) (0)) (by first | rfl | simp [xU, upd]) ?_
    refine ex_asN (a := sy 0 0) e570 ?_
    refine ex_iastN dX10_build_48 rfl (by decide) (by omega) ?_
    refine ex_aload_n (i := 0) dX10_build_49 rfl rfl ?_
    refine ex_getR (v := .ref (59)) dX10_build_50 fl_Model_16 rfl rfl (by decide) rfl ?_
    refine ex_bipush (v := nI 14) dX10_build_53 (by decide) ?_
    refine ex_iconst (v := nI 1) dX10_build_55 (by decide) ?_
    refine ex_iastN dX10_build_56 rfl (by decide) (by omega) ?_
    rw [hia] at H57
    exact H57
end S75
