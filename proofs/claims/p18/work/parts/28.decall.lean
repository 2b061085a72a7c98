/-! ===== States.decideAll ===== -/
section S28
variable {ζ g : Nat} {i : Nat → Nat → Int32} {q : Nat → Nat → Int64} {t : Bool} {Q : xRes → xMem → Prop} {n : Nat} {sy : Nat → Nat → Nat} {lv kd : Nat → Nat} {F : Nat → Nat} {T : Nat → Nat → Nat} {S : Nat}
/-- the decisions, in a row -/
noncomputable def DcA (sy : Nat → Nat → Nat) (lv kd : Nat → Nat) (F : Nat → Nat) (T : Nat → Nat → Nat) (j : Nat) : Int32 := dcS sy lv kd F T (j / 7) (j % 7)
theorem cjF_s {D : Nat → Int32} {k : Nat} : cjF D (k + 1) = if D k = nI 1001 then cjF D k + 1 else cjF D k := rfl
/-- what holds behind the first k decisions -/
def dcI (D : Nat → Int32) (i i1 : Nat → Nat → Int32) (k : Nat) : Prop := Fr [16, 26] i i1 ∧ i1 16 6 = i 16 6 ∧ i1 16 7 = nI (cjF D k) ∧ ∀ j, j < k → i1 26 j = D j
theorem lp_States_decideAll (sc : SC i) (gs : GS i n sy) (hS : S ≤ 50) (h6 : i 16 6 = nI S) (hV : Vw i 22 3750 F) (hT : ∀ s x, s < S → 1 ≤ x → x < 14 → i 24 (s * 14 + x) = nI (T s x) ∧ T s x < S) (hT0 : ∀ s, s < 50 → i 24 (s * 14) = 0) (hlv : Vw i 5 7 lv) (hlb : ∀ s, lv s ≤ 9) (hkd : Vw i 7 7 kd) (hkb : ∀ s, kd s ≤ 2)
    (hQ : ∀ i1, dcI (DcA sy lv kd F T) i i1 (7 * S) → Q (.ok none) (56 + ζ, g, i1, q, RT t)) :
    ∀ d s i1, s + d = S → dcI (DcA sy lv kd F T) i i1 (7 * s) → Wx m_States_decideAll 7 [some (.ref 16), some (.int (nI s)), none, none] [] (56 + ζ, g, i1, q, RT t) (0, 0) Q := by
  intro d
  induction d with
  | zero =>
    intro s i1 hs hI
    have e : s = S := by omega
    subst e
    have h61 : i1 16 6 = nI s := hI.2.1.trans h6
    refine ex_iload_n (i := 1) dX7_decideAll_7 rfl rfl ?_
    refine ex_aload_n (i := 0) dX7_decideAll_8 rfl rfl ?_
    refine ex_getI dX7_decideAll_9 fl_States_42 rfl rfl (l56 (by decide)) ?_
    refine ex_asN (a := s) h61 ?_
    refine ex_icmp_geN (tgt := 69) dX7_decideAll_12 (by decide) (by omega) (by omega) (fun h12 => ?_) (fun h12 => by omega)
    refine ex_ret dX7_decideAll_69 rfl ?_
    exact hQ i1 hI
  | succ d ih =>
    intro s i1 hs hI
    have hs50 : s < 50 := by omega
    have inner : ∀ d2 x i2, x + d2 = 7 → dcI (DcA sy lv kd F T) i i2 (7 * s + x) → Wx m_States_decideAll 17 [some (.ref 16), some (.int (nI s)), some (.int (nI x)), none] [] (56 + ζ, g, i2, q, RT t) (0, 0) Q := by
      intro d2
      induction d2 with
      | zero =>
        intro x i2 hx hI2
        have e : x = 7 := by omega
        subst e
        refine ex_iload_n (i := 2) dX7_decideAll_17 rfl rfl ?_
        refine ex_bipush (v := nI 6) dX7_decideAll_18 (by decide) ?_
        refine ex_icmp_gtN (tgt := 63) dX7_decideAll_20 (by decide) (by decide) (by decide) (fun h20 => ?_) (fun h20 => by exact absurd h20 (by decide))
        refine ex_iincN (L' := [some (.ref (16)), some (.int (nI (s + 1))), some (.int (nI (7))), none]) dX7_decideAll_63 rfl rfl (by decide) rfl ?_
        refine ex_goto (tgt := 7) dX7_decideAll_66 (by decide) ?_
        exact ex_less (L' := [some (.ref 16), some (.int (nI (s + 1))), none, none]) (by simp [xSub]) (ih (s + 1) i2 (by omega) (by rw [show 7 * (s + 1) = 7 * s + 7 by omega]; exact hI2))
      | succ d2 ih2 =>
        intro x i2 hx hI2
        obtain ⟨hf, e6, e7, hD⟩ := hI2
        have hx7 : x < 7 := by omega
        have sc2 := SC_Fr (by decide) hf sc
        have gs2 := gs.fr hf (by decide) (by decide)
        have hV2 := hV.fr hf (by decide)
        have hT2 : ∀ s x, s < S → 1 ≤ x → x < 14 → i2 24 (s * 14 + x) = nI (T s x) ∧ T s x < S := fun s x a b c => by rw [hf 24 (by decide)]; exact hT s x a b c
        have hT02 : i2 24 (s * 14) = 0 := by rw [hf 24 (by decide)]; exact hT0 s hs50
        have hlv2 := hlv.fr hf (by decide)
        have hkd2 := hkd.fr hf (by decide)
        have hDj : DcA sy lv kd F T (7 * s + x) = dcS sy lv kd F T s x := by
          unfold DcA
          rw [show (7 * s + x) / 7 = s by omega, show (7 * s + x) % 7 = x by omega]
        have hcl := cjF_le (D := DcA sy lv kd F T) (k := 7 * s + x)
        obtain ⟨v, hv⟩ : ∃ v, v = dcS sy lv kd F T s x := ⟨_, rfl⟩
        rw [← hv] at hDj
        have e70 : xU i2 26 (s * 7 + x) v 16 7 = nI (cjF (DcA sy lv kd F T) (7 * s + x)) := by rw [xU_ne _ _ _ (by decide)]; exact e7
        have hD2 : ∀ j, j < 7 * s + (x + 1) → xU i2 26 (s * 7 + x) v 26 j = DcA sy lv kd F T j := by
          intro j hj
          rw [xU_at]; unfold upd
          by_cases e : j = s * 7 + x
          · rw [if_pos e, e, show s * 7 + x = 7 * s + x by omega, hDj]
          · rw [if_neg e]; exact hD j (by omega)
        by_cases hc : v = nI 1001
        · have hcs : cjF (DcA sy lv kd F T) (7 * s + (x + 1)) = cjF (DcA sy lv kd F T) (7 * s + x) + 1 := by
            rw [show 7 * s + (x + 1) = (7 * s + x) + 1 by omega, cjF_s, hDj, if_pos hc]
          refine ex_iload_n (i := 2) dX7_decideAll_17 rfl rfl ?_
          refine ex_bipush (v := nI 6) dX7_decideAll_18 (by decide) ?_
          refine ex_icmp_gtN (tgt := 63) dX7_decideAll_20 (by decide) (by omega) (by omega) (fun h20 => by omega) (fun h20 => ?_)
          refine ex_aload_n (i := 0) dX7_decideAll_23 rfl rfl ?_
          refine ex_iload_n (i := 1) dX7_decideAll_24 rfl rfl ?_
          refine ex_iload_n (i := 2) dX7_decideAll_25 rfl rfl ?_
          refine ex_cV (ν := m_States_decide) (a := 16) (ci := 7) (as := [.int (nI (s)), .int (nI (x))]) dX7_decideAll_26 ln_States_126 mf_States_decide rfl (l56 (by decide)) rfl rfl np_States_decide rfl rfl ⟨(Nat.le_of_ble_eq_true rfl), (Nat.le_of_ble_eq_true rfl), (Nat.le_of_ble_eq_true rfl), (Nat.le_of_ble_eq_true rfl)⟩ (by decide) ?_
          refine sp_States_decide (F := F) (T := T) (lv := lv) (kd := kd) (S := S) sc2 gs2 (by omega) hS hx7 hV2 hT2 hT02 hlv2 hlb hkd2 hkb ?_
          refine ⟨_, rfl, ?_⟩
          refine ex_asI hv.symm ?_
          refine ex_istore_n (L' := [some (.ref (16)), some (.int (nI (s))), some (.int (nI (x))), some (.int (v))]) dX7_decideAll_29 (i := 3) rfl (by decide) rfl ?_
          refine ex_aload_n (i := 0) dX7_decideAll_30 rfl rfl ?_
          refine ex_getR (v := .ref (25)) dX7_decideAll_31 fl_States_39 rfl rfl (l56 (by decide)) rfl ?_
          refine ex_iload_n (i := 1) dX7_decideAll_34 rfl rfl ?_
          refine ex_iload_n (i := 2) dX7_decideAll_35 rfl rfl ?_
          refine ex_iload_n (i := 3) dX7_decideAll_36 rfl rfl ?_
          refine ex_cV (ν := m_Grid_set) (a := 25) (ci := 2) (as := [.int (nI (s)), .int (nI (x)), .int (v)]) dX7_decideAll_37 ln_States_82 mf_Grid_set rfl (l56 (by decide)) rfl rfl np_Grid_set rfl rfl ⟨(Nat.le_of_ble_eq_true rfl), (Nat.le_of_ble_eq_true rfl), (Nat.le_of_ble_eq_true rfl), (Nat.le_of_ble_eq_true rfl)⟩ (by decide) ?_
          refine sp_Grid_set (r := 25) (c := 26) rfl rfl rfl (l56 (by decide)) (l56 (by decide)) (sc_25_0 sc2) (sc_25_1 sc2) rfl (by omega) (by omega) ?_
          refine ⟨_, rfl, ?_⟩
          refine ex_iload_n (i := 3) dX7_decideAll_40 rfl rfl ?_
          refine ex_sipush (v := nI 1001) dX7_decideAll_41 (by decide) ?_
          refine ex_icmp_ne (tgt := 57) dX7_decideAll_44 (by decide) (fun h44 => by exact absurd hc h44) (fun h44 => ?_)
          refine ex_aload_n (i := 0) dX7_decideAll_47 rfl rfl ?_
          refine ex_dup dX7_decideAll_48 rfl ?_
          refine ex_getI dX7_decideAll_49 fl_States_46 rfl rfl (l56 (by decide)) ?_
          refine ex_asN (a := cjF (DcA sy lv kd F T) (7 * s + x)) e70 ?_
          refine ex_iconst (v := nI 1) dX7_decideAll_52 (by decide) ?_
          refine ex_iaddN dX7_decideAll_53 ?_
          refine ex_putI dX7_decideAll_54 fl_States_46 cf_7 rfl (Or.inl rfl) rfl rfl rfl (l56 (by decide)) ?_
          refine ex_iincN (L' := [some (.ref (16)), some (.int (nI (s))), some (.int (nI (x + 1))), some (.int (v))]) dX7_decideAll_57 rfl rfl (by decide) rfl ?_
          refine ex_goto (tgt := 17) dX7_decideAll_60 (by decide) ?_
          refine ex_less (L' := [some (.ref 16), some (.int (nI s)), some (.int (nI (x + 1))), none]) (by simp [xSub]) (ih2 (x + 1) _ (by omega) ⟨(hf.U (by decide)).U (by decide), ?_, ?_, ?_⟩)
          · rw [xU_at]; unfold upd; rw [if_neg (by decide), xU_ne _ _ _ (by decide)]; exact e6
          · rw [xU_at]; unfold upd; rw [if_pos rfl, hcs]
          · intro j hj; rw [xU_ne _ _ _ (by decide)]; exact hD2 j hj
        · have hcs : cjF (DcA sy lv kd F T) (7 * s + (x + 1)) = cjF (DcA sy lv kd F T) (7 * s + x) := by
            rw [show 7 * s + (x + 1) = (7 * s + x) + 1 by omega, cjF_s, hDj, if_neg hc]
          refine ex_iload_n (i := 2) dX7_decideAll_17 rfl rfl ?_
          refine ex_bipush (v := nI 6) dX7_decideAll_18 (by decide) ?_
          refine ex_icmp_gtN (tgt := 63) dX7_decideAll_20 (by decide) (by omega) (by omega) (fun h20 => by omega) (fun h20 => ?_)
          refine ex_aload_n (i := 0) dX7_decideAll_23 rfl rfl ?_
          refine ex_iload_n (i := 1) dX7_decideAll_24 rfl rfl ?_
          refine ex_iload_n (i := 2) dX7_decideAll_25 rfl rfl ?_
          refine ex_cV (ν := m_States_decide) (a := 16) (ci := 7) (as := [.int (nI (s)), .int (nI (x))]) dX7_decideAll_26 ln_States_126 mf_States_decide rfl (l56 (by decide)) rfl rfl np_States_decide rfl rfl ⟨(Nat.le_of_ble_eq_true rfl), (Nat.le_of_ble_eq_true rfl), (Nat.le_of_ble_eq_true rfl), (Nat.le_of_ble_eq_true rfl)⟩ (by decide) ?_
          refine sp_States_decide (F := F) (T := T) (lv := lv) (kd := kd) (S := S) sc2 gs2 (by omega) hS hx7 hV2 hT2 hT02 hlv2 hlb hkd2 hkb ?_
          refine ⟨_, rfl, ?_⟩
          refine ex_asI hv.symm ?_
          refine ex_istore_n (L' := [some (.ref (16)), some (.int (nI (s))), some (.int (nI (x))), some (.int (v))]) dX7_decideAll_29 (i := 3) rfl (by decide) rfl ?_
          refine ex_aload_n (i := 0) dX7_decideAll_30 rfl rfl ?_
          refine ex_getR (v := .ref (25)) dX7_decideAll_31 fl_States_39 rfl rfl (l56 (by decide)) rfl ?_
          refine ex_iload_n (i := 1) dX7_decideAll_34 rfl rfl ?_
          refine ex_iload_n (i := 2) dX7_decideAll_35 rfl rfl ?_
          refine ex_iload_n (i := 3) dX7_decideAll_36 rfl rfl ?_
          refine ex_cV (ν := m_Grid_set) (a := 25) (ci := 2) (as := [.int (nI (s)), .int (nI (x)), .int (v)]) dX7_decideAll_37 ln_States_82 mf_Grid_set rfl (l56 (by decide)) rfl rfl np_Grid_set rfl rfl ⟨(Nat.le_of_ble_eq_true rfl), (Nat.le_of_ble_eq_true rfl), (Nat.le_of_ble_eq_true rfl), (Nat.le_of_ble_eq_true rfl)⟩ (by decide) ?_
          refine sp_Grid_set (r := 25) (c := 26) rfl rfl rfl (l56 (by decide)) (l56 (by decide)) (sc_25_0 sc2) (sc_25_1 sc2) rfl (by omega) (by omega) ?_
          refine ⟨_, rfl, ?_⟩
          refine ex_iload_n (i := 3) dX7_decideAll_40 rfl rfl ?_
          refine ex_sipush (v := nI 1001) dX7_decideAll_41 (by decide) ?_
          refine ex_icmp_ne (tgt := 57) dX7_decideAll_44 (by decide) (fun h44 => ?_) (fun h44 => by exact absurd h44 hc)
          refine ex_iincN (L' := [some (.ref (16)), some (.int (nI (s))), some (.int (nI (x + 1))), some (.int (v))]) dX7_decideAll_57 rfl rfl (by decide) rfl ?_
          refine ex_goto (tgt := 17) dX7_decideAll_60 (by decide) ?_
          refine ex_less (L' := [some (.ref 16), some (.int (nI s)), some (.int (nI (x + 1))), none]) (by simp [xSub]) (ih2 (x + 1) _ (by omega) ⟨hf.U (by decide), ?_, ?_, hD2⟩)
          · rw [xU_ne _ _ _ (by decide)]; exact e6
          · rw [hcs]; exact e70
    have h61 : i1 16 6 = nI S := hI.2.1.trans h6
    refine ex_iload_n (i := 1) dX7_decideAll_7 rfl rfl ?_
    refine ex_aload_n (i := 0) dX7_decideAll_8 rfl rfl ?_
    refine ex_getI dX7_decideAll_9 fl_States_42 rfl rfl (l56 (by decide)) ?_
    refine ex_asN (a := S) h61 ?_
    refine ex_icmp_geN (tgt := 69) dX7_decideAll_12 (by decide) (by omega) (by omega) (fun h12 => by omega) (fun h12 => ?_)
    refine ex_iconst (v := nI 0) dX7_decideAll_15 (by decide) ?_
    refine ex_istore_n (L' := [some (.ref (16)), some (.int (nI (s))), some (.int (nI (0))), none]) dX7_decideAll_16 (i := 2) rfl (by decide) rfl ?_
    exact inner 7 0 i1 (by omega) hI
theorem sp_States_decideAll (sc : SC i) (gs : GS i n sy) (hS : S ≤ 50) (h6 : i 16 6 = nI S) (hV : Vw i 22 3750 F) (hT : ∀ s x, s < S → 1 ≤ x → x < 14 → i 24 (s * 14 + x) = nI (T s x) ∧ T s x < S) (hT0 : ∀ s, s < 50 → i 24 (s * 14) = 0) (hlv : Vw i 5 7 lv) (hlb : ∀ s, lv s ≤ 9) (hkd : Vw i 7 7 kd) (hkb : ∀ s, kd s ≤ 2)
    (hQ : ∀ i1, dcI (DcA sy lv kd F T) i i1 (7 * S) → Q (.ok none) (56 + ζ, g, i1, q, RT t)) : Wx m_States_decideAll 0 [some (.ref 16), none, none, none] [] (56 + ζ, g, i, q, RT t) (0, 0) Q := by
  have hf : Fr [16, 26] i (xU i 16 7 (nI 0)) := Fr.rf.U (by decide)
  have h0 : dcI (DcA sy lv kd F T) i (xU i 16 7 (nI 0)) (7 * 0) := by
    refine ⟨hf, ?_, ?_, fun j hj => by omega⟩
    · rw [xU_at]; unfold upd; rw [if_neg (by decide)]
    · rw [xU_at]; unfold upd; rw [if_pos rfl]; rfl
  refine ex_aload_n (i := 0) dX7_decideAll_0 rfl rfl ?_
  refine ex_iconst (v := nI 0) dX7_decideAll_1 (by decide) ?_
  refine ex_putI dX7_decideAll_2 fl_States_46 cf_7 rfl (Or.inl rfl) rfl rfl rfl (l56 (by decide)) ?_
  refine ex_iconst (v := nI 0) dX7_decideAll_5 (by decide) ?_
  refine ex_istore_n (L' := [some (.ref (16)), some (.int (nI (0))), none, none]) dX7_decideAll_6 (i := 1) rfl (by decide) rfl ?_
  exact lp_States_decideAll sc gs hS h6 hV hT hT0 hlv hlb hkd hkb hQ S 0 _ (by omega) h0
end S28
