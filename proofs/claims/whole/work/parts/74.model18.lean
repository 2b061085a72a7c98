/-! ===== the reference: possible, rings ===== -/
def pkC (c k : Nat) : Nat := c / 2 ^ (2 * (k - 1)) &&& 3
theorem pkC_lt (c k : Nat) : pkC c k < 4 := Nat.lt_of_le_of_lt Nat.and_le_right (by decide)
/-- a choice of ways that there can be -/
def posP (sy : Nat → Nat → Nat) (H : Nat → Nat) (r c : Nat) : Prop := ∀ k, 1 ≤ k → k ≤ 4 → (¬ ntB (sy r k) = 0 → H (4 * sy r k + pkC c k) ≠ 0) ∧ (ntB (sy r k) = 0 → pkC c k = 0)
theorem posP_mono {sy : Nat → Nat → Nat} {H G : Nat → Nat} {r c : Nat} (h : ∀ j, H j ≠ 0 → G j ≠ 0) (p : posP sy H r c) : posP sy G r c := fun k h1 h4 => ⟨fun z => h _ ((p k h1 h4).1 z), (p k h1 h4).2⟩
def wayR (sy : Nat → Nat → Nat) (W : Nat → Nat) (r : Nat) : Nat := 4 * sy r 0 + (W 0 / 2 ^ 2 &&& 1) + 2 * (W 1 / 2 ^ 2 &&& 1)
theorem wayR_lt {sy : Nat → Nat → Nat} {W : Nat → Nat} {r : Nat} (h : sy r 0 ≤ 13) : wayR sy W r < 56 := by
  unfold wayR
  have h1 : W 0 / 2 ^ 2 &&& 1 ≤ 1 := Nat.and_le_right
  have h2 : W 1 / 2 ^ 2 &&& 1 ≤ 1 := Nat.and_le_right
  omega
section S74
variable {g : Nat} {i : Nat → Nat → Int32} {q : Nat → Nat → Int64} {t : Bool} {Q : xRes → xMem → Prop} {n : Nat} {sy : Nat → Nat → Nat} {op xp yp : Nat → Nat}
theorem sp_Model_possible {r c : Nat} {H : Nat → Nat} (rg : RG i n sy) (hr : r < n) (hc : c < 256) (hH : ∀ j, j < 56 → i 74 j = nI (H j) ∧ H j < 2)
    (hQ : ∀ b i1, b < 2 → (b = 1 ↔ posP sy H r c) → Fm [76] [] i i1 → (∀ k, 1 ≤ k → k ≤ 4 → i1 76 k = nI (pkC c k)) → Q (.ok (some (.int (nI b)))) (94, g, i1, q, RT t)) :
    Wx m_Model_possible 0 [some (.ref 56), some (.int (nI r)), some (.int (nI c)), none, none, none] [] (94, g, i, q, RT t) (0, 0) Q := by
  have gw := rg.2.2.2.2
  have hn := gw.1
  have hl := lnR_le sy r
  have LP : ∀ d k b i1, k + d = 5 → 1 ≤ k → b < 2 → (b = 1 ↔ ∀ k', 1 ≤ k' → k' < k → (¬ ntB (sy r k') = 0 → H (4 * sy r k' + pkC c k') ≠ 0) ∧ (ntB (sy r k') = 0 → pkC c k' = 0)) → Fm [76] [] i i1 → (∀ k', 1 ≤ k' → k' < k → i1 76 k' = nI (pkC c k')) →
      Wx m_Model_possible 5 [some (.ref 56), some (.int (nI r)), some (.int (nI c)), some (.int (nI b)), some (.int (nI k)), none] [] (94, g, i1, q, RT t) (0, 0) Q := by
    intro d
    induction d with
    | zero =>
      intro k b i1 hkd hk1 hb hbs hf hpk
      have e : k = 5 := hkd
      subst e
      refine ex_iload dX10_possible_5 rfl ?_
      refine ex_iconst (v := nI 4) dX10_possible_7 (by decide) ?_
      refine ex_icmp_gtN (tgt := 107) dX10_possible_8 (by decide) (by decide) (by decide) (fun h8 => ?_) (fun h8 => by exact absurd h8 (by decide))
      refine ex_iload_n (i := 3) dX10_possible_107 rfl rfl ?_
      refine ex_iret dX10_possible_108 rfl (xb_n (by rcases (show b = 0 ∨ b = 1 by omega) with rfl | rfl; exact Or.inl (by decide); exact Or.inr (by decide))) ?_
      exact hQ b i1 hb (hbs.trans ⟨fun h k a1 a2 => h k a1 (by omega), fun h k a1 a2 => h k a1 (by omega)⟩) hf (fun k a1 a2 => hpk k a1 (by omega))
    | succ d ih =>
      intro k b i1 hkd hk1 hb hbs hf hpk
      have rg1 := rg.fm hf (by decide) (by decide) (by decide) (by decide)
      have e59 := rg1.2.2.2.1 r hr
      have hs13 := gw.le (r := r) (k := k) (by omega) (by omega)
      have hpc := pkC_lt c k
      have epk : c / 2 ^ (2 * (k - 1)) &&& 3 = pkC c k := rfl
      have hf2 : Fm [76] [] i (xU i1 76 k (nI (pkC c k))) := hf.U (by decide) (by decide)
      have hp2 : ∀ k', 1 ≤ k' → k' < k + 1 → xU i1 76 k (nI (pkC c k)) 76 k' = nI (pkC c k') := fun k' a1 a2 => by
        rw [xU_at]; unfold upd
        by_cases e : k' = k
        · rw [if_pos e, e]
        · rw [if_neg e]; exact hpk k' a1 (by omega)
      have YES : ((¬ ntB (sy r k) = 0 → H (4 * sy r k + pkC c k) ≠ 0) ∧ (ntB (sy r k) = 0 → pkC c k = 0)) → Wx m_Model_possible 5 [some (.ref 56), some (.int (nI r)), some (.int (nI c)), some (.int (nI b)), some (.int (nI (k + 1))), none] [] (94, g, xU i1 76 k (nI (pkC c k)), q, RT t) (0, 0) Q := fun hy =>
        ih (k + 1) b _ (by omega) (by omega) hb (hbs.trans ⟨fun h k' a1 a2 => by
          by_cases e : k' = k
          · rw [e]; exact hy
          · exact h k' a1 (by omega), fun h k' a1 a2 => h k' a1 (by omega)⟩) hf2 hp2
      have NO : ¬ ((¬ ntB (sy r k) = 0 → H (4 * sy r k + pkC c k) ≠ 0) ∧ (ntB (sy r k) = 0 → pkC c k = 0)) → Wx m_Model_possible 5 [some (.ref 56), some (.int (nI r)), some (.int (nI c)), some (.int (nI 0)), some (.int (nI (k + 1))), none] [] (94, g, xU i1 76 k (nI (pkC c k)), q, RT t) (0, 0) Q := fun hy =>
        ih (k + 1) 0 _ (by omega) (by omega) (by decide) ⟨fun h => absurd h (by decide), fun h => absurd (h k hk1 (by omega)) hy⟩ hf2 hp2
      -- behind the symbol
      have S56 : Wx m_Model_possible 58 [some (.ref 56), some (.int (nI r)), some (.int (nI c)), some (.int (nI b)), some (.int (nI k)), some (.int (nI (sy r k)))] [] (94, g, xU i1 76 k (nI (pkC c k)), q, RT t) (0, 0) Q := by
        have e76 := hp2 k hk1 (by omega)
        by_cases nt : ntB (sy r k) = 0
        · by_cases pz : pkC c k = 0
          ·
            refine ex_iload dX10_possible_58 rfl ?_
            refine ex_cS (ν := m_Model_nonterminal) (as := [.int (nI (sy r k))]) dX10_possible_60 ln_Model_135 mf_Model_nonterminal np_Model_nonterminal rfl rfl ⟨(Nat.le_of_ble_eq_true rfl), (Nat.le_of_ble_eq_true rfl), (Nat.le_of_ble_eq_true rfl), (Nat.le_of_ble_eq_true rfl)⟩ (by decide) ?_
            refine sp_Model_nonterminal_N (by omega) ?_
            refine ⟨_, rfl, ?_⟩
            refine ex_if_eqN (tgt := 89) dX10_possible_63 (by decide) (ntB_b _) (fun h63 => ?_) (fun h63 => by exact absurd nt h63)
            refine ex_aload_n (i := 0) dX10_possible_89 rfl rfl ?_
            refine ex_getR (v := .ref (76)) dX10_possible_90 fl_Model_68 rfl rfl (by decide) rfl ?_
            refine ex_iload dX10_possible_93 rfl ?_
            refine ex_ialdN dX10_possible_95 rfl (by decide) (by omega) rfl ?_
            refine ex_asN (a := pkC c k) e76 ?_
            refine ex_if_eqN (tgt := 101) dX10_possible_96 (by decide) (by omega) (fun h96 => ?_) (fun h96 => by exact absurd pz h96)
            refine ex_iincN (L' := [some (.ref (56)), some (.int (nI (r))), some (.int (nI (c))), some (.int (nI (b))), some (.int (nI (k + 1))), some (.int (nI (sy r k)))]) dX10_possible_101 rfl rfl (by decide) rfl ?_
            refine ex_goto (tgt := 5) dX10_possible_104 (by decide) ?_
            exact ex_less (L' := [some (.ref 56), some (.int (nI r)), some (.int (nI c)), some (.int (nI b)), some (.int (nI (k + 1))), none]) (by simp [xSub]) (YES ⟨fun z => absurd nt z, fun _ => pz⟩)
          ·
            refine ex_iload dX10_possible_58 rfl ?_
            refine ex_cS (ν := m_Model_nonterminal) (as := [.int (nI (sy r k))]) dX10_possible_60 ln_Model_135 mf_Model_nonterminal np_Model_nonterminal rfl rfl ⟨(Nat.le_of_ble_eq_true rfl), (Nat.le_of_ble_eq_true rfl), (Nat.le_of_ble_eq_true rfl), (Nat.le_of_ble_eq_true rfl)⟩ (by decide) ?_
            refine sp_Model_nonterminal_N (by omega) ?_
            refine ⟨_, rfl, ?_⟩
            refine ex_if_eqN (tgt := 89) dX10_possible_63 (by decide) (ntB_b _) (fun h63 => ?_) (fun h63 => by exact absurd nt h63)
            refine ex_aload_n (i := 0) dX10_possible_89 rfl rfl ?_
            refine ex_getR (v := .ref (76)) dX10_possible_90 fl_Model_68 rfl rfl (by decide) rfl ?_
            refine ex_iload dX10_possible_93 rfl ?_
            refine ex_ialdN dX10_possible_95 rfl (by decide) (by omega) rfl ?_
            refine ex_asN (a := pkC c k) e76 ?_
            refine ex_if_eqN (tgt := 101) dX10_possible_96 (by decide) (by omega) (fun h96 => by exact absurd h96 pz) (fun h96 => ?_)
            refine ex_iconst (v := nI 0) dX10_possible_99 (by decide) ?_
            refine ex_istore_n (L' := [some (.ref (56)), some (.int (nI (r))), some (.int (nI (c))), some (.int (nI (0))), some (.int (nI (k))), some (.int (nI (sy r k)))]) dX10_possible_100 (i := 3) rfl (by decide) rfl ?_
            refine ex_iincN (L' := [some (.ref (56)), some (.int (nI (r))), some (.int (nI (c))), some (.int (nI (0))), some (.int (nI (k + 1))), some (.int (nI (sy r k)))]) dX10_possible_101 rfl rfl (by decide) rfl ?_
            refine ex_goto (tgt := 5) dX10_possible_104 (by decide) ?_
            exact ex_less (L' := [some (.ref 56), some (.int (nI r)), some (.int (nI c)), some (.int (nI 0)), some (.int (nI (k + 1))), none]) (by simp [xSub]) (NO (fun z => pz (z.2 nt)))
        · have hHw := hH (4 * sy r k + pkC c k) (by omega)
          have e74 : xU i1 76 k (nI (pkC c k)) 74 (4 * sy r k + pkC c k) = nI (H (4 * sy r k + pkC c k)) := by rw [hf2.1 74 (by decide) (by decide)]; exact hHw.1
          by_cases hz : H (4 * sy r k + pkC c k) = 0
          ·
            refine ex_iload dX10_possible_58 rfl ?_
            refine ex_cS (ν := m_Model_nonterminal) (as := [.int (nI (sy r k))]) dX10_possible_60 ln_Model_135 mf_Model_nonterminal np_Model_nonterminal rfl rfl ⟨(Nat.le_of_ble_eq_true rfl), (Nat.le_of_ble_eq_true rfl), (Nat.le_of_ble_eq_true rfl), (Nat.le_of_ble_eq_true rfl)⟩ (by decide) ?_
            refine sp_Model_nonterminal_N (by omega) ?_
            refine ⟨_, rfl, ?_⟩
            refine ex_if_eqN (tgt := 89) dX10_possible_63 (by decide) (ntB_b _) (fun h63 => by exact absurd h63 nt) (fun h63 => ?_)
            refine ex_aload_n (i := 0) dX10_possible_66 rfl rfl ?_
            refine ex_getR (v := .ref (74)) dX10_possible_67 fl_Model_62 rfl rfl (by decide) rfl ?_
            refine ex_iconst (v := nI 4) dX10_possible_70 (by decide) ?_
            refine ex_iload dX10_possible_71 rfl ?_
            refine ex_imulN dX10_possible_73 ?_
            refine ex_aload_n (i := 0) dX10_possible_74 rfl rfl ?_
            refine ex_getR (v := .ref (76)) dX10_possible_75 fl_Model_68 rfl rfl (by decide) rfl ?_
            refine ex_iload dX10_possible_78 rfl ?_
            refine ex_ialdN dX10_possible_80 rfl (by decide) (by omega) rfl ?_
            refine ex_asN (a := pkC c k) e76 ?_
            refine ex_iaddN dX10_possible_81 ?_
            refine ex_baldN dX10_possible_82 rfl (by decide) (by omega) rfl ?_
            refine ex_asN (a := H (4 * sy r k + pkC c k)) e74 ?_
            refine ex_if_neN (tgt := 101) dX10_possible_83 (by decide) (by omega) (fun h83 => by exact absurd hz h83) (fun h83 => ?_)
            refine ex_goto (tgt := 99) dX10_possible_86 (by decide) ?_
            refine ex_iconst (v := nI 0) dX10_possible_99 (by decide) ?_
            refine ex_istore_n (L' := [some (.ref (56)), some (.int (nI (r))), some (.int (nI (c))), some (.int (nI (0))), some (.int (nI (k))), some (.int (nI (sy r k)))]) dX10_possible_100 (i := 3) rfl (by decide) rfl ?_
            refine ex_iincN (L' := [some (.ref (56)), some (.int (nI (r))), some (.int (nI (c))), some (.int (nI (0))), some (.int (nI (k + 1))), some (.int (nI (sy r k)))]) dX10_possible_101 rfl rfl (by decide) rfl ?_
            refine ex_goto (tgt := 5) dX10_possible_104 (by decide) ?_
            exact ex_less (L' := [some (.ref 56), some (.int (nI r)), some (.int (nI c)), some (.int (nI 0)), some (.int (nI (k + 1))), none]) (by simp [xSub]) (NO (fun z => z.1 nt hz))
          ·
            refine ex_iload dX10_possible_58 rfl ?_
            refine ex_cS (ν := m_Model_nonterminal) (as := [.int (nI (sy r k))]) dX10_possible_60 ln_Model_135 mf_Model_nonterminal np_Model_nonterminal rfl rfl ⟨(Nat.le_of_ble_eq_true rfl), (Nat.le_of_ble_eq_true rfl), (Nat.le_of_ble_eq_true rfl), (Nat.le_of_ble_eq_true rfl)⟩ (by decide) ?_
            refine sp_Model_nonterminal_N (by omega) ?_
            refine ⟨_, rfl, ?_⟩
            refine ex_if_eqN (tgt := 89) dX10_possible_63 (by decide) (ntB_b _) (fun h63 => by exact absurd h63 nt) (fun h63 => ?_)
            refine ex_aload_n (i := 0) dX10_possible_66 rfl rfl ?_
            refine ex_getR (v := .ref (74)) dX10_possible_67 fl_Model_62 rfl rfl (by decide) rfl ?_
            refine ex_iconst (v := nI 4) dX10_possible_70 (by decide) ?_
            refine ex_iload dX10_possible_71 rfl ?_
            refine ex_imulN dX10_possible_73 ?_
            refine ex_aload_n (i := 0) dX10_possible_74 rfl rfl ?_
            refine ex_getR (v := .ref (76)) dX10_possible_75 fl_Model_68 rfl rfl (by decide) rfl ?_
            refine ex_iload dX10_possible_78 rfl ?_
            refine ex_ialdN dX10_possible_80 rfl (by decide) (by omega) rfl ?_
            refine ex_asN (a := pkC c k) e76 ?_
            refine ex_iaddN dX10_possible_81 ?_
            refine ex_baldN dX10_possible_82 rfl (by decide) (by omega) rfl ?_
            refine ex_asN (a := H (4 * sy r k + pkC c k)) e74 ?_
            refine ex_if_neN (tgt := 101) dX10_possible_83 (by decide) (by omega) (fun h83 => ?_) (fun h83 => by exact absurd h83 hz)
            refine ex_iincN (L' := [some (.ref (56)), some (.int (nI (r))), some (.int (nI (c))), some (.int (nI (b))), some (.int (nI (k + 1))), some (.int (nI (sy r k)))]) dX10_possible_101 rfl rfl (by decide) rfl ?_
            refine ex_goto (tgt := 5) dX10_possible_104 (by decide) ?_
            exact ex_less (L' := [some (.ref 56), some (.int (nI r)), some (.int (nI c)), some (.int (nI b)), some (.int (nI (k + 1))), none]) (by simp [xSub]) (YES ⟨fun _ => hz, fun z => absurd z nt⟩)
      by_cases cl : k ≤ lnR sy r
      · have e58 : i1 58 (4 * r + k - 1) = nI (sy r k) := by
          have := rg1.2.2.1 r (k - 1) hr (by omega)
          rw [show 4 * r + k - 1 = 4 * r + (k - 1) by omega, this, show k - 1 + 1 = k by omega]
        refine ex_iload dX10_possible_5 rfl ?_
        refine ex_iconst (v := nI 4) dX10_possible_7 (by decide) ?_
        refine ex_icmp_gtN (tgt := 107) dX10_possible_8 (by decide) (by omega) (by omega) (fun h8 => by omega) (fun h8 => ?_)
        refine ex_aload_n (i := 0) dX10_possible_11 rfl rfl ?_
        refine ex_getR (v := .ref (76)) dX10_possible_12 fl_Model_68 rfl rfl (by decide) rfl ?_
        refine ex_iload dX10_possible_15 rfl ?_
        refine ex_iload_n (i := 2) dX10_possible_17 rfl rfl ?_
        refine ex_iconst (v := nI 2) dX10_possible_18 (by decide) ?_
        refine ex_iload dX10_possible_19 rfl ?_
        refine ex_iconst (v := nI 1) dX10_possible_21 (by decide) ?_
        refine ex_isubN dX10_possible_22 (by omega) ?_
        refine ex_imulN dX10_possible_23 ?_
        refine ex_ishrN dX10_possible_24 (by omega) (by omega) ?_
        refine ex_iconst (v := nI 3) dX10_possible_25 (by decide) ?_
        refine ex_iandN dX10_possible_26 ?_
        refine ex_asN (a := pkC c k) rfl ?_
        refine ex_iastN dX10_possible_27 rfl (by decide) (by omega) ?_
        refine ex_iload dX10_possible_28 rfl ?_
        refine ex_aload_n (i := 0) dX10_possible_30 rfl rfl ?_
        refine ex_getR (v := .ref (59)) dX10_possible_31 fl_Model_16 rfl rfl (by decide) rfl ?_
        refine ex_iload_n (i := 1) dX10_possible_34 rfl rfl ?_
        refine ex_ialdN dX10_possible_35 rfl (by decide) (by omega) rfl ?_
        refine ex_asN (a := lnR sy r) e59 ?_
        refine ex_icmp_gtN (tgt := 55) dX10_possible_36 (by decide) (by omega) (by omega) (fun h36 => by omega) (fun h36 => ?_)
        refine ex_aload_n (i := 0) dX10_possible_39 rfl rfl ?_
        refine ex_getR (v := .ref (58)) dX10_possible_40 fl_Model_13 rfl rfl (by decide) rfl ?_
        refine ex_iconst (v := nI 4) dX10_possible_43 (by decide) ?_
        refine ex_iload_n (i := 1) dX10_possible_44 rfl rfl ?_
        refine ex_imulN dX10_possible_45 ?_
        refine ex_iload dX10_possible_46 rfl ?_
        refine ex_iaddN dX10_possible_48 ?_
        refine ex_iconst (v := nI 1) dX10_possible_49 (by decide) ?_
        refine ex_isubN dX10_possible_50 (by omega) ?_
        refine ex_ialdN dX10_possible_51 rfl (by decide) (by omega) rfl ?_
        refine ex_asN (a := sy r k) e58 ?_
        refine ex_goto (tgt := 56) dX10_possible_52 (by decide) ?_
        refine ex_istore (L' := [some (.ref (56)), some (.int (nI (r))), some (.int (nI (c))), some (.int (nI (b))), some (.int (nI (k))), some (.int (nI (sy r k)))]) dX10_possible_56 (by decide) rfl ?_
        exact S56
      · have e0 : sy r k = 0 := sy_z gw (by omega) (by omega) (by omega)
        rw [e0] at S56
        refine ex_iload dX10_possible_5 rfl ?_
        refine ex_iconst (v := nI 4) dX10_possible_7 (by decide) ?_
        refine ex_icmp_gtN (tgt := 107) dX10_possible_8 (by decide) (by omega) (by omega) (fun h8 => by omega) (fun h8 => ?_)
        refine ex_aload_n (i := 0) dX10_possible_11 rfl rfl ?_
        refine ex_getR (v := .ref (76)) dX10_possible_12 fl_Model_68 rfl rfl (by decide) rfl ?_
        refine ex_iload dX10_possible_15 rfl ?_
        refine ex_iload_n (i := 2) dX10_possible_17 rfl rfl ?_
        refine ex_iconst (v := nI 2) dX10_possible_18 (by decide) ?_
        refine ex_iload dX10_possible_19 rfl ?_
        refine ex_iconst (v := nI 1) dX10_possible_21 (by decide) ?_
        refine ex_isubN dX10_possible_22 (by omega) ?_
        refine ex_imulN dX10_possible_23 ?_
        refine ex_ishrN dX10_possible_24 (by omega) (by omega) ?_
        refine ex_iconst (v := nI 3) dX10_possible_25 (by decide) ?_
        refine ex_iandN dX10_possible_26 ?_
        refine ex_asN (a := pkC c k) rfl ?_
        refine ex_iastN dX10_possible_27 rfl (by decide) (by omega) ?_
        refine ex_iload dX10_possible_28 rfl ?_
        refine ex_aload_n (i := 0) dX10_possible_30 rfl rfl ?_
        refine ex_getR (v := .ref (59)) dX10_possible_31 fl_Model_16 rfl rfl (by decide) rfl ?_
        refine ex_iload_n (i := 1) dX10_possible_34 rfl rfl ?_
        refine ex_ialdN dX10_possible_35 rfl (by decide) (by omega) rfl ?_
        refine ex_asN (a := lnR sy r) e59 ?_
        refine ex_icmp_gtN (tgt := 55) dX10_possible_36 (by decide) (by omega) (by omega) (fun h36 => ?_) (fun h36 => by omega)
        refine ex_iconst (v := nI 0) dX10_possible_55 (by decide) ?_
        refine ex_istore (L' := [some (.ref (56)), some (.int (nI (r))), some (.int (nI (c))), some (.int (nI (b))), some (.int (nI (k))), some (.int (nI (0)))]) dX10_possible_56 (by decide) rfl ?_
        exact S56
  refine ex_iconst (v := nI 1) dX10_possible_0 (by decide) ?_
  refine ex_istore_n (L' := [some (.ref (56)), some (.int (nI (r))), some (.int (nI (c))), some (.int (nI (1))), none, none]) dX10_possible_1 (i := 3) rfl (by decide) rfl ?_
  refine ex_iconst (v := nI 1) dX10_possible_2 (by decide) ?_
  refine ex_istore (L' := [some (.ref (56)), some (.int (nI (r))), some (.int (nI (c))), some (.int (nI (1))), some (.int (nI (1))), none]) dX10_possible_3 (by decide) rfl ?_
  exact LP 4 1 1 i rfl (Nat.le_refl _) (by decide) ⟨fun _ k a b => by omega, fun _ => rfl⟩ Fm.rf (fun k a b => by omega)
/-- closed sets of ways -/
def clHc (sy : Nat → Nat → Nat) (op xp yp H : Nat → Nat) (r c : Nat) : Prop := posP sy H r c → H (wayR sy (hgW sy op xp yp (pkC c) r) r) ≠ 0
def slC (sy : Nat → Nat → Nat) (op xp yp H : Nat → Nat) (n : Nat) : Prop := ∃ r c, r < n ∧ c < 256 ∧ posP sy H r c ∧ slf (hgW sy op xp yp (pkC c) r)
def leH (n : Nat) (sy : Nat → Nat → Nat) (op xp yp H : Nat → Nat) : Prop := ∀ G : Nat → Nat, (∀ r c, r < n → c < 256 → clHc sy op xp yp G r c) → ∀ j, H j ≠ 0 → G j ≠ 0
def rsI (n : Nat) (sy : Nat → Nat → Nat) (op xp yp : Nat → Nat) (i i1 : Nat → Nat → Int32) (H : Nat → Nat) (f : Nat) : Prop := Fm [74, 75, 76] [10] i i1 ∧ (∀ j, j < 56 → i1 74 j = nI (H j) ∧ H j < 2) ∧ (i1 56 10 = nI f ∧ f < 2) ∧ (f = 1 → slC sy op xp yp H n) ∧ leH n sy op xp yp H ∧ ∀ j, 56 ≤ j → H j = 0
theorem lp_Model_rings_c {r : Nat} {H1 : Nat → Nat} {P : Nat → Prop} (rg : RG i n sy) (re : RE i op xp yp) (es : ESw op xp yp) (hr : r < n) (hPm : ∀ f, P f → P 1)
    (hk : ∀ b i1 H f, rsI n sy op xp yp i i1 H f → (b = 0 ∧ H = H1 ∧ P f ∧ (∀ c, c < 256 → clHc sy op xp yp H r c ∧ (posP sy H r c → slf (hgW sy op xp yp (pkC c) r) → f = 1)) ∨ b = 1 ∧ sumN H1 56 < sumN H 56) → Wx m_Model_rings 135 [some (.ref 56), some (.int (nI b)), some (.int (nI r)), none, none] [] (94, g, i1, q, RT t) (0, 0) Q) :
    ∀ d c b i1 H f, c + d = 256 → rsI n sy op xp yp i i1 H f → (b = 0 ∧ H = H1 ∧ P f ∧ (∀ c', c' < c → clHc sy op xp yp H r c' ∧ (posP sy H r c' → slf (hgW sy op xp yp (pkC c') r) → f = 1)) ∨ b = 1 ∧ sumN H1 56 < sumN H 56) →
      Wx m_Model_rings 46 [some (.ref 56), some (.int (nI b)), some (.int (nI r)), some (.int (nI c)), none] [] (94, g, i1, q, RT t) (0, 0) Q := by
  have gw := rg.2.2.2.2
  have hn := gw.1
  have hlf := gw.2.2.1 r hr
  intro d
  induction d with
  | zero =>
    intro c b i1 H f hcd hI hh
    have e : c = 256 := hcd
    subst e
    refine ex_iload_n (i := 3) dX10_rings_46 rfl rfl ?_
    refine ex_sipush (v := nI 256) dX10_rings_47 (by decide) ?_
    refine ex_icmp_geN (tgt := 135) dX10_rings_50 (by decide) (by decide) (by decide) (fun h50 => ?_) (fun h50 => by exact absurd h50 (by decide))
    exact ex_less (L' := [some (.ref 56), some (.int (nI b)), some (.int (nI r)), none, none]) (by simp [xSub]) (hk b i1 H f hI hh)
  | succ d ih =>
    intro c b i1 H f hcd hI hh
    obtain ⟨hf, hH, ⟨hf10, hf2⟩, hsl, hle, hbig⟩ := hI
    have hb01 : b < 2 := by rcases hh with h | h <;> omega
    have rg1 := rg.fm hf (by decide) (by decide) (by decide) (by decide)
    have re1 := re.fm hf (by decide) (by decide) (by decide)
    obtain ⟨W, hWd⟩ : ∃ W, W = hgW sy op xp yp (pkC c) r := ⟨_, rfl⟩
    have hW15 : ∀ p, p < 15 → W p < 2 ^ 15 := by rw [hWd]; exact wsN_lt (fun p hp => hgQ_lt es hp) (Nat.le_refl _)
    have H129 : ∀ b2 i2 H2 f2, rsI n sy op xp yp i i2 H2 f2 → (b2 = 0 ∧ H2 = H1 ∧ P f2 ∧ (∀ c', c' < c + 1 → clHc sy op xp yp H2 r c' ∧ (posP sy H2 r c' → slf (hgW sy op xp yp (pkC c') r) → f2 = 1)) ∨ b2 = 1 ∧ sumN H1 56 < sumN H2 56) → Wx m_Model_rings 129 [some (.ref 56), some (.int (nI b2)), some (.int (nI r)), some (.int (nI c)), none] [] (94, g, i2, q, RT t) (0, 0) Q := by
      intro b2 i2 H2 f2 a1 a2
      refine ex_iincN (L' := [some (.ref (56)), some (.int (nI (b2))), some (.int (nI (r))), some (.int (nI (c + 1))), none]) dX10_rings_129 rfl rfl (by decide) rfl ?_
      refine ex_goto (tgt := 46) dX10_rings_132 (by decide) ?_
      exact ih (c + 1) b2 i2 H2 f2 (by omega) a1 a2
    -- from the way on
    have H75 : ∀ i2 f2, posP sy H r c → Fm [74, 75, 76] [10] i i2 → (∀ j, j < 56 → i2 74 j = nI (H j)) → i2 56 10 = nI f2 → f2 < 2 → (f2 = 1 → f = 1 ∨ slf W) → (f = 1 → f2 = 1) → (slf W → f2 = 1) → Vw i2 75 15 W → Wx m_Model_rings 75 [some (.ref 56), some (.int (nI b)), some (.int (nI r)), some (.int (nI c)), none] [] (94, g, i2, q, RT t) (0, 0) Q := by
      intro i2 f2 hpos hf2' hH2 h10 hf22 hf2a hf2b hf2c hV2
      have rg2 := rg.fm hf2' (by decide) (by decide) (by decide) (by decide)
      have e57 := rg2.2.1 r hr
      have hw56 : wayR sy W r < 56 := wayR_lt (by omega)
      have e74 := hH2 _ hw56
      have hHw := (hH _ hw56).2
      have b0 := hW15 0 (by decide)
      have b1 := hW15 1 (by decide)
      have e750 := hV2 0 (by decide)
      have e751 := hV2 1 (by decide)
      have ewy : 4 * sy r 0 + (W 0 / 2 ^ 2 &&& 1) + 2 * (W 1 / 2 ^ 2 &&& 1) = wayR sy W r := rfl
      have hPf : P f → P f2 := fun h => by
        by_cases e : f2 = 1
        · rw [e]; exact hPm f h
        · have : f = f2 := by omega
          rw [← this]; exact h
      have hsl2 : f2 = 1 → ∀ H2 : Nat → Nat, (∀ j, H j ≠ 0 → H2 j ≠ 0) → slC sy op xp yp H2 n := fun e H2 hm => by
        rcases hf2a e with z | z
        · obtain ⟨r', c', r1, r2, r3, r4⟩ := hsl z
          exact ⟨r', c', r1, r2, posP_mono hm r3, r4⟩
        · rw [hWd] at z
          exact ⟨r, c, hr, by omega, posP_mono hm hpos, z⟩
      by_cases hz : H (wayR sy W r) = 0
      · have hgr := upN_grow (F := H) (N := 56) (v := 1) hw56 (by omega) (by omega)
        have X := H129 1 (xU i2 74 (wayR sy W r) (nI 1)) (upN H (wayR sy W r) 1) f2 ⟨hf2'.U (by decide) (by decide), fun j hj => by
          rw [xU_at]; unfold upd upN
          by_cases e : j = wayR sy W r
          · rw [if_pos e, if_pos e]; exact ⟨rfl, by decide⟩
          · rw [if_neg e, if_neg e]; exact ⟨hH2 j hj, (hH j hj).2⟩, ⟨by rw [xU_ne _ _ _ (show (56 : Nat) ≠ 74 by decide)]; exact h10, hf22⟩, fun e => hsl2 e _ (fun j hj => by
          unfold upN; split
          · decide
          · exact hj), fun G hG j hj => by
          by_cases e : j = wayR sy W r
          · rw [e]
            have := hG r c hr (by omega) (posP_mono (hle G hG) hpos)
            rw [← hWd] at this; exact this
          · rw [upN_ne _ _ e] at hj; exact hle G hG j hj, fun j hj => by rw [upN_ne _ _ (by omega)]; exact hbig j hj⟩ (Or.inr ⟨rfl, by
          rcases hh with h | h
          · rw [← h.2.1]; exact hgr
          · omega⟩)
        refine ex_iconst (v := nI 4) dX10_rings_75 (by decide) ?_
        refine ex_aload_n (i := 0) dX10_rings_76 rfl rfl ?_
        refine ex_getR (v := .ref (57)) dX10_rings_77 fl_Model_7 rfl rfl (by decide) rfl ?_
        refine ex_iload_n (i := 2) dX10_rings_80 rfl rfl ?_
        refine ex_ialdN dX10_rings_81 rfl (by decide) (by omega) rfl ?_
        refine ex_asN (a := sy r 0) e57 ?_
        refine ex_imulN dX10_rings_82 ?_
        refine ex_aload_n (i := 0) dX10_rings_83 rfl rfl ?_
        refine ex_getR (v := .ref (75)) dX10_rings_84 fl_Model_65 rfl rfl (by decide) rfl ?_
        refine ex_iconst (v := nI 0) dX10_rings_87 (by decide) ?_
        refine ex_ialdN dX10_rings_88 rfl (by decide) (by omega) rfl ?_
        refine ex_asN (a := W 0) e750 ?_
        refine ex_iconst (v := nI 2) dX10_rings_89 (by decide) ?_
        refine ex_ishrN dX10_rings_90 (by omega) (by omega) ?_
        refine ex_iconst (v := nI 1) dX10_rings_91 (by decide) ?_
        refine ex_iandN dX10_rings_92 ?_
        refine ex_iaddN dX10_rings_93 ?_
        refine ex_iconst (v := nI 2) dX10_rings_94 (by decide) ?_
        refine ex_aload_n (i := 0) dX10_rings_95 rfl rfl ?_
        refine ex_getR (v := .ref (75)) dX10_rings_96 fl_Model_65 rfl rfl (by decide) rfl ?_
        refine ex_iconst (v := nI 1) dX10_rings_99 (by decide) ?_
        refine ex_ialdN dX10_rings_100 rfl (by decide) (by omega) rfl ?_
        refine ex_asN (a := W 1) e751 ?_
        refine ex_iconst (v := nI 2) dX10_rings_101 (by decide) ?_
        refine ex_ishrN dX10_rings_102 (by omega) (by omega) ?_
        refine ex_iconst (v := nI 1) dX10_rings_103 (by decide) ?_
        refine ex_iandN dX10_rings_104 ?_
        refine ex_imulN dX10_rings_105 ?_
        refine ex_iaddN dX10_rings_106 ?_
        refine ex_asN (a := wayR sy W r) (by rw [ewy]) ?_
        refine ex_istore (L' := [some (.ref (56)), some (.int (nI (b))), some (.int (nI (r))), some (.int (nI (c))), some (.int (nI (wayR sy W r)))]) dX10_rings_107 (by decide) rfl ?_
        refine ex_aload_n (i := 0) dX10_rings_109 rfl rfl ?_
        refine ex_getR (v := .ref (74)) dX10_rings_110 fl_Model_62 rfl rfl (by decide) rfl ?_
        refine ex_iload dX10_rings_113 rfl ?_
        refine ex_baldN dX10_rings_115 rfl (by decide) (by omega) rfl ?_
        refine ex_asN (a := H (wayR sy W r)) e74 ?_
        refine ex_if_neN (tgt := 121) dX10_rings_116 (by decide) (by omega) (fun h116 => by exact absurd hz h116) (fun h116 => ?_)
        refine ex_iconst (v := nI 1) dX10_rings_119 (by decide) ?_
        refine ex_istore_n (L' := [some (.ref (56)), some (.int (nI (1))), some (.int (nI (r))), some (.int (nI (c))), some (.int (nI (wayR sy W r)))]) dX10_rings_120 (i := 1) rfl (by decide) rfl ?_
        refine ex_aload_n (i := 0) dX10_rings_121 rfl rfl ?_
        refine ex_getR (v := .ref (74)) dX10_rings_122 fl_Model_62 rfl rfl (by decide) rfl ?_
        refine ex_iload dX10_rings_125 rfl ?_
        refine ex_iconst (v := nI 1) dX10_rings_127 (by decide) ?_
        refine ex_bastN dX10_rings_128 rfl (by decide) (by decide) (by omega) ?_
        exact ex_less (L' := [some (.ref 56), some (.int (nI 1)), some (.int (nI r)), some (.int (nI c)), none]) (by simp [xSub]) X
      · have h1w : H (wayR sy W r) = 1 := by omega
        have X := H129 b (xU i2 74 (wayR sy W r) (nI 1)) H f2 ⟨hf2'.U (by decide) (by decide), fun j hj => by
          rw [xU_at]; unfold upd
          by_cases e : j = wayR sy W r
          · rw [if_pos e, e, h1w]; exact ⟨rfl, by decide⟩
          · rw [if_neg e]; exact ⟨hH2 j hj, (hH j hj).2⟩, ⟨by rw [xU_ne _ _ _ (show (56 : Nat) ≠ 74 by decide)]; exact h10, hf22⟩, fun e => hsl2 e H (fun j hj => hj), hle, hbig⟩ (hh.imp (fun h => ⟨h.1, h.2.1, hPf h.2.2.1, fun c' hc' => by
          by_cases e : c' = c
          · rw [e]
            refine ⟨fun _ => by rw [← hWd]; exact hz, fun _ z => hf2c (by rw [hWd]; exact z)⟩
          · obtain ⟨a1, a2⟩ := h.2.2.2 c' (by omega)
            exact ⟨a1, fun p z => hf2b (a2 p z)⟩⟩) id)
        refine ex_iconst (v := nI 4) dX10_rings_75 (by decide) ?_
        refine ex_aload_n (i := 0) dX10_rings_76 rfl rfl ?_
        refine ex_getR (v := .ref (57)) dX10_rings_77 fl_Model_7 rfl rfl (by decide) rfl ?_
        refine ex_iload_n (i := 2) dX10_rings_80 rfl rfl ?_
        refine ex_ialdN dX10_rings_81 rfl (by decide) (by omega) rfl ?_
        refine ex_asN (a := sy r 0) e57 ?_
        refine ex_imulN dX10_rings_82 ?_
        refine ex_aload_n (i := 0) dX10_rings_83 rfl rfl ?_
        refine ex_getR (v := .ref (75)) dX10_rings_84 fl_Model_65 rfl rfl (by decide) rfl ?_
        refine ex_iconst (v := nI 0) dX10_rings_87 (by decide) ?_
        refine ex_ialdN dX10_rings_88 rfl (by decide) (by omega) rfl ?_
        refine ex_asN (a := W 0) e750 ?_
        refine ex_iconst (v := nI 2) dX10_rings_89 (by decide) ?_
        refine ex_ishrN dX10_rings_90 (by omega) (by omega) ?_
        refine ex_iconst (v := nI 1) dX10_rings_91 (by decide) ?_
        refine ex_iandN dX10_rings_92 ?_
        refine ex_iaddN dX10_rings_93 ?_
        refine ex_iconst (v := nI 2) dX10_rings_94 (by decide) ?_
        refine ex_aload_n (i := 0) dX10_rings_95 rfl rfl ?_
        refine ex_getR (v := .ref (75)) dX10_rings_96 fl_Model_65 rfl rfl (by decide) rfl ?_
        refine ex_iconst (v := nI 1) dX10_rings_99 (by decide) ?_
        refine ex_ialdN dX10_rings_100 rfl (by decide) (by omega) rfl ?_
        refine ex_asN (a := W 1) e751 ?_
        refine ex_iconst (v := nI 2) dX10_rings_101 (by decide) ?_
        refine ex_ishrN dX10_rings_102 (by omega) (by omega) ?_
        refine ex_iconst (v := nI 1) dX10_rings_103 (by decide) ?_
        refine ex_iandN dX10_rings_104 ?_
        refine ex_imulN dX10_rings_105 ?_
        refine ex_iaddN dX10_rings_106 ?_
        refine ex_asN (a := wayR sy W r) (by rw [ewy]) ?_
        refine ex_istore (L' := [some (.ref (56)), some (.int (nI (b))), some (.int (nI (r))), some (.int (nI (c))), some (.int (nI (wayR sy W r)))]) dX10_rings_107 (by decide) rfl ?_
        refine ex_aload_n (i := 0) dX10_rings_109 rfl rfl ?_
        refine ex_getR (v := .ref (74)) dX10_rings_110 fl_Model_62 rfl rfl (by decide) rfl ?_
        refine ex_iload dX10_rings_113 rfl ?_
        refine ex_baldN dX10_rings_115 rfl (by decide) (by omega) rfl ?_
        refine ex_asN (a := H (wayR sy W r)) e74 ?_
        refine ex_if_neN (tgt := 121) dX10_rings_116 (by decide) (by omega) (fun h116 => ?_) (fun h116 => by exact absurd h116 hz)
        refine ex_aload_n (i := 0) dX10_rings_121 rfl rfl ?_
        refine ex_getR (v := .ref (74)) dX10_rings_122 fl_Model_62 rfl rfl (by decide) rfl ?_
        refine ex_iload dX10_rings_125 rfl ?_
        refine ex_iconst (v := nI 1) dX10_rings_127 (by decide) ?_
        refine ex_bastN dX10_rings_128 rfl (by decide) (by decide) (by omega) ?_
        exact ex_less (L' := [some (.ref 56), some (.int (nI b)), some (.int (nI r)), some (.int (nI c)), none]) (by simp [xSub]) X
    have H59 : ∀ a i2, a < 2 → (a = 1 ↔ posP sy H r c) → Fm [76] [] i1 i2 → (∀ k, 1 ≤ k → k ≤ 4 → i2 76 k = nI (pkC c k)) → Wx m_Model_rings 59 [some (.ref 56), some (.int (nI b)), some (.int (nI r)), some (.int (nI c)), none] [.int (nI a)] (94, g, i2, q, RT t) (0, 0) Q := by
      intro a i2 ha2 hap hf12 hpk
      have hf02 : Fm [74, 75, 76] [10] i i2 := hf.tr (hf12.mono (by decide) (by decide))
      have hH2 : ∀ j, j < 56 → i2 74 j = nI (H j) := fun j hj => by rw [hf12.1 74 (by decide) (by decide)]; exact (hH j hj).1
      have h10 : i2 56 10 = nI f := by rw [hf12.2 10 (by decide)]; exact hf10
      by_cases a0 : a = 0
      · have X := H129 b i2 H f ⟨hf02, fun j hj => ⟨hH2 j hj, (hH j hj).2⟩, ⟨h10, hf2⟩, hsl, hle, hbig⟩ (hh.imp (fun h => ⟨h.1, h.2.1, h.2.2.1, fun c' hc' => by
          by_cases e : c' = c
          · rw [e]
            have np : ¬ posP sy H r c := fun z => by have := hap.mpr z; omega
            exact ⟨fun z => absurd z np, fun z => absurd z np⟩
          · exact h.2.2.2 c' (by omega)⟩) id)
        refine ex_if_eqN (tgt := 129) dX10_rings_59 (by decide) (by omega) (fun h59 => ?_) (fun h59 => by omega)
        exact X
      · have hpos := hap.mp (by omega)
        have rg2 := rg.fm hf02 (by decide) (by decide) (by decide) (by decide)
        have re2 := re.fm hf02 (by decide) (by decide) (by decide)
        have H67 : ∀ s i3, s < 2 → (s = 1 ↔ slf W) → Fm [75] [] i2 i3 → Vw i3 75 15 W → Wx m_Model_rings 67 [some (.ref 56), some (.int (nI b)), some (.int (nI r)), some (.int (nI c)), none] [.int (nI s)] (94, g, i3, q, RT t) (0, 0) Q := by
          intro s i3 hs2 hss hf23 hV3
          have hf03 : Fm [74, 75, 76] [10] i i3 := hf02.tr (hf23.mono (by decide) (by decide))
          have hH3 : ∀ j, j < 56 → i3 74 j = nI (H j) := fun j hj => by rw [hf23.1 74 (by decide) (by decide)]; exact hH2 j hj
          have h103 : i3 56 10 = nI f := by rw [hf23.2 10 (by decide)]; exact h10
          by_cases s0 : s = 0
          · have ns : ¬ slf W := fun z => by have := hss.mpr z; omega
            have X := H75 i3 f hpos hf03 hH3 h103 hf2 (fun e => Or.inl e) (fun e => e) (fun z => absurd z ns) hV3
            refine ex_if_eqN (tgt := 75) dX10_rings_67 (by decide) (by omega) (fun h67 => ?_) (fun h67 => by omega)
            exact X
          · have ys := hss.mp (by omega)
            have X := H75 (xU i3 56 10 (nI 1)) 1 hpos (hf03.F (by decide)) (fun j hj => by rw [xU_ne _ _ _ (show (74 : Nat) ≠ 56 by decide)]; exact hH3 j hj) (by rw [xU_at]; simp [upd]) (by decide) (fun _ => Or.inr ys) (fun _ => rfl) (fun _ => rfl) (fun j hj => by rw [xU_ne _ _ _ (show (75 : Nat) ≠ 56 by decide)]; exact hV3 j hj)
            refine ex_if_eqN (tgt := 75) dX10_rings_67 (by decide) (by omega) (fun h67 => by omega) (fun h67 => ?_)
            refine ex_aload_n (i := 0) dX10_rings_70 rfl rfl ?_
            refine ex_iconst (v := nI 1) dX10_rings_71 (by decide) ?_
            refine ex_putI dX10_rings_72 fl_Model_193 cf_10 rfl (Or.inl rfl) (by decide) (by decide) rfl (by decide) ?_
            exact X
        refine ex_if_eqN (tgt := 129) dX10_rings_59 (by decide) (by omega) (fun h59 => by omega) (fun h59 => ?_)
        refine ex_aload_n (i := 0) dX10_rings_62 rfl rfl ?_
        refine ex_iload_n (i := 2) dX10_rings_63 rfl rfl ?_
        refine ex_cV (ν := m_Model_ring) (a := 56) (ci := 10) (as := [.int (nI (r))]) dX10_rings_64 ln_Model_199 mf_Model_ring rfl (Nat.le_of_ble_eq_true rfl) rfl rfl np_Model_ring rfl rfl ⟨(Nat.le_of_ble_eq_true rfl), (Nat.le_of_ble_eq_true rfl), (Nat.le_of_ble_eq_true rfl), (Nat.le_of_ble_eq_true rfl)⟩ (by decide) ?_
        refine sp_Model_ring rg2 re2 es hr (fun k a1 a2 => ⟨hpk k a1 (by have := lnR_le sy r; omega), pkC_lt c k⟩) (fun s i3 c1 c2 c3 c4 => ⟨_, rfl, H67 s i3 c1 (by rw [hWd]; exact c2) c3 (by rw [hWd]; exact c4)⟩)
        skip
    refine ex_iload_n (i := 3) dX10_rings_46 rfl rfl ?_
    refine ex_sipush (v := nI 256) dX10_rings_47 (by decide) ?_
    refine ex_icmp_geN (tgt := 135) dX10_rings_50 (by decide) (by omega) (by omega) (fun h50 => by omega) (fun h50 => ?_)
    refine ex_aload_n (i := 0) dX10_rings_53 rfl rfl ?_
    refine ex_iload_n (i := 2) dX10_rings_54 rfl rfl ?_
    refine ex_iload_n (i := 3) dX10_rings_55 rfl rfl ?_
    refine ex_cV (ν := m_Model_possible) (a := 56) (ci := 10) (as := [.int (nI (r)), .int (nI (c))]) dX10_rings_56 ln_Model_196 mf_Model_possible rfl (Nat.le_of_ble_eq_true rfl) rfl rfl np_Model_possible rfl rfl ⟨(Nat.le_of_ble_eq_true rfl), (Nat.le_of_ble_eq_true rfl), (Nat.le_of_ble_eq_true rfl), (Nat.le_of_ble_eq_true rfl)⟩ (by decide) ?_
    refine sp_Model_possible rg1 hr (by omega) hH (fun a i2 c1 c2 c3 c4 => ⟨_, rfl, H59 a i2 c1 c2 c3 c4⟩)
    skip
theorem lp_Model_rings_r {H1 : Nat → Nat} (rg : RG i n sy) (re : RE i op xp yp) (es : ESw op xp yp)
    (hk : ∀ b i1 H f, rsI n sy op xp yp i i1 H f → (b = 0 ∧ H = H1 ∧ (∀ r c, r < n → c < 256 → clHc sy op xp yp H r c ∧ (posP sy H r c → slf (hgW sy op xp yp (pkC c) r) → f = 1)) ∨ b = 1 ∧ sumN H1 56 < sumN H 56) → Wx m_Model_rings 28 [some (.ref 56), some (.int (nI b)), none, none, none] [] (94, g, i1, q, RT t) (0, 0) Q) :
    ∀ d r b i1 H f, r + d = n → rsI n sy op xp yp i i1 H f → (b = 0 ∧ H = H1 ∧ (∀ r' c, r' < r → c < 256 → clHc sy op xp yp H r' c ∧ (posP sy H r' c → slf (hgW sy op xp yp (pkC c) r') → f = 1)) ∨ b = 1 ∧ sumN H1 56 < sumN H 56) →
      Wx m_Model_rings 36 [some (.ref 56), some (.int (nI b)), some (.int (nI r)), none, none] [] (94, g, i1, q, RT t) (0, 0) Q := by
  have hn := rg.2.2.2.2.1
  intro d
  induction d with
  | zero =>
    intro r b i1 H f hrd hI hh
    have e : r = n := by omega
    subst e
    have rg1 := rg.fm hI.1 (by decide) (by decide) (by decide) (by decide)
    refine ex_iload_n (i := 2) dX10_rings_36 rfl rfl ?_
    refine ex_aload_n (i := 0) dX10_rings_37 rfl rfl ?_
    refine ex_getI dX10_rings_38 fl_Model_145 rfl rfl (by decide) ?_
    refine ex_asN (a := r) rg1.1 ?_
    refine ex_icmp_geN (tgt := 141) dX10_rings_41 (by decide) (by omega) (by omega) (fun h41 => ?_) (fun h41 => by omega)
    refine ex_goto (tgt := 28) dX10_rings_141 (by decide) ?_
    exact ex_less (L' := [some (.ref 56), some (.int (nI b)), none, none, none]) (by simp [xSub]) (hk b i1 H f hI hh)
  | succ d ih =>
    intro r b i1 H f hrd hI hh
    have rg1 := rg.fm hI.1 (by decide) (by decide) (by decide) (by decide)
    have CONT : ∀ b2 i2 H2 f2, rsI n sy op xp yp i i2 H2 f2 → (b2 = 0 ∧ H2 = H1 ∧ (∀ r' c, r' < r → c < 256 → clHc sy op xp yp H1 r' c ∧ (posP sy H1 r' c → slf (hgW sy op xp yp (pkC c) r') → f2 = 1)) ∧ (∀ c, c < 256 → clHc sy op xp yp H2 r c ∧ (posP sy H2 r c → slf (hgW sy op xp yp (pkC c) r) → f2 = 1)) ∨ b2 = 1 ∧ sumN H1 56 < sumN H2 56) → Wx m_Model_rings 135 [some (.ref 56), some (.int (nI b2)), some (.int (nI r)), none, none] [] (94, g, i2, q, RT t) (0, 0) Q := by
      intro b2 i2 H2 f2 a1 a2
      refine ex_iincN (L' := [some (.ref (56)), some (.int (nI (b2))), some (.int (nI (r + 1))), none, none]) dX10_rings_135 rfl rfl (by decide) rfl ?_
      refine ex_goto (tgt := 36) dX10_rings_138 (by decide) ?_
      refine ih (r + 1) b2 i2 H2 f2 (by omega) a1 (a2.imp (fun h => ⟨h.1, h.2.1, fun r' c hr' hc => ?_⟩) id)
      by_cases e : r' = r
      · rw [e]; exact h.2.2.2 c hc
      · rw [h.2.1]; exact h.2.2.1 r' c (by omega) hc
    have C := lp_Model_rings_c (H1 := H1) (P := fun f => ∀ r' c, r' < r → c < 256 → clHc sy op xp yp H1 r' c ∧ (posP sy H1 r' c → slf (hgW sy op xp yp (pkC c) r') → f = 1)) (g := g) (q := q) (t := t) (Q := Q) rg re es (r := r) (by omega) (fun f h r' c a1 a2 => ⟨(h r' c a1 a2).1, fun _ _ => rfl⟩) CONT 256 0 b i1 H f rfl hI (hh.imp (fun h => ⟨h.1, h.2.1, by rw [← h.2.1]; exact h.2.2, fun c' a => by omega⟩) id)
    refine ex_iload_n (i := 2) dX10_rings_36 rfl rfl ?_
    refine ex_aload_n (i := 0) dX10_rings_37 rfl rfl ?_
    refine ex_getI dX10_rings_38 fl_Model_145 rfl rfl (by decide) ?_
    refine ex_asN (a := n) rg1.1 ?_
    refine ex_icmp_geN (tgt := 141) dX10_rings_41 (by decide) (by omega) (by omega) (fun h41 => by omega) (fun h41 => ?_)
    refine ex_iconst (v := nI 0) dX10_rings_44 (by decide) ?_
    refine ex_istore_n (L' := [some (.ref (56)), some (.int (nI (b))), some (.int (nI (r))), some (.int (nI (0))), none]) dX10_rings_45 (i := 3) rfl (by decide) rfl ?_
    exact C
theorem sp_Model_rings (rg : RG i n sy) (re : RE i op xp yp) (es : ESw op xp yp)
    (hQ : ∀ i1 H f, rsI n sy op xp yp i i1 H f → (∀ r c, r < n → c < 256 → clHc sy op xp yp H r c ∧ (posP sy H r c → slf (hgW sy op xp yp (pkC c) r) → f = 1)) → Q (.ok none) (94, g, i1, q, RT t)) :
    Wx m_Model_rings 0 [some (.ref 56), none, none, none, none] [] (94, g, i, q, RT t) (0, 0) Q := by
  have EXIT : ∀ i1 H f, rsI n sy op xp yp i i1 H f → (∀ r c, r < n → c < 256 → clHc sy op xp yp H r c ∧ (posP sy H r c → slf (hgW sy op xp yp (pkC c) r) → f = 1)) → Wx m_Model_rings 28 [some (.ref 56), some (.int (nI 0)), none, none, none] [] (94, g, i1, q, RT t) (0, 0) Q := by
    intro i1 H f a1 a2
    refine ex_iload_n (i := 1) dX10_rings_28 rfl rfl ?_
    refine ex_if_eqN (tgt := 144) dX10_rings_29 (by decide) (by omega) (fun h29 => ?_) (fun h29 => by exact absurd h29 (by decide))
    refine ex_ret dX10_rings_144 rfl ?_
    exact hQ i1 H f a1 a2
  have OUT : ∀ m i1 H f, 56 < sumN H 56 + m → rsI n sy op xp yp i i1 H f → Wx m_Model_rings 28 [some (.ref 56), some (.int (nI 1)), none, none, none] [] (94, g, i1, q, RT t) (0, 0) Q := by
    intro m
    induction m with
    | zero =>
      intro i1 H f hm hI
      have := sumN_le (F := H) (B := 1) (N := 56) (fun j hj => by have := (hI.2.1 j hj).2; omega)
      omega
    | succ m ih =>
      intro i1 H f hm hI
      have J := lp_Model_rings_r (H1 := H) (g := g) (q := q) (t := t) (Q := Q) rg re es (fun b i2 H2 f2 a1 a2 => by
        rcases a2 with ⟨rfl, rfl, hc⟩ | ⟨rfl, hlt⟩
        · exact EXIT i2 _ f2 a1 hc
        · exact ih i2 H2 f2 (by omega) a1) n 0 0 i1 H f (by omega) hI (Or.inl ⟨rfl, rfl, fun r' c h => by omega⟩)
      refine ex_iload_n (i := 1) dX10_rings_28 rfl rfl ?_
      refine ex_if_eqN (tgt := 144) dX10_rings_29 (by decide) (by omega) (fun h29 => by exact absurd h29 (by decide)) (fun h29 => ?_)
      refine ex_iconst (v := nI 0) dX10_rings_32 (by decide) ?_
      refine ex_istore_n (L' := [some (.ref (56)), some (.int (nI (0))), none, none, none]) dX10_rings_33 (i := 1) rfl (by decide) rfl ?_
      refine ex_iconst (v := nI 0) dX10_rings_34 (by decide) ?_
      refine ex_istore_n (L' := [some (.ref (56)), some (.int (nI (0))), some (.int (nI (0))), none, none]) dX10_rings_35 (i := 2) rfl (by decide) rfl ?_
      exact J
  have Z : ∀ d j i1, j + d = 56 → Fm [74, 75, 76] [10] i i1 → i1 56 10 = nI 0 → (∀ j', j' < j → i1 74 j' = nI 0) → Wx m_Model_rings 7 [some (.ref 56), some (.int (nI j)), none, none, none] [] (94, g, i1, q, RT t) (0, 0) Q := by
    intro d
    induction d with
    | zero =>
      intro j i1 hj hf z10 h
      have e : j = 56 := hj
      subst e
      refine ex_iload_n (i := 1) dX10_rings_7 rfl rfl ?_
      refine ex_bipush (v := nI 56) dX10_rings_8 (by decide) ?_
      refine ex_icmp_geN (tgt := 26) dX10_rings_10 (by decide) (by decide) (by decide) (fun h10 => ?_) (fun h10 => by exact absurd h10 (by decide))
      refine ex_iconst (v := nI 1) dX10_rings_26 (by decide) ?_
      refine ex_istore_n (L' := [some (.ref (56)), some (.int (nI (1))), none, none, none]) dX10_rings_27 (i := 1) rfl (by decide) rfl ?_
      exact OUT 57 i1 (fun _ => 0) 0 (by omega) ⟨hf, fun j hj => ⟨h j hj, by show 0 < 2; decide⟩, ⟨z10, by decide⟩, fun z => absurd z (by decide), fun G _ j hj => absurd rfl hj, fun _ _ => rfl⟩
    | succ d ih =>
      intro j i1 hj hf z10 h
      refine ex_iload_n (i := 1) dX10_rings_7 rfl rfl ?_
      refine ex_bipush (v := nI 56) dX10_rings_8 (by decide) ?_
      refine ex_icmp_geN (tgt := 26) dX10_rings_10 (by decide) (by omega) (by omega) (fun h10 => by omega) (fun h10 => ?_)
      refine ex_aload_n (i := 0) dX10_rings_13 rfl rfl ?_
      refine ex_getR (v := .ref (74)) dX10_rings_14 fl_Model_62 rfl rfl (by decide) rfl ?_
      refine ex_iload_n (i := 1) dX10_rings_17 rfl rfl ?_
      refine ex_iconst (v := nI 0) dX10_rings_18 (by decide) ?_
      refine ex_bastN dX10_rings_19 rfl (by decide) (by decide) (by omega) ?_
      refine ex_iincN (L' := [some (.ref (56)), some (.int (nI (j + 1))), none, none, none]) dX10_rings_20 rfl rfl (by decide) rfl ?_
      refine ex_goto (tgt := 7) dX10_rings_23 (by decide) ?_
      refine ih (j + 1) _ (by omega) (hf.U (by decide) (by decide)) (by rw [xU_ne _ _ _ (show (56 : Nat) ≠ 74 by decide)]; exact z10) (fun j' hj' => ?_)
      rw [xU_at]; unfold upd
      by_cases e : j' = j
      · rw [if_pos e]
      · rw [if_neg e]; exact h j' (by omega)
  refine ex_aload_n (i := 0) dX10_rings_0 rfl rfl ?_
  refine ex_iconst (v := nI 0) dX10_rings_1 (by decide) ?_
  refine ex_putI dX10_rings_2 fl_Model_193 cf_10 rfl (Or.inl rfl) (by decide) (by decide) rfl (by decide) ?_
  refine ex_iconst (v := nI 0) dX10_rings_5 (by decide) ?_
  refine ex_istore_n (L' := [some (.ref (56)), some (.int (nI (0))), none, none, none]) dX10_rings_6 (i := 1) rfl (by decide) rfl ?_
  exact Z 56 0 _ rfl (Fm.rf.F (by decide)) (by rw [xU_at]; simp [upd]) (fun j h => by omega)
end S74
