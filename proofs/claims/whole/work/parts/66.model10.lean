/-! ===== the reference: complete, find, keep ===== -/
/-- a set on its way to be closed -/
def cM (n : Nat) (sy : Nat → Nat → Nat) (F0 F : Nat → Nat) : Prop := (∀ j, j < 75 → F j < 2 ∧ (F j ≠ 0 → j / 5 < n ∨ j / 5 = 14)) ∧ (∀ j, j < 75 → F0 j ≠ 0 → F j ≠ 0) ∧ ∀ j, j < 75 → F j ≠ 0 → clP n sy (fun j => F0 j ≠ 0) j
def cMc (n : Nat) (sy : Nat → Nat → Nat) (F : Nat → Nat) (it : Nat) : Prop := F it ≠ 0 → ∀ r, r < n → sy r 0 = bh sy it → F (5 * r) ≠ 0
theorem cM_up {n : Nat} {sy : Nat → Nat → Nat} {F0 F : Nat → Nat} {r it : Nat} (h : cM n sy F0 F) (hn : n ≤ 14) (hr : r < n) (hi : it < 75) (hp : F it ≠ 0) (he : sy r 0 = bh sy it) : cM n sy F0 (upN F (5 * r) 1) := by
  obtain ⟨h1, h2, h3⟩ := h
  refine ⟨fun j hj => ?_, fun j hj hz => ?_, fun j hj hz => ?_⟩
  · unfold upN; split
    · exact ⟨by decide, fun _ => Or.inl (by omega)⟩
    · exact h1 j hj
  · unfold upN; split
    · decide
    · exact h2 j hj hz
  · by_cases e : j = 5 * r
    · subst e
      rw [Nat.mul_comm]
      exact clP_cl it hi (h3 it hi hp) r hr he
    · rw [upN_ne _ _ e] at hz; exact h3 j hj hz
section S66
variable {g : Nat} {i : Nat → Nat → Int32} {q : Nat → Nat → Int64} {t : Bool} {Q : xRes → xMem → Prop} {n : Nat} {sy : Nat → Nat → Nat} {op xp yp : Nat → Nat}
theorem lp_Model_complete_r {F0 F1 : Nat → Nat} {it : Nat} {P : Prop} (rg : RG i n sy) (h14 : RG14 i sy) (hi : it < 75)
    (hk : ∀ b i1 F, Fm [66] [] i i1 → Vw i1 66 75 F → cM n sy F0 F → (b = 0 ∧ F = F1 ∧ P ∧ (∀ r, r < n → sy r 0 = bh sy it → F (5 * r) ≠ 0) ∨ b = 1 ∧ sumN F1 75 < sumN F 75) → Wx m_Model_complete 88 [some (.ref 56), some (.int (nI b)), some (.int (nI it)), none] [] (94, g, i1, q, RT t) (0, 0) Q) :
    ∀ d r b i1 F, r + d = n → Fm [66] [] i i1 → Vw i1 66 75 F → cM n sy F0 F → F it ≠ 0 → (b = 0 ∧ F = F1 ∧ P ∧ (∀ r', r' < r → sy r' 0 = bh sy it → F (5 * r') ≠ 0) ∨ b = 1 ∧ sumN F1 75 < sumN F 75) →
      Wx m_Model_complete 38 [some (.ref 56), some (.int (nI b)), some (.int (nI it)), some (.int (nI r))] [] (94, g, i1, q, RT t) (0, 0) Q := by
  have gw := rg.2.2.2.2
  have hn := gw.1
  intro d
  induction d with
  | zero =>
    intro r b i1 F hr hf hV hc hp hh
    have e : r = n := by omega
    subst e
    have rg1 := rg.fm hf (by decide) (by decide) (by decide) (by decide)
    refine ex_iload_n (i := 3) dX10_complete_38 rfl rfl ?_
    refine ex_aload_n (i := 0) dX10_complete_39 rfl rfl ?_
    refine ex_getI dX10_complete_40 fl_Model_145 rfl rfl (by decide) ?_
    refine ex_asN (a := r) rg1.1 ?_
    refine ex_icmp_geN (tgt := 88) dX10_complete_43 (by decide) (by omega) (by omega) (fun h43 => ?_) (fun h43 => by omega)
    exact ex_less (L' := [some (.ref 56), some (.int (nI b)), some (.int (nI it)), none]) (by simp [xSub]) (hk b i1 F hf hV hc hh)
  | succ d ih =>
    intro r b i1 F hr hf hV hc hp hh
    have rg1 := rg.fm hf (by decide) (by decide) (by decide) (by decide)
    have h141 := h14.fm hf (by decide) (by decide)
    have hrn : r < n := by omega
    have hlf := gw.2.2.1 r hrn
    have hbh : bh sy it < 2 ^ 31 := by
      unfold bh; split
      · have := gw.le (r := it / 5) (k := it % 5 + 1) (by omega) (by omega); omega
      · decide
    have hb01 : b < 2 := by rcases hh with h | h <;> omega
    have e57 := rg1.2.1 r hrn
    have hF5 := (hc.1 (5 * r) (by omega)).1
    by_cases e : sy r 0 = bh sy it
    · by_cases z : F (5 * r) = 0
      · have hlt : sumN F 75 < sumN (upN F (5 * r) 1) 75 := by
          refine sumN_lt (k := 5 * r) (fun j hj => ?_) (by omega) (by rw [upN_at, z]; decide)
          unfold upN; split
          · rename_i e; rw [e, z]; decide
          · exact Nat.le_refl _
        refine ex_iload_n (i := 3) dX10_complete_38 rfl rfl ?_
        refine ex_aload_n (i := 0) dX10_complete_39 rfl rfl ?_
        refine ex_getI dX10_complete_40 fl_Model_145 rfl rfl (by decide) ?_
        refine ex_asN (a := n) rg1.1 ?_
        refine ex_icmp_geN (tgt := 88) dX10_complete_43 (by decide) (by omega) (by omega) (fun h43 => by omega) (fun h43 => ?_)
        refine ex_aload_n (i := 0) dX10_complete_46 rfl rfl ?_
        refine ex_getR (v := .ref (57)) dX10_complete_47 fl_Model_7 rfl rfl (by decide) rfl ?_
        refine ex_iload_n (i := 3) dX10_complete_50 rfl rfl ?_
        refine ex_ialdN dX10_complete_51 rfl (by decide) (by omega) rfl ?_
        refine ex_asN (a := sy r 0) e57 ?_
        refine ex_aload_n (i := 0) dX10_complete_52 rfl rfl ?_
        refine ex_iload_n (i := 2) dX10_complete_53 rfl rfl ?_
        refine ex_cV (ν := m_Model_behind) (a := 56) (ci := 10) (as := [.int (nI (it))]) dX10_complete_54 ln_Model_166 mf_Model_behind rfl (Nat.le_of_ble_eq_true rfl) rfl rfl np_Model_behind rfl rfl ⟨(Nat.le_of_ble_eq_true rfl), (Nat.le_of_ble_eq_true rfl), (Nat.le_of_ble_eq_true rfl), (Nat.le_of_ble_eq_true rfl)⟩ (by decide) ?_
        refine sp_Model_behind rg1 h141 hi (((hc.1 it hi).2 hp)) ?_
        refine ⟨_, rfl, ?_⟩
        refine ex_icmp_neN (tgt := 82) dX10_complete_57 (by decide) (by omega) (by omega) (fun h57 => by exact absurd e h57) (fun h57 => ?_)
        refine ex_aload_n (i := 0) dX10_complete_60 rfl rfl ?_
        refine ex_getR (v := .ref (66)) dX10_complete_61 fl_Model_38 rfl rfl (by decide) rfl ?_
        refine ex_iconst (v := nI 5) dX10_complete_64 (by decide) ?_
        refine ex_iload_n (i := 3) dX10_complete_65 rfl rfl ?_
        refine ex_imulN dX10_complete_66 ?_
        refine ex_baldN dX10_complete_67 rfl (by decide) (by omega) rfl ?_
        refine ex_asN (a := F (5 * r)) (hV (5 * r) (by omega)) ?_
        refine ex_if_neN (tgt := 82) dX10_complete_68 (by decide) (by omega) (fun h68 => by exact absurd z h68) (fun h68 => ?_)
        refine ex_aload_n (i := 0) dX10_complete_71 rfl rfl ?_
        refine ex_getR (v := .ref (66)) dX10_complete_72 fl_Model_38 rfl rfl (by decide) rfl ?_
        refine ex_iconst (v := nI 5) dX10_complete_75 (by decide) ?_
        refine ex_iload_n (i := 3) dX10_complete_76 rfl rfl ?_
        refine ex_imulN dX10_complete_77 ?_
        refine ex_iconst (v := nI 1) dX10_complete_78 (by decide) ?_
        refine ex_bastN dX10_complete_79 rfl (by decide) (by decide) (by omega) ?_
        refine ex_iconst (v := nI 1) dX10_complete_80 (by decide) ?_
        refine ex_istore_n (L' := [some (.ref (56)), some (.int (nI (1))), some (.int (nI (it))), some (.int (nI (r)))]) dX10_complete_81 (i := 1) rfl (by decide) rfl ?_
        refine ex_iincN (L' := [some (.ref (56)), some (.int (nI (1))), some (.int (nI (it))), some (.int (nI (r + 1)))]) dX10_complete_82 rfl rfl (by decide) rfl ?_
        refine ex_goto (tgt := 38) dX10_complete_85 (by decide) ?_
        refine ih (r + 1) 1 _ (upN F (5 * r) 1) (by omega) (hf.U (by decide) (by decide)) (by have := hV.U (k := 5 * r) (v := 1); exact this) (cM_up hc hn hrn hi hp e) ?_ (Or.inr ⟨rfl, ?_⟩)
        · unfold upN; split
          · decide
          · exact hp
        · rcases hh with h | h
          · rw [← h.2.1]; exact hlt
          · omega
      ·
        refine ex_iload_n (i := 3) dX10_complete_38 rfl rfl ?_
        refine ex_aload_n (i := 0) dX10_complete_39 rfl rfl ?_
        refine ex_getI dX10_complete_40 fl_Model_145 rfl rfl (by decide) ?_
        refine ex_asN (a := n) rg1.1 ?_
        refine ex_icmp_geN (tgt := 88) dX10_complete_43 (by decide) (by omega) (by omega) (fun h43 => by omega) (fun h43 => ?_)
        refine ex_aload_n (i := 0) dX10_complete_46 rfl rfl ?_
        refine ex_getR (v := .ref (57)) dX10_complete_47 fl_Model_7 rfl rfl (by decide) rfl ?_
        refine ex_iload_n (i := 3) dX10_complete_50 rfl rfl ?_
        refine ex_ialdN dX10_complete_51 rfl (by decide) (by omega) rfl ?_
        refine ex_asN (a := sy r 0) e57 ?_
        refine ex_aload_n (i := 0) dX10_complete_52 rfl rfl ?_
        refine ex_iload_n (i := 2) dX10_complete_53 rfl rfl ?_
        refine ex_cV (ν := m_Model_behind) (a := 56) (ci := 10) (as := [.int (nI (it))]) dX10_complete_54 ln_Model_166 mf_Model_behind rfl (Nat.le_of_ble_eq_true rfl) rfl rfl np_Model_behind rfl rfl ⟨(Nat.le_of_ble_eq_true rfl), (Nat.le_of_ble_eq_true rfl), (Nat.le_of_ble_eq_true rfl), (Nat.le_of_ble_eq_true rfl)⟩ (by decide) ?_
        refine sp_Model_behind rg1 h141 hi (((hc.1 it hi).2 hp)) ?_
        refine ⟨_, rfl, ?_⟩
        refine ex_icmp_neN (tgt := 82) dX10_complete_57 (by decide) (by omega) (by omega) (fun h57 => by exact absurd e h57) (fun h57 => ?_)
        refine ex_aload_n (i := 0) dX10_complete_60 rfl rfl ?_
        refine ex_getR (v := .ref (66)) dX10_complete_61 fl_Model_38 rfl rfl (by decide) rfl ?_
        refine ex_iconst (v := nI 5) dX10_complete_64 (by decide) ?_
        refine ex_iload_n (i := 3) dX10_complete_65 rfl rfl ?_
        refine ex_imulN dX10_complete_66 ?_
        refine ex_baldN dX10_complete_67 rfl (by decide) (by omega) rfl ?_
        refine ex_asN (a := F (5 * r)) (hV (5 * r) (by omega)) ?_
        refine ex_if_neN (tgt := 82) dX10_complete_68 (by decide) (by omega) (fun h68 => ?_) (fun h68 => by exact absurd h68 z)
        refine ex_iincN (L' := [some (.ref (56)), some (.int (nI (b))), some (.int (nI (it))), some (.int (nI (r + 1)))]) dX10_complete_82 rfl rfl (by decide) rfl ?_
        refine ex_goto (tgt := 38) dX10_complete_85 (by decide) ?_
        refine ih (r + 1) b _ F (by omega) hf hV hc hp (hh.imp (fun h => ⟨h.1, h.2.1, h.2.2.1, fun r' h1 h2 => ?_⟩) id)
        by_cases er : r' = r
        · rw [er]; exact z
        · exact h.2.2.2 r' (by omega) h2
    ·
      refine ex_iload_n (i := 3) dX10_complete_38 rfl rfl ?_
      refine ex_aload_n (i := 0) dX10_complete_39 rfl rfl ?_
      refine ex_getI dX10_complete_40 fl_Model_145 rfl rfl (by decide) ?_
      refine ex_asN (a := n) rg1.1 ?_
      refine ex_icmp_geN (tgt := 88) dX10_complete_43 (by decide) (by omega) (by omega) (fun h43 => by omega) (fun h43 => ?_)
      refine ex_aload_n (i := 0) dX10_complete_46 rfl rfl ?_
      refine ex_getR (v := .ref (57)) dX10_complete_47 fl_Model_7 rfl rfl (by decide) rfl ?_
      refine ex_iload_n (i := 3) dX10_complete_50 rfl rfl ?_
      refine ex_ialdN dX10_complete_51 rfl (by decide) (by omega) rfl ?_
      refine ex_asN (a := sy r 0) e57 ?_
      refine ex_aload_n (i := 0) dX10_complete_52 rfl rfl ?_
      refine ex_iload_n (i := 2) dX10_complete_53 rfl rfl ?_
      refine ex_cV (ν := m_Model_behind) (a := 56) (ci := 10) (as := [.int (nI (it))]) dX10_complete_54 ln_Model_166 mf_Model_behind rfl (Nat.le_of_ble_eq_true rfl) rfl rfl np_Model_behind rfl rfl ⟨(Nat.le_of_ble_eq_true rfl), (Nat.le_of_ble_eq_true rfl), (Nat.le_of_ble_eq_true rfl), (Nat.le_of_ble_eq_true rfl)⟩ (by decide) ?_
      refine sp_Model_behind rg1 h141 hi (((hc.1 it hi).2 hp)) ?_
      refine ⟨_, rfl, ?_⟩
      refine ex_icmp_neN (tgt := 82) dX10_complete_57 (by decide) (by omega) (by omega) (fun h57 => ?_) (fun h57 => by exact absurd h57 e)
      refine ex_iincN (L' := [some (.ref (56)), some (.int (nI (b))), some (.int (nI (it))), some (.int (nI (r + 1)))]) dX10_complete_82 rfl rfl (by decide) rfl ?_
      refine ex_goto (tgt := 38) dX10_complete_85 (by decide) ?_
      refine ih (r + 1) b _ F (by omega) hf hV hc hp (hh.imp (fun h => ⟨h.1, h.2.1, h.2.2.1, fun r' h1 h2 => ?_⟩) id)
      by_cases er : r' = r
      · rw [er] at h2; exact absurd h2 e
      · exact h.2.2.2 r' (by omega) h2
theorem lp_Model_complete_it {F0 F1 : Nat → Nat} (rg : RG i n sy) (h14 : RG14 i sy)
    (hk : ∀ b i1 F, Fm [66] [] i i1 → Vw i1 66 75 F → cM n sy F0 F → (b = 0 ∧ F = F1 ∧ (∀ it, it < 75 → cMc n sy F it) ∨ b = 1 ∧ sumN F1 75 < sumN F 75) → Wx m_Model_complete 2 [some (.ref 56), some (.int (nI b)), none, none] [] (94, g, i1, q, RT t) (0, 0) Q) :
    ∀ d it b i1 F, it + d = 75 → Fm [66] [] i i1 → Vw i1 66 75 F → cM n sy F0 F → (b = 0 ∧ F = F1 ∧ (∀ it', it' < it → cMc n sy F it') ∨ b = 1 ∧ sumN F1 75 < sumN F 75) →
      Wx m_Model_complete 10 [some (.ref 56), some (.int (nI b)), some (.int (nI it)), none] [] (94, g, i1, q, RT t) (0, 0) Q := by
  have gw := rg.2.2.2.2
  have hn := gw.1
  intro d
  induction d with
  | zero =>
    intro it b i1 F hit hf hV hc hh
    have e : it = 75 := hit
    subst e
    refine ex_iload_n (i := 2) dX10_complete_10 rfl rfl ?_
    refine ex_bipush (v := nI 75) dX10_complete_11 (by decide) ?_
    refine ex_icmp_geN (tgt := 94) dX10_complete_13 (by decide) (by decide) (by decide) (fun h13 => ?_) (fun h13 => by exact absurd h13 (by decide))
    refine ex_goto (tgt := 2) dX10_complete_94 (by decide) ?_
    exact ex_less (L' := [some (.ref 56), some (.int (nI b)), none, none]) (by simp [xSub]) (hk b i1 F hf hV hc hh)
  | succ d ih =>
    intro it b i1 F hit hf hV hc hh
    have hi : it < 75 := by omega
    have rg1 := rg.fm hf (by decide) (by decide) (by decide) (by decide)
    have h141 := h14.fm hf (by decide) (by decide)
    have hb01 : b < 2 := by rcases hh with h | h <;> omega
    have hFi := (hc.1 it hi).1
    have hbh : bh sy it < 2 ^ 31 := by
      unfold bh; split
      · have := gw.le (r := it / 5) (k := it % 5 + 1) (by omega) (by omega); omega
      · decide
    have SKIP : cMc n sy F it → Wx m_Model_complete 88 [some (.ref 56), some (.int (nI b)), some (.int (nI it)), none] [] (94, g, i1, q, RT t) (0, 0) Q := by
      intro hcl
      refine ex_iincN (L' := [some (.ref (56)), some (.int (nI (b))), some (.int (nI (it + 1))), none]) dX10_complete_88 rfl rfl (by decide) rfl ?_
      refine ex_goto (tgt := 10) dX10_complete_91 (by decide) ?_
      refine ih (it + 1) b i1 F (by omega) hf hV hc (hh.imp (fun h => ⟨h.1, h.2.1, fun it' h1 => ?_⟩) id)
      by_cases e : it' = it
      · rw [e]; exact hcl
      · exact h.2.2 it' (by omega)
    by_cases z : F it = 0
    ·
      refine ex_iload_n (i := 2) dX10_complete_10 rfl rfl ?_
      refine ex_bipush (v := nI 75) dX10_complete_11 (by decide) ?_
      refine ex_icmp_geN (tgt := 94) dX10_complete_13 (by decide) (by omega) (by omega) (fun h13 => by omega) (fun h13 => ?_)
      refine ex_aload_n (i := 0) dX10_complete_16 rfl rfl ?_
      refine ex_getR (v := .ref (66)) dX10_complete_17 fl_Model_38 rfl rfl (by decide) rfl ?_
      refine ex_iload_n (i := 2) dX10_complete_20 rfl rfl ?_
      refine ex_baldN dX10_complete_21 rfl (by decide) (by omega) rfl ?_
      refine ex_asN (a := F it) (hV it hi) ?_
      refine ex_if_eqN (tgt := 88) dX10_complete_22 (by decide) (by omega) (fun h22 => ?_) (fun h22 => by exact absurd z h22)
      exact SKIP (fun h => absurd z h)
    · by_cases nt : ntB (bh sy it) = 0
      ·
        refine ex_iload_n (i := 2) dX10_complete_10 rfl rfl ?_
        refine ex_bipush (v := nI 75) dX10_complete_11 (by decide) ?_
        refine ex_icmp_geN (tgt := 94) dX10_complete_13 (by decide) (by omega) (by omega) (fun h13 => by omega) (fun h13 => ?_)
        refine ex_aload_n (i := 0) dX10_complete_16 rfl rfl ?_
        refine ex_getR (v := .ref (66)) dX10_complete_17 fl_Model_38 rfl rfl (by decide) rfl ?_
        refine ex_iload_n (i := 2) dX10_complete_20 rfl rfl ?_
        refine ex_baldN dX10_complete_21 rfl (by decide) (by omega) rfl ?_
        refine ex_asN (a := F it) (hV it hi) ?_
        refine ex_if_eqN (tgt := 88) dX10_complete_22 (by decide) (by omega) (fun h22 => by exact absurd h22 z) (fun h22 => ?_)
        refine ex_aload_n (i := 0) dX10_complete_25 rfl rfl ?_
        refine ex_iload_n (i := 2) dX10_complete_26 rfl rfl ?_
        refine ex_cV (ν := m_Model_behind) (a := 56) (ci := 10) (as := [.int (nI (it))]) dX10_complete_27 ln_Model_166 mf_Model_behind rfl (Nat.le_of_ble_eq_true rfl) rfl rfl np_Model_behind rfl rfl ⟨(Nat.le_of_ble_eq_true rfl), (Nat.le_of_ble_eq_true rfl), (Nat.le_of_ble_eq_true rfl), (Nat.le_of_ble_eq_true rfl)⟩ (by decide) ?_
        refine sp_Model_behind rg1 h141 hi (((hc.1 it hi).2 z)) ?_
        refine ⟨_, rfl, ?_⟩
        refine ex_cS (ν := m_Model_nonterminal) (as := [.int (nI (bh sy it))]) dX10_complete_30 ln_Model_135 mf_Model_nonterminal np_Model_nonterminal rfl rfl ⟨(Nat.le_of_ble_eq_true rfl), (Nat.le_of_ble_eq_true rfl), (Nat.le_of_ble_eq_true rfl), (Nat.le_of_ble_eq_true rfl)⟩ (by decide) ?_
        refine sp_Model_nonterminal_N hbh ?_
        refine ⟨_, rfl, ?_⟩
        refine ex_if_eqN (tgt := 88) dX10_complete_33 (by decide) (ntB_b _) (fun h33 => ?_) (fun h33 => by exact absurd nt h33)
        refine SKIP (fun _ r hr e => ?_)
        have := gw.2.2.1 r hr
        unfold ntB at nt
        rw [← e, if_pos this] at nt
        exact absurd nt (by decide)
      · have CONT : ∀ b2 i2 F2, Fm [66] [] i i2 → Vw i2 66 75 F2 → cM n sy F0 F2 → (b2 = 0 ∧ F2 = F1 ∧ (∀ it', it' < it → cMc n sy F1 it') ∧ (∀ r, r < n → sy r 0 = bh sy it → F2 (5 * r) ≠ 0) ∨ b2 = 1 ∧ sumN F1 75 < sumN F2 75) → Wx m_Model_complete 88 [some (.ref 56), some (.int (nI b2)), some (.int (nI it)), none] [] (94, g, i2, q, RT t) (0, 0) Q := by
          intro b2 i2 F2 a1 a2 a3 a4
          refine ex_iincN (L' := [some (.ref (56)), some (.int (nI (b2))), some (.int (nI (it + 1))), none]) dX10_complete_88 rfl rfl (by decide) rfl ?_
          refine ex_goto (tgt := 10) dX10_complete_91 (by decide) ?_
          refine ih (it + 1) b2 i2 F2 (by omega) a1 a2 a3 (a4.imp (fun a4 => ⟨a4.1, a4.2.1, fun it' h1 => ?_⟩) id)
          by_cases e : it' = it
          · rw [e]; exact fun _ => a4.2.2.2
          · rw [a4.2.1]; exact a4.2.2.1 it' (by omega)
        have RL := lp_Model_complete_r (F0 := F0) (F1 := F1) (it := it) (g := g) (q := q) (t := t) (Q := Q) rg h14 hi CONT n 0 b i1 F (by omega) hf hV hc z (hh.imp (fun h => ⟨h.1, h.2.1, by rw [← h.2.1]; exact h.2.2, fun r' h1 => by omega⟩) id)
        refine ex_iload_n (i := 2) dX10_complete_10 rfl rfl ?_
        refine ex_bipush (v := nI 75) dX10_complete_11 (by decide) ?_
        refine ex_icmp_geN (tgt := 94) dX10_complete_13 (by decide) (by omega) (by omega) (fun h13 => by omega) (fun h13 => ?_)
        refine ex_aload_n (i := 0) dX10_complete_16 rfl rfl ?_
        refine ex_getR (v := .ref (66)) dX10_complete_17 fl_Model_38 rfl rfl (by decide) rfl ?_
        refine ex_iload_n (i := 2) dX10_complete_20 rfl rfl ?_
        refine ex_baldN dX10_complete_21 rfl (by decide) (by omega) rfl ?_
        refine ex_asN (a := F it) (hV it hi) ?_
        refine ex_if_eqN (tgt := 88) dX10_complete_22 (by decide) (by omega) (fun h22 => by exact absurd h22 z) (fun h22 => ?_)
        refine ex_aload_n (i := 0) dX10_complete_25 rfl rfl ?_
        refine ex_iload_n (i := 2) dX10_complete_26 rfl rfl ?_
        refine ex_cV (ν := m_Model_behind) (a := 56) (ci := 10) (as := [.int (nI (it))]) dX10_complete_27 ln_Model_166 mf_Model_behind rfl (Nat.le_of_ble_eq_true rfl) rfl rfl np_Model_behind rfl rfl ⟨(Nat.le_of_ble_eq_true rfl), (Nat.le_of_ble_eq_true rfl), (Nat.le_of_ble_eq_true rfl), (Nat.le_of_ble_eq_true rfl)⟩ (by decide) ?_
        refine sp_Model_behind rg1 h141 hi (((hc.1 it hi).2 z)) ?_
        refine ⟨_, rfl, ?_⟩
        refine ex_cS (ν := m_Model_nonterminal) (as := [.int (nI (bh sy it))]) dX10_complete_30 ln_Model_135 mf_Model_nonterminal np_Model_nonterminal rfl rfl ⟨(Nat.le_of_ble_eq_true rfl), (Nat.le_of_ble_eq_true rfl), (Nat.le_of_ble_eq_true rfl), (Nat.le_of_ble_eq_true rfl)⟩ (by decide) ?_
        refine sp_Model_nonterminal_N hbh ?_
        refine ⟨_, rfl, ?_⟩
        refine ex_if_eqN (tgt := 88) dX10_complete_33 (by decide) (ntB_b _) (fun h33 => by exact absurd h33 nt) (fun h33 => ?_)
        refine ex_iconst (v := nI 0) dX10_complete_36 (by decide) ?_
        refine ex_istore_n (L' := [some (.ref (56)), some (.int (nI (b))), some (.int (nI (it))), some (.int (nI (0)))]) dX10_complete_37 (i := 3) rfl (by decide) rfl ?_
        exact RL
theorem sp_Model_complete {F0 : Nat → Nat} (rg : RG i n sy) (h14 : RG14 i sy) (hV : Vw i 66 75 F0) (h01 : ∀ j, j < 75 → F0 j < 2) (hok : ∀ j, j < 75 → F0 j ≠ 0 → j / 5 < n ∨ j / 5 = 14)
    (hQ : ∀ i1 F, Fm [66] [] i i1 → Vw i1 66 75 F → (∀ j, j < 75 → F j < 2) → (∀ it, it < 75 → (F it ≠ 0 ↔ clP n sy (fun j => F0 j ≠ 0) it)) → Q (.ok none) (94, g, i1, q, RT t)) : Wx m_Model_complete 0 [some (.ref 56), none, none, none] [] (94, g, i, q, RT t) (0, 0) Q := by
  have EXIT : ∀ i1 F, Fm [66] [] i i1 → Vw i1 66 75 F → cM n sy F0 F → (∀ it, it < 75 → cMc n sy F it) → Wx m_Model_complete 2 [some (.ref 56), some (.int (nI 0)), none, none] [] (94, g, i1, q, RT t) (0, 0) Q := by
    intro i1 F a1 a2 a3 a4
    refine ex_iload_n (i := 1) dX10_complete_2 rfl rfl ?_
    refine ex_if_eqN (tgt := 97) dX10_complete_3 (by decide) (by omega) (fun h3 => ?_) (fun h3 => by exact absurd h3 (by decide))
    refine ex_ret dX10_complete_97 rfl ?_
    exact hQ i1 F a1 a2 (fun j hj => (a3.1 j hj).1) (fun it hi => ⟨a3.2.2 it hi, fun hc => hc (fun j => F j ≠ 0) a3.2.1 (fun j hj hp r hr e => by rw [Nat.mul_comm]; exact a4 j hj hp r hr e)⟩)
  have OUT : ∀ m i1 F, 75 < sumN F 75 + m → Fm [66] [] i i1 → Vw i1 66 75 F → cM n sy F0 F → Wx m_Model_complete 2 [some (.ref 56), some (.int (nI 1)), none, none] [] (94, g, i1, q, RT t) (0, 0) Q := by
    intro m
    induction m with
    | zero =>
      intro i1 F hm _ _ hc
      have := sumN_le (F := F) (B := 1) (N := 75) (fun j hj => by have := (hc.1 j hj).1; omega)
      omega
    | succ m ih =>
      intro i1 F hm hf hV hc
      have IT := lp_Model_complete_it (F0 := F0) (F1 := F) (g := g) (q := q) (t := t) (Q := Q) rg h14 (fun b i2 F2 a1 a2 a3 a4 => by
        rcases a4 with ⟨rfl, rfl, h⟩ | ⟨rfl, h⟩
        · exact EXIT i2 _ a1 a2 a3 h
        · exact ih i2 F2 (by omega) a1 a2 a3) 75 0 0 i1 F rfl hf hV hc (Or.inl ⟨rfl, rfl, fun it h => by omega⟩)
      refine ex_iload_n (i := 1) dX10_complete_2 rfl rfl ?_
      refine ex_if_eqN (tgt := 97) dX10_complete_3 (by decide) (by omega) (fun h3 => by exact absurd h3 (by decide)) (fun h3 => ?_)
      refine ex_iconst (v := nI 0) dX10_complete_6 (by decide) ?_
      refine ex_istore_n (L' := [some (.ref (56)), some (.int (nI (0))), none, none]) dX10_complete_7 (i := 1) rfl (by decide) rfl ?_
      refine ex_iconst (v := nI 0) dX10_complete_8 (by decide) ?_
      refine ex_istore_n (L' := [some (.ref (56)), some (.int (nI (0))), some (.int (nI (0))), none]) dX10_complete_9 (i := 2) rfl (by decide) rfl ?_
      exact IT
  refine ex_iconst (v := nI 1) dX10_complete_0 (by decide) ?_
  refine ex_istore_n (L' := [some (.ref (56)), some (.int (nI (1))), none, none]) dX10_complete_1 (i := 1) rfl (by decide) rfl ?_
  exact OUT 76 i F0 (by omega) Fm.rf hV ⟨fun j hj => ⟨h01 j hj, hok j hj⟩, fun j _ h => h, fun j hj h => clP_sub hj h⟩
/-- the items of the reference's states, as numbers -/
def sameS (E F : Nat → Nat) (s : Nat) : Prop := ∀ it, it < 75 → E (75 * s + it) = F it
/-- f is the lowest of the states from s on that is the set, S if none is -/
def fnd (E F : Nat → Nat) (S s f : Nat) : Prop := (f = S ∧ ∀ s', s ≤ s' → s' < S → ¬ sameS E F s') ∨ (s ≤ f ∧ f < S ∧ sameS E F f ∧ ∀ s', s ≤ s' → s' < f → ¬ sameS E F s')
theorem lp_Model_find_s {E F : Nat → Nat} {S s f : Nat} (hS : S ≤ 50) (hE : ∀ j, j < 75 * S → i 65 j = nI (E j) ∧ E j < 2) (hF : ∀ j, j < 75 → i 66 j = nI (F j) ∧ F j < 2) (hs : s < S) (hf : fnd E F S (s + 1) f)
    (NEXT : ∀ f, fnd E F S s f → Wx m_Model_find 12 [some (.ref 56), some (.int (nI f)), some (.int (nI s + Int32.ofInt (-1))), none, none] [] (94, g, i, q, RT t) (0, 0) Q) :
    Wx m_Model_find 12 [some (.ref 56), some (.int (nI f)), some (.int (nI s)), none, none] [] (94, g, i, q, RT t) (0, 0) Q := by
  have FIN : ∀ b, b < 2 → (b = 1 ↔ ∀ j, j < 75 → E (75 * s + j) = F j) → Wx m_Model_find 58 [some (.ref 56), some (.int (nI f)), some (.int (nI s)), some (.int (nI b)), none] [] (94, g, i, q, RT t) (0, 0) Q := by
    intro b hb hbs
    by_cases c : b = 0
    · have N := NEXT f (by
        have h0 : ¬ sameS E F s := fun z => by have := hbs.mpr z; omega
        rcases hf with ⟨e, h⟩ | ⟨h1, h2, h3, h4⟩
        · refine Or.inl ⟨e, fun s' a1 a2 z => ?_⟩
          by_cases e0 : s' = s
          · rw [e0] at z; exact h0 z
          · exact h s' (by omega) a2 z
        · refine Or.inr ⟨by omega, h2, h3, fun s' a1 a2 z => ?_⟩
          by_cases e0 : s' = s
          · rw [e0] at z; exact h0 z
          · exact h4 s' (by omega) a2 z)
      refine ex_iload_n (i := 3) dX10_find_58 rfl rfl ?_
      refine ex_if_eqN (tgt := 64) dX10_find_59 (by decide) (by omega) (fun h59 => ?_) (fun h59 => by exact absurd c h59)
      obtain ⟨v1, hv1⟩ : ∃ y : Int32, y = nI (s) + Int32.ofInt (-1) := ⟨_, rfl⟩
      refine ex_iinc (v := v1) (L' := [some (.ref (56)), some (.int (nI (f))), some (.int (v1)), some (.int (nI (b))), none]) dX10_find_64 rfl hv1.symm (by decide) rfl ?_
      refine ex_goto (tgt := 12) dX10_find_67 (by decide) ?_
      subst hv1
      exact ex_less (L' := [some (.ref 56), some (.int (nI f)), some (.int (nI s + Int32.ofInt (-1))), none, none]) (by simp [xSub]) N
    · have N := NEXT s (Or.inr ⟨Nat.le_refl _, hs, hbs.mp (by omega), fun s' a1 a2 => by omega⟩)
      refine ex_iload_n (i := 3) dX10_find_58 rfl rfl ?_
      refine ex_if_eqN (tgt := 64) dX10_find_59 (by decide) (by omega) (fun h59 => by exact absurd h59 c) (fun h59 => ?_)
      refine ex_iload_n (i := 2) dX10_find_62 rfl rfl ?_
      refine ex_istore_n (L' := [some (.ref (56)), some (.int (nI (s))), some (.int (nI (s))), some (.int (nI (b))), none]) dX10_find_63 (i := 1) rfl (by decide) rfl ?_
      obtain ⟨v1, hv1⟩ : ∃ y : Int32, y = nI (s) + Int32.ofInt (-1) := ⟨_, rfl⟩
      refine ex_iinc (v := v1) (L' := [some (.ref (56)), some (.int (nI (s))), some (.int (v1)), some (.int (nI (b))), none]) dX10_find_64 rfl hv1.symm (by decide) rfl ?_
      refine ex_goto (tgt := 12) dX10_find_67 (by decide) ?_
      subst hv1
      exact ex_less (L' := [some (.ref 56), some (.int (nI s)), some (.int (nI s + Int32.ofInt (-1))), none, none]) (by simp [xSub]) N
  have IN : ∀ d it b, it + d = 75 → b < 2 → (b = 1 ↔ ∀ j, j < it → E (75 * s + j) = F j) → Wx m_Model_find 21 [some (.ref 56), some (.int (nI f)), some (.int (nI s)), some (.int (nI b)), some (.int (nI it))] [] (94, g, i, q, RT t) (0, 0) Q := by
    intro d
    induction d with
    | zero =>
      intro it b hit hb hbs
      have e : it = 75 := hit
      subst e
      refine ex_iload dX10_find_21 rfl ?_
      refine ex_bipush (v := nI 75) dX10_find_23 (by decide) ?_
      refine ex_icmp_geN (tgt := 58) dX10_find_25 (by decide) (by decide) (by decide) (fun h25 => ?_) (fun h25 => by exact absurd h25 (by decide))
      exact ex_less (L' := [some (.ref 56), some (.int (nI f)), some (.int (nI s)), some (.int (nI b)), none]) (by simp [xSub]) (FIN b hb hbs)
    | succ d ih =>
      intro it b hit hb hbs
      have hEi := hE (75 * s + it) (by omega)
      have hFi := hF it (by omega)
      by_cases c : E (75 * s + it) = F it
      ·
        refine ex_iload dX10_find_21 rfl ?_
        refine ex_bipush (v := nI 75) dX10_find_23 (by decide) ?_
        refine ex_icmp_geN (tgt := 58) dX10_find_25 (by decide) (by omega) (by omega) (fun h25 => by omega) (fun h25 => ?_)
        refine ex_aload_n (i := 0) dX10_find_28 rfl rfl ?_
        refine ex_getR (v := .ref (65)) dX10_find_29 fl_Model_34 rfl rfl (by decide) rfl ?_
        refine ex_bipush (v := nI 75) dX10_find_32 (by decide) ?_
        refine ex_iload_n (i := 2) dX10_find_34 rfl rfl ?_
        refine ex_imulN dX10_find_35 ?_
        refine ex_iload dX10_find_36 rfl ?_
        refine ex_iaddN dX10_find_38 ?_
        refine ex_baldN dX10_find_39 rfl (by decide) (by omega) rfl ?_
        refine ex_asN (a := E (75 * s + it)) hEi.1 ?_
        refine ex_aload_n (i := 0) dX10_find_40 rfl rfl ?_
        refine ex_getR (v := .ref (66)) dX10_find_41 fl_Model_38 rfl rfl (by decide) rfl ?_
        refine ex_iload dX10_find_44 rfl ?_
        refine ex_baldN dX10_find_46 rfl (by decide) (by omega) rfl ?_
        refine ex_asN (a := F it) hFi.1 ?_
        refine ex_icmp_eqN (tgt := 52) dX10_find_47 (by decide) (by omega) (by omega) (fun h47 => ?_) (fun h47 => by exact absurd c h47)
        refine ex_iincN (L' := [some (.ref (56)), some (.int (nI (f))), some (.int (nI (s))), some (.int (nI (b))), some (.int (nI (it + 1)))]) dX10_find_52 rfl rfl (by decide) rfl ?_
        refine ex_goto (tgt := 21) dX10_find_55 (by decide) ?_
        refine ih (it + 1) b (by omega) hb ⟨fun h j hj => ?_, fun h => hbs.mpr (fun j hj => h j (by omega))⟩
        by_cases e : j = it
        · rw [e]; exact c
        · exact hbs.mp h j (by omega)
      ·
        refine ex_iload dX10_find_21 rfl ?_
        refine ex_bipush (v := nI 75) dX10_find_23 (by decide) ?_
        refine ex_icmp_geN (tgt := 58) dX10_find_25 (by decide) (by omega) (by omega) (fun h25 => by omega) (fun h25 => ?_)
        refine ex_aload_n (i := 0) dX10_find_28 rfl rfl ?_
        refine ex_getR (v := .ref (65)) dX10_find_29 fl_Model_34 rfl rfl (by decide) rfl ?_
        refine ex_bipush (v := nI 75) dX10_find_32 (by decide) ?_
        refine ex_iload_n (i := 2) dX10_find_34 rfl rfl ?_
        refine ex_imulN dX10_find_35 ?_
        refine ex_iload dX10_find_36 rfl ?_
        refine ex_iaddN dX10_find_38 ?_
        refine ex_baldN dX10_find_39 rfl (by decide) (by omega) rfl ?_
        refine ex_asN (a := E (75 * s + it)) hEi.1 ?_
        refine ex_aload_n (i := 0) dX10_find_40 rfl rfl ?_
        refine ex_getR (v := .ref (66)) dX10_find_41 fl_Model_38 rfl rfl (by decide) rfl ?_
        refine ex_iload dX10_find_44 rfl ?_
        refine ex_baldN dX10_find_46 rfl (by decide) (by omega) rfl ?_
        refine ex_asN (a := F it) hFi.1 ?_
        refine ex_icmp_eqN (tgt := 52) dX10_find_47 (by decide) (by omega) (by omega) (fun h47 => by exact absurd h47 c) (fun h47 => ?_)
        refine ex_iconst (v := nI 0) dX10_find_50 (by decide) ?_
        refine ex_istore_n (L' := [some (.ref (56)), some (.int (nI (f))), some (.int (nI (s))), some (.int (nI (0))), some (.int (nI (it)))]) dX10_find_51 (i := 3) rfl (by decide) rfl ?_
        refine ex_iincN (L' := [some (.ref (56)), some (.int (nI (f))), some (.int (nI (s))), some (.int (nI (0))), some (.int (nI (it + 1)))]) dX10_find_52 rfl rfl (by decide) rfl ?_
        refine ex_goto (tgt := 21) dX10_find_55 (by decide) ?_
        exact ih (it + 1) 0 (by omega) (by decide) ⟨fun h => absurd h (by decide), fun h => absurd (h it (by omega)) c⟩
  have I0 := IN 75 0 1 rfl (by decide) ⟨fun _ j hj => by omega, fun _ => rfl⟩
  refine ex_iload_n (i := 2) dX10_find_12 rfl rfl ?_
  refine ex_if_ltN (tgt := 70) dX10_find_13 (by decide) (by omega) ?_
  refine ex_iconst (v := nI 1) dX10_find_16 (by decide) ?_
  refine ex_istore_n (L' := [some (.ref (56)), some (.int (nI (f))), some (.int (nI (s))), some (.int (nI (1))), none]) dX10_find_17 (i := 3) rfl (by decide) rfl ?_
  refine ex_iconst (v := nI 0) dX10_find_18 (by decide) ?_
  refine ex_istore (L' := [some (.ref (56)), some (.int (nI (f))), some (.int (nI (s))), some (.int (nI (1))), some (.int (nI (0)))]) dX10_find_19 (by decide) rfl ?_
  exact I0
theorem sp_Model_find {E F : Nat → Nat} {S : Nat} (h11 : i 56 11 = nI S) (hS : S ≤ 50) (h1 : 1 ≤ S) (hE : ∀ j, j < 75 * S → i 65 j = nI (E j) ∧ E j < 2) (hF : ∀ j, j < 75 → i 66 j = nI (F j) ∧ F j < 2)
    (hQ : ∀ f, fnd E F S 0 f → Q (.ok (some (.int (nI f)))) (94, g, i, q, RT t)) : Wx m_Model_find 0 [some (.ref 56), none, none, none, none] [] (94, g, i, q, RT t) (0, 0) Q := by
  have EXM : ∀ f, fnd E F S 0 f → Wx m_Model_find 12 [some (.ref 56), some (.int (nI f)), some (.int (-1)), none, none] [] (94, g, i, q, RT t) (0, 0) Q := by
    intro f hf
    refine ex_iload_n (i := 2) dX10_find_12 rfl rfl ?_
    refine ex_if_lt (tgt := 70) dX10_find_13 (by decide) (fun h13 => ?_) (fun h13 => by exact absurd (by decide) h13)
    refine ex_iload_n (i := 1) dX10_find_70 rfl rfl ?_
    refine ex_iret dX10_find_71 rfl rfl ?_
    exact hQ f hf
  have LP : ∀ s f, s < S → fnd E F S (s + 1) f → Wx m_Model_find 12 [some (.ref 56), some (.int (nI f)), some (.int (nI s)), none, none] [] (94, g, i, q, RT t) (0, 0) Q := by
    intro s
    induction s with
    | zero =>
      intro f hs hf
      refine lp_Model_find_s hS hE hF hs hf (fun f2 h2 => ?_)
      have e : nI 0 + Int32.ofInt (-1) = -1 := by decide
      rw [e]; exact EXM f2 h2
    | succ s ih =>
      intro f hs hf
      refine lp_Model_find_s hS hE hF hs hf (fun f2 h2 => ?_)
      rw [nI_dec (by omega)]; exact ih f2 (by omega) h2
  have L0 := LP (S - 1) S (by omega) (Or.inl ⟨rfl, fun s' a1 a2 => by omega⟩)
  refine ex_aload_n (i := 0) dX10_find_0 rfl rfl ?_
  refine ex_getI dX10_find_1 fl_Model_170 rfl rfl (by decide) ?_
  refine ex_asN (a := S) h11 ?_
  refine ex_istore_n (L' := [some (.ref (56)), some (.int (nI (S))), none, none, none]) dX10_find_4 (i := 1) rfl (by decide) rfl ?_
  refine ex_aload_n (i := 0) dX10_find_5 rfl rfl ?_
  refine ex_getI dX10_find_6 fl_Model_170 rfl rfl (by decide) ?_
  refine ex_asN (a := S) h11 ?_
  refine ex_iconst (v := nI 1) dX10_find_9 (by decide) ?_
  refine ex_isubN dX10_find_10 (by omega) ?_
  refine ex_istore_n (L' := [some (.ref (56)), some (.int (nI (S))), some (.int (nI (S - 1))), none, none]) dX10_find_11 (i := 2) rfl (by decide) rfl ?_
  exact L0
/-- the set becomes state S -/
theorem sp_Model_keep {F : Nat → Nat} {S : Nat} (h11 : i 56 11 = nI S) (hS : S < 50) (hF : ∀ j, j < 75 → i 66 j = nI (F j) ∧ F j < 2)
    (hQ : ∀ i1, Fm [65, 67] [11] i i1 → i1 56 11 = nI (S + 1) → (∀ j, ¬ (75 * S ≤ j ∧ j < 75 * S + 75) → i1 65 j = i 65 j) → (∀ it, it < 75 → i1 65 (75 * S + it) = nI (F it)) → (∀ j, ¬ (14 * S ≤ j ∧ j < 14 * S + 14) → i1 67 j = i 67 j) → (∀ x, x < 14 → i1 67 (14 * S + x) = nI 0) → Q (.ok none) (94, g, i1, q, RT t)) : Wx m_Model_keep 0 [some (.ref 56), none] [] (94, g, i, q, RT t) (0, 0) Q := by
  have L2 : ∀ d x i1, x + d = 14 → Fm [65, 67] [11] i i1 → i1 56 11 = nI S → (∀ j, ¬ (75 * S ≤ j ∧ j < 75 * S + 75) → i1 65 j = i 65 j) → (∀ it, it < 75 → i1 65 (75 * S + it) = nI (F it)) → (∀ j, ¬ (14 * S ≤ j ∧ j < 14 * S + 14) → i1 67 j = i 67 j) → (∀ x', x' < x → i1 67 (14 * S + x') = nI 0) → Wx m_Model_keep 36 [some (.ref 56), some (.int (nI x))] [] (94, g, i1, q, RT t) (0, 0) Q := by
    intro d
    induction d with
    | zero =>
      intro x i1 hx f e11 a b c h
      have e : x = 14 := hx
      subst e
      refine ex_iload_n (i := 1) dX10_keep_36 rfl rfl ?_
      refine ex_bipush (v := nI 14) dX10_keep_37 (by decide) ?_
      refine ex_icmp_geN (tgt := 63) dX10_keep_39 (by decide) (by decide) (by decide) (fun h39 => ?_) (fun h39 => by exact absurd h39 (by decide))
      refine ex_aload_n (i := 0) dX10_keep_63 rfl rfl ?_
      refine ex_dup dX10_keep_64 rfl ?_
      refine ex_getI dX10_keep_65 fl_Model_170 rfl rfl (by decide) ?_
      refine ex_asN (a := S) e11 ?_
      refine ex_iconst (v := nI 1) dX10_keep_68 (by decide) ?_
      refine ex_iaddN dX10_keep_69 ?_
      refine ex_putI dX10_keep_70 fl_Model_170 cf_10 rfl (Or.inl rfl) rfl rfl rfl (by decide) ?_
      refine ex_ret dX10_keep_73 rfl ?_
      refine hQ _ (f.F (by decide)) (by rw [xU_at]; simp [upd]) ?_ ?_ ?_ ?_
      · rw [xU_ne _ _ _ (show (65 : Nat) ≠ 56 by decide)]; exact a
      · rw [xU_ne _ _ _ (show (65 : Nat) ≠ 56 by decide)]; exact b
      · rw [xU_ne _ _ _ (show (67 : Nat) ≠ 56 by decide)]; exact c
      · rw [xU_ne _ _ _ (show (67 : Nat) ≠ 56 by decide)]; exact h
    | succ d ih =>
      intro x i1 hx f e11 a b c h
      refine ex_iload_n (i := 1) dX10_keep_36 rfl rfl ?_
      refine ex_bipush (v := nI 14) dX10_keep_37 (by decide) ?_
      refine ex_icmp_geN (tgt := 63) dX10_keep_39 (by decide) (by omega) (by omega) (fun h39 => by omega) (fun h39 => ?_)
      refine ex_aload_n (i := 0) dX10_keep_42 rfl rfl ?_
      refine ex_getR (v := .ref (67)) dX10_keep_43 fl_Model_41 rfl rfl (by decide) rfl ?_
      refine ex_bipush (v := nI 14) dX10_keep_46 (by decide) ?_
      refine ex_aload_n (i := 0) dX10_keep_48 rfl rfl ?_
      refine ex_getI dX10_keep_49 fl_Model_170 rfl rfl (by decide) ?_
      refine ex_asN (a := S) e11 ?_
      refine ex_imulN dX10_keep_52 ?_
      refine ex_iload_n (i := 1) dX10_keep_53 rfl rfl ?_
      refine ex_iaddN dX10_keep_54 ?_
      refine ex_iconst (v := nI 0) dX10_keep_55 (by decide) ?_
      refine ex_iastN dX10_keep_56 rfl (by decide) (by omega) ?_
      refine ex_iincN (L' := [some (.ref (56)), some (.int (nI (x + 1)))]) dX10_keep_57 rfl rfl (by decide) rfl ?_
      refine ex_goto (tgt := 36) dX10_keep_60 (by decide) ?_
      refine ih (x + 1) _ (by omega) (f.U (by decide) (by decide)) (by rw [xU_ne _ _ _ (show (56 : Nat) ≠ 67 by decide)]; exact e11) ?_ ?_ ?_ ?_
      · rw [xU_ne _ _ _ (show (65 : Nat) ≠ 67 by decide)]; exact a
      · rw [xU_ne _ _ _ (show (65 : Nat) ≠ 67 by decide)]; exact b
      · intro j hj; rw [xU_at]; unfold upd; rw [if_neg (by omega)]; exact c j hj
      · intro x' hx'; rw [xU_at]; unfold upd
        by_cases e : x' = x
        · rw [if_pos (by omega)]
        · rw [if_neg (by omega)]; exact h x' (by omega)
  have L1 : ∀ d it i1, it + d = 75 → Fm [65, 67] [11] i i1 → i1 56 11 = nI S → (∀ j, ¬ (75 * S ≤ j ∧ j < 75 * S + 75) → i1 65 j = i 65 j) → (∀ it', it' < it → i1 65 (75 * S + it') = nI (F it')) → i1 67 = i 67 → i1 66 = i 66 → Wx m_Model_keep 2 [some (.ref 56), some (.int (nI it))] [] (94, g, i1, q, RT t) (0, 0) Q := by
    intro d
    induction d with
    | zero =>
      intro it i1 hit f e11 a b c e66
      have e : it = 75 := hit
      subst e
      refine ex_iload_n (i := 1) dX10_keep_2 rfl rfl ?_
      refine ex_bipush (v := nI 75) dX10_keep_3 (by decide) ?_
      refine ex_icmp_geN (tgt := 34) dX10_keep_5 (by decide) (by decide) (by decide) (fun h5 => ?_) (fun h5 => by exact absurd h5 (by decide))
      refine ex_iconst (v := nI 0) dX10_keep_34 (by decide) ?_
      refine ex_istore_n (L' := [some (.ref (56)), some (.int (nI (0)))]) dX10_keep_35 (i := 1) rfl (by decide) rfl ?_
      exact L2 14 0 i1 rfl f e11 a b (fun j _ => by rw [c]) (fun x h => by omega)
    | succ d ih =>
      intro it i1 hit f e11 a b c e66
      have hFi := hF it (by omega)
      have e6 : i1 66 it = nI (F it) := by rw [e66]; exact hFi.1
      have hz : nI (F it) = 0 ∨ nI (F it) = 1 := by
        rcases (show F it = 0 ∨ F it = 1 by omega) with h | h
        · rw [h]; exact Or.inl rfl
        · rw [h]; exact Or.inr rfl
      refine ex_iload_n (i := 1) dX10_keep_2 rfl rfl ?_
      refine ex_bipush (v := nI 75) dX10_keep_3 (by decide) ?_
      refine ex_icmp_geN (tgt := 34) dX10_keep_5 (by decide) (by omega) (by omega) (fun h5 => by omega) (fun h5 => ?_)
      refine ex_aload_n (i := 0) dX10_keep_8 rfl rfl ?_
      refine ex_getR (v := .ref (65)) dX10_keep_9 fl_Model_34 rfl rfl (by decide) rfl ?_
      refine ex_bipush (v := nI 75) dX10_keep_12 (by decide) ?_
      refine ex_aload_n (i := 0) dX10_keep_14 rfl rfl ?_
      refine ex_getI dX10_keep_15 fl_Model_170 rfl rfl (by decide) ?_
      refine ex_asN (a := S) e11 ?_
      refine ex_imulN dX10_keep_18 ?_
      refine ex_iload_n (i := 1) dX10_keep_19 rfl rfl ?_
      refine ex_iaddN dX10_keep_20 ?_
      refine ex_aload_n (i := 0) dX10_keep_21 rfl rfl ?_
      refine ex_getR (v := .ref (66)) dX10_keep_22 fl_Model_38 rfl rfl (by decide) rfl ?_
      refine ex_iload_n (i := 1) dX10_keep_25 rfl rfl ?_
      refine ex_baldN dX10_keep_26 rfl (by decide) (by omega) rfl ?_
      refine ex_asN (a := F it) e6 ?_
      refine ex_bastN dX10_keep_27 rfl (by decide) (xb_a hz) (by omega) ?_
      refine ex_iincN (L' := [some (.ref (56)), some (.int (nI (it + 1)))]) dX10_keep_28 rfl rfl (by decide) rfl ?_
      refine ex_goto (tgt := 2) dX10_keep_31 (by decide) ?_
      refine ih (it + 1) _ (by omega) (f.U (by decide) (by decide)) (by rw [xU_ne _ _ _ (show (56 : Nat) ≠ 65 by decide)]; exact e11) ?_ ?_ ?_ ?_
      · intro j hj; rw [xU_at]; unfold upd; rw [if_neg (by omega)]; exact a j hj
      · intro it' hi'; rw [xU_at]; unfold upd
        by_cases e : it' = it
        · rw [if_pos (by omega), e]
        · rw [if_neg (by omega)]; exact b it' (by omega)
      · rw [xU_ne _ _ _ (show (67 : Nat) ≠ 65 by decide)]; exact c
      · rw [xU_ne _ _ _ (show (66 : Nat) ≠ 65 by decide)]; exact e66
  refine ex_iconst (v := nI 0) dX10_keep_0 (by decide) ?_
  refine ex_istore_n (L' := [some (.ref (56)), some (.int (nI (0)))]) dX10_keep_1 (i := 1) rfl (by decide) rfl ?_
  exact L1 75 0 i rfl Fm.rf h11 (fun j _ => rfl) (fun it h => by omega) rfl rfl
end S66
