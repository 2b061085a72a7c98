/-! ===== the reference: clear, count ===== -/
section S61
variable {g : Nat} {i : Nat → Nat → Int32} {q : Nat → Nat → Int64} {t : Bool} {Q : xRes → xMem → Prop} {n : Nat} {sy : Nat → Nat → Nat} {op xp yp : Nat → Nat}
theorem sp_Model_clear (h3 : i 56 3 = nI n) (hQ : ∀ i1, Fm [60, 61, 62] [3, 9, 27, 45] i i1 → i1 56 45 = nI 0 → i1 56 3 = nI 0 → i1 56 9 = nI 0 → i1 56 27 = nI 0 → (∀ j, j < 210 → i1 62 j = -1) → (∀ j, j < 7 → i1 60 j = nI 0 ∧ i1 61 j = nI 0) → Q (.ok (some (.int (nI n)))) (94, g, i1, q, RT t)) :
    Wx m_Model_clear 0 [some (.ref 56), none, none] [] (94, g, i, q, RT t) (0, 0) Q := by
  have L2 : ∀ d k i1, k + d = 7 → Fm [60, 61, 62] [3, 9, 27, 45] i i1 → i1 56 45 = nI 0 → i1 56 3 = nI 0 → i1 56 9 = nI 0 → i1 56 27 = nI 0 → (∀ j, j < 210 → i1 62 j = -1) → (∀ j, j < k → i1 60 j = nI 0 ∧ i1 61 j = nI 0) → Wx m_Model_clear 49 [some (.ref 56), some (.int (nI n)), some (.int (nI k))] [] (94, g, i1, q, RT t) (0, 0) Q := by
    intro d
    induction d with
    | zero =>
      intro k i1 hk f e1 e2 e3 e4 a b
      have e : k = 7 := hk
      subst e
      refine ex_iload_n (i := 2) dX10_clear_49 rfl rfl ?_
      refine ex_bipush (v := nI 7) dX10_clear_50 (by decide) ?_
      refine ex_icmp_geN (tgt := 75) dX10_clear_52 (by decide) (by decide) (by decide) (fun h52 => ?_) (fun h52 => by exact absurd h52 (by decide))
      refine ex_iload_n (i := 1) dX10_clear_75 rfl rfl ?_
      refine ex_iret dX10_clear_76 rfl rfl ?_
      exact hQ i1 f e1 e2 e3 e4 a b
    | succ d ih =>
      intro k i1 hk f e1 e2 e3 e4 a b
      refine ex_iload_n (i := 2) dX10_clear_49 rfl rfl ?_
      refine ex_bipush (v := nI 7) dX10_clear_50 (by decide) ?_
      refine ex_icmp_geN (tgt := 75) dX10_clear_52 (by decide) (by omega) (by omega) (fun h52 => by omega) (fun h52 => ?_)
      refine ex_aload_n (i := 0) dX10_clear_55 rfl rfl ?_
      refine ex_getR (v := .ref (60)) dX10_clear_56 fl_Model_19 rfl rfl (by decide) rfl ?_
      refine ex_iload_n (i := 2) dX10_clear_59 rfl rfl ?_
      refine ex_iconst (v := nI 0) dX10_clear_60 (by decide) ?_
      refine ex_iastN dX10_clear_61 rfl (by decide) (by omega) ?_
      refine ex_aload_n (i := 0) dX10_clear_62 rfl rfl ?_
      refine ex_getR (v := .ref (61)) dX10_clear_63 fl_Model_22 rfl rfl (by decide) rfl ?_
      refine ex_iload_n (i := 2) dX10_clear_66 rfl rfl ?_
      refine ex_iconst (v := nI 0) dX10_clear_67 (by decide) ?_
      refine ex_iastN dX10_clear_68 rfl (by decide) (by omega) ?_
      refine ex_iincN (L' := [some (.ref (56)), some (.int (nI (n))), some (.int (nI (k + 1)))]) dX10_clear_69 rfl rfl (by decide) rfl ?_
      refine ex_goto (tgt := 49) dX10_clear_72 (by decide) ?_
      refine ih (k + 1) _ (by omega) ((f.U (by decide) (by decide)).U (by decide) (by decide)) ?_ ?_ ?_ ?_ ?_ ?_
      · rw [xU_ne _ _ _ (show (56 : Nat) ≠ 61 by decide), xU_ne _ _ _ (show (56 : Nat) ≠ 60 by decide)]; exact e1
      · rw [xU_ne _ _ _ (show (56 : Nat) ≠ 61 by decide), xU_ne _ _ _ (show (56 : Nat) ≠ 60 by decide)]; exact e2
      · rw [xU_ne _ _ _ (show (56 : Nat) ≠ 61 by decide), xU_ne _ _ _ (show (56 : Nat) ≠ 60 by decide)]; exact e3
      · rw [xU_ne _ _ _ (show (56 : Nat) ≠ 61 by decide), xU_ne _ _ _ (show (56 : Nat) ≠ 60 by decide)]; exact e4
      · rw [xU_ne _ _ _ (show (62 : Nat) ≠ 61 by decide), xU_ne _ _ _ (show (62 : Nat) ≠ 60 by decide)]; exact a
      · intro j hj
        rw [xU_at, xU_ne _ _ _ (show (60 : Nat) ≠ 61 by decide), xU_ne _ _ _ (show (61 : Nat) ≠ 60 by decide), xU_at]
        unfold upd
        by_cases ej : j = k
        · rw [if_pos ej, if_pos ej]; exact ⟨rfl, rfl⟩
        · rw [if_neg ej, if_neg ej]; exact b j (by omega)
  have L1 : ∀ d k i1, k + d = 210 → Fm [60, 61, 62] [3, 9, 27, 45] i i1 → i1 56 45 = nI 0 → i1 56 3 = nI 0 → i1 56 9 = nI 0 → i1 56 27 = nI 0 → (∀ j, j < k → i1 62 j = -1) → Wx m_Model_clear 27 [some (.ref 56), some (.int (nI n)), some (.int (nI k))] [] (94, g, i1, q, RT t) (0, 0) Q := by
    intro d
    induction d with
    | zero =>
      intro k i1 hk f e1 e2 e3 e4 a
      have e : k = 210 := hk
      subst e
      refine ex_iload_n (i := 2) dX10_clear_27 rfl rfl ?_
      refine ex_sipush (v := nI 210) dX10_clear_28 (by decide) ?_
      refine ex_icmp_geN (tgt := 47) dX10_clear_31 (by decide) (by decide) (by decide) (fun h31 => ?_) (fun h31 => by exact absurd h31 (by decide))
      refine ex_iconst (v := nI 0) dX10_clear_47 (by decide) ?_
      refine ex_istore_n (L' := [some (.ref (56)), some (.int (nI (n))), some (.int (nI (0)))]) dX10_clear_48 (i := 2) rfl (by decide) rfl ?_
      exact L2 7 0 i1 rfl f e1 e2 e3 e4 a (fun j hj => by omega)
    | succ d ih =>
      intro k i1 hk f e1 e2 e3 e4 a
      refine ex_iload_n (i := 2) dX10_clear_27 rfl rfl ?_
      refine ex_sipush (v := nI 210) dX10_clear_28 (by decide) ?_
      refine ex_icmp_geN (tgt := 47) dX10_clear_31 (by decide) (by omega) (by omega) (fun h31 => by omega) (fun h31 => ?_)
      refine ex_aload_n (i := 0) dX10_clear_34 rfl rfl ?_
      refine ex_getR (v := .ref (62)) dX10_clear_35 fl_Model_25 rfl rfl (by decide) rfl ?_
      refine ex_iload_n (i := 2) dX10_clear_38 rfl rfl ?_
      refine ex_iconst (v := -1) dX10_clear_39 (by decide) ?_
      refine ex_iastN dX10_clear_40 rfl (by decide) (by omega) ?_
      refine ex_iincN (L' := [some (.ref (56)), some (.int (nI (n))), some (.int (nI (k + 1)))]) dX10_clear_41 rfl rfl (by decide) rfl ?_
      refine ex_goto (tgt := 27) dX10_clear_44 (by decide) ?_
      refine ih (k + 1) _ (by omega) (f.U (by decide) (by decide)) ?_ ?_ ?_ ?_ ?_
      · rw [xU_ne _ _ _ (show (56 : Nat) ≠ 62 by decide)]; exact e1
      · rw [xU_ne _ _ _ (show (56 : Nat) ≠ 62 by decide)]; exact e2
      · rw [xU_ne _ _ _ (show (56 : Nat) ≠ 62 by decide)]; exact e3
      · rw [xU_ne _ _ _ (show (56 : Nat) ≠ 62 by decide)]; exact e4
      · intro j hj
        rw [xU_at]
        unfold upd
        by_cases ej : j = k
        · rw [if_pos ej]
        · rw [if_neg ej]; exact a j (by omega)
  refine ex_aload_n (i := 0) dX10_clear_0 rfl rfl ?_
  refine ex_iconst (v := nI 0) dX10_clear_1 (by decide) ?_
  refine ex_putI dX10_clear_2 fl_Model_124 cf_10 rfl (Or.inl rfl) rfl rfl rfl (by decide) ?_
  refine ex_aload_n (i := 0) dX10_clear_5 rfl rfl ?_
  refine ex_getI dX10_clear_6 fl_Model_145 rfl rfl (by decide) ?_
  refine ex_asN (a := n) h3 ?_
  refine ex_istore_n (L' := [some (.ref (56)), some (.int (nI (n))), none]) dX10_clear_9 (i := 1) rfl (by decide) rfl ?_
  refine ex_aload_n (i := 0) dX10_clear_10 rfl rfl ?_
  refine ex_iconst (v := nI 0) dX10_clear_11 (by decide) ?_
  refine ex_putI dX10_clear_12 fl_Model_145 cf_10 rfl (Or.inl rfl) rfl rfl rfl (by decide) ?_
  refine ex_aload_n (i := 0) dX10_clear_15 rfl rfl ?_
  refine ex_iconst (v := nI 0) dX10_clear_16 (by decide) ?_
  refine ex_putI dX10_clear_17 fl_Model_224 cf_10 rfl (Or.inl rfl) rfl rfl rfl (by decide) ?_
  refine ex_aload_n (i := 0) dX10_clear_20 rfl rfl ?_
  refine ex_iconst (v := nI 0) dX10_clear_21 (by decide) ?_
  refine ex_putI dX10_clear_22 fl_Model_148 cf_10 rfl (Or.inl rfl) (by decide) (by decide) rfl (by decide) ?_
  refine ex_iconst (v := nI 0) dX10_clear_25 (by decide) ?_
  refine ex_istore_n (L' := [some (.ref (56)), some (.int (nI (n))), some (.int (nI (0)))]) dX10_clear_26 (i := 2) rfl (by decide) rfl ?_
  refine L1 210 0 _ rfl ((((Fm.rf.F (by decide)).F (by decide)).F (by decide)).F (by decide)) ?_ ?_ ?_ ?_ (fun j hj => by omega)
  · simp [xU, upd]
  · simp [xU, upd]
  · simp [xU, upd]
  · simp [xU, upd]
/-- how many of the first k have an equation -/
def ceF (op : Nat → Nat) : Nat → Nat
  | 0 => 0
  | k + 1 => if op k = 0 then ceF op k else ceF op k + 1
theorem ceF_le (op : Nat → Nat) : ∀ k, ceF op k ≤ k
  | 0 => Nat.le_refl _
  | k + 1 => by have := ceF_le op k; unfold ceF; split <;> omega
theorem sp_Model_count {x : Int32} {b f : Nat} (re : RE i op xp yp) (h9 : i 56 9 = nI b) (hb : b ≤ 1) (hf : b = 1 → i 56 10 = nI f ∧ f < 2) (hX : (¬ ∃ k, x = nI k ∧ k < 7) → ∀ i1, Fm [] [45] i i1 → i1 56 45 = nI 1 → Q (.ok (some (.int (nI 0)))) (94, g, i1, q, RT t))
    (hQ : ∀ k, x = nI k → k < 7 → ∀ i1, Fm [] [45] i i1 → i1 56 45 = nI 0 → Q (.ok (some (.int (if k = 0 then i 56 3 else if k = 1 then nI (ceF op 210) else if k = 2 then (if b = 1 then i 56 11 else nI 0) else if k = 3 then (if b = 1 then i 56 12 else nI 0) else if k = 4 then (if b = 1 then nI f else nI 0) else if k = 5 then i 56 43 else i 56 27)))) (94, g, i1, q, RT t)) :
    Wx m_Model_count 0 [some (.ref 56), some (.int x), none, none] [] (94, g, i, q, RT t) (0, 0) Q := by
  by_cases hk : ∃ k, x = nI k ∧ k < 7
  · have eI : inX x (nI 0) (nI 6) = 1 := inX_c1 (by decide) hk
    obtain ⟨k, rfl, hk2⟩ := hk
    have hc := ceF_le op 210
    have hQ := hQ k rfl hk2
    have e9 : xU i 56 45 (nI 0) 56 9 = nI b := by rw [cd_ne _ _ (by decide)]; exact h9
    have H46 : Wx m_Model_count 46 [some (.ref 56), some (.int (nI k)), some (.int (nI (ceF op 210))), some (.int (nI 210))] [] (94, g, xU i 56 45 (nI 0), q, RT t) (0, 0) Q := by
      have HQ := hQ _ (Fm.rf.F (by decide)) (cd_at i (nI 0))
      have n3 : xU i 56 45 (nI 0) 56 3 = i 56 3 := cd_ne _ _ (by decide)
      have n11 : xU i 56 45 (nI 0) 56 11 = i 56 11 := cd_ne _ _ (by decide)
      have n12 : xU i 56 45 (nI 0) 56 12 = i 56 12 := cd_ne _ _ (by decide)
      have n43 : xU i 56 45 (nI 0) 56 43 = i 56 43 := cd_ne _ _ (by decide)
      have n27 : xU i 56 45 (nI 0) 56 27 = i 56 27 := cd_ne _ _ (by decide)
      by_cases b0 : b = 0
      · subst b0
        rcases (show k = 0 ∨ k = 1 ∨ k = 2 ∨ k = 3 ∨ k = 4 ∨ k = 5 ∨ k = 6 by omega) with rfl | rfl | rfl | rfl | rfl | rfl | rfl
        ·
          refine ex_iload_n (i := 1) dX10_count_46 rfl rfl ?_
          refine ex_iconst (v := nI 1) dX10_count_47 (by decide) ?_
          refine ex_icmp_leN (tgt := 65) dX10_count_48 (by decide) (by decide) (by decide) (fun h48 => ?_) (fun h48 => by exact absurd h48 (by decide))
          refine ex_iload_n (i := 1) dX10_count_65 rfl rfl ?_
          refine ex_if_neN (tgt := 76) dX10_count_66 (by decide) (by omega) (fun h66 => by exact absurd h66 (by decide)) (fun h66 => ?_)
          refine ex_aload_n (i := 0) dX10_count_69 rfl rfl ?_
          refine ex_getI dX10_count_70 fl_Model_145 rfl rfl (by decide) ?_
          refine ex_asI (y := i 56 3) n3 ?_
          refine ex_goto (tgt := 145) dX10_count_73 (by decide) ?_
          refine ex_iret dX10_count_145 rfl rfl ?_
          simpa using HQ
        ·
          refine ex_iload_n (i := 1) dX10_count_46 rfl rfl ?_
          refine ex_iconst (v := nI 1) dX10_count_47 (by decide) ?_
          refine ex_icmp_leN (tgt := 65) dX10_count_48 (by decide) (by decide) (by decide) (fun h48 => ?_) (fun h48 => by exact absurd h48 (by decide))
          refine ex_iload_n (i := 1) dX10_count_65 rfl rfl ?_
          refine ex_if_neN (tgt := 76) dX10_count_66 (by decide) (by omega) (fun h66 => ?_) (fun h66 => by exact absurd h66 (by decide))
          refine ex_iload_n (i := 1) dX10_count_76 rfl rfl ?_
          refine ex_iconst (v := nI 1) dX10_count_77 (by decide) ?_
          refine ex_icmp_neN (tgt := 85) dX10_count_78 (by decide) (by decide) (by decide) (fun h78 => by exact absurd h78 (by decide)) (fun h78 => ?_)
          refine ex_iload_n (i := 2) dX10_count_81 rfl rfl ?_
          refine ex_goto (tgt := 145) dX10_count_82 (by decide) ?_
          refine ex_iret dX10_count_145 rfl rfl ?_
          simpa using HQ
        ·
          refine ex_iload_n (i := 1) dX10_count_46 rfl rfl ?_
          refine ex_iconst (v := nI 1) dX10_count_47 (by decide) ?_
          refine ex_icmp_leN (tgt := 65) dX10_count_48 (by decide) (by decide) (by decide) (fun h48 => by exact absurd h48 (by decide)) (fun h48 => ?_)
          refine ex_iload_n (i := 1) dX10_count_51 rfl rfl ?_
          refine ex_iconst (v := nI 5) dX10_count_52 (by decide) ?_
          refine ex_icmp_geN (tgt := 65) dX10_count_53 (by decide) (by decide) (by decide) (fun h53 => by exact absurd h53 (by decide)) (fun h53 => ?_)
          refine ex_aload_n (i := 0) dX10_count_56 rfl rfl ?_
          refine ex_getI dX10_count_57 fl_Model_148 rfl rfl (by decide) ?_
          refine ex_asN (a := 0) e9 ?_
          refine ex_if_neN (tgt := 65) dX10_count_60 (by decide) (by omega) (fun h60 => by exact absurd h60 (by decide)) (fun h60 => ?_)
          refine ex_iconst (v := nI 0) dX10_count_63 (by decide) ?_
          refine ex_iret dX10_count_64 rfl rfl ?_
          simpa using HQ
        ·
          refine ex_iload_n (i := 1) dX10_count_46 rfl rfl ?_
          refine ex_iconst (v := nI 1) dX10_count_47 (by decide) ?_
          refine ex_icmp_leN (tgt := 65) dX10_count_48 (by decide) (by decide) (by decide) (fun h48 => by exact absurd h48 (by decide)) (fun h48 => ?_)
          refine ex_iload_n (i := 1) dX10_count_51 rfl rfl ?_
          refine ex_iconst (v := nI 5) dX10_count_52 (by decide) ?_
          refine ex_icmp_geN (tgt := 65) dX10_count_53 (by decide) (by decide) (by decide) (fun h53 => by exact absurd h53 (by decide)) (fun h53 => ?_)
          refine ex_aload_n (i := 0) dX10_count_56 rfl rfl ?_
          refine ex_getI dX10_count_57 fl_Model_148 rfl rfl (by decide) ?_
          refine ex_asN (a := 0) e9 ?_
          refine ex_if_neN (tgt := 65) dX10_count_60 (by decide) (by omega) (fun h60 => by exact absurd h60 (by decide)) (fun h60 => ?_)
          refine ex_iconst (v := nI 0) dX10_count_63 (by decide) ?_
          refine ex_iret dX10_count_64 rfl rfl ?_
          simpa using HQ
        ·
          refine ex_iload_n (i := 1) dX10_count_46 rfl rfl ?_
          refine ex_iconst (v := nI 1) dX10_count_47 (by decide) ?_
          refine ex_icmp_leN (tgt := 65) dX10_count_48 (by decide) (by decide) (by decide) (fun h48 => by exact absurd h48 (by decide)) (fun h48 => ?_)
          refine ex_iload_n (i := 1) dX10_count_51 rfl rfl ?_
          refine ex_iconst (v := nI 5) dX10_count_52 (by decide) ?_
          refine ex_icmp_geN (tgt := 65) dX10_count_53 (by decide) (by decide) (by decide) (fun h53 => by exact absurd h53 (by decide)) (fun h53 => ?_)
          refine ex_aload_n (i := 0) dX10_count_56 rfl rfl ?_
          refine ex_getI dX10_count_57 fl_Model_148 rfl rfl (by decide) ?_
          refine ex_asN (a := 0) e9 ?_
          refine ex_if_neN (tgt := 65) dX10_count_60 (by decide) (by omega) (fun h60 => by exact absurd h60 (by decide)) (fun h60 => ?_)
          refine ex_iconst (v := nI 0) dX10_count_63 (by decide) ?_
          refine ex_iret dX10_count_64 rfl rfl ?_
          simpa using HQ
        ·
          refine ex_iload_n (i := 1) dX10_count_46 rfl rfl ?_
          refine ex_iconst (v := nI 1) dX10_count_47 (by decide) ?_
          refine ex_icmp_leN (tgt := 65) dX10_count_48 (by decide) (by decide) (by decide) (fun h48 => by exact absurd h48 (by decide)) (fun h48 => ?_)
          refine ex_iload_n (i := 1) dX10_count_51 rfl rfl ?_
          refine ex_iconst (v := nI 5) dX10_count_52 (by decide) ?_
          refine ex_icmp_geN (tgt := 65) dX10_count_53 (by decide) (by decide) (by decide) (fun h53 => ?_) (fun h53 => by exact absurd h53 (by decide))
          refine ex_iload_n (i := 1) dX10_count_65 rfl rfl ?_
          refine ex_if_neN (tgt := 76) dX10_count_66 (by decide) (by omega) (fun h66 => ?_) (fun h66 => by exact absurd h66 (by decide))
          refine ex_iload_n (i := 1) dX10_count_76 rfl rfl ?_
          refine ex_iconst (v := nI 1) dX10_count_77 (by decide) ?_
          refine ex_icmp_neN (tgt := 85) dX10_count_78 (by decide) (by decide) (by decide) (fun h78 => ?_) (fun h78 => by exact absurd h78 (by decide))
          refine ex_iload_n (i := 1) dX10_count_85 rfl rfl ?_
          refine ex_iconst (v := nI 2) dX10_count_86 (by decide) ?_
          refine ex_icmp_neN (tgt := 97) dX10_count_87 (by decide) (by decide) (by decide) (fun h87 => ?_) (fun h87 => by exact absurd h87 (by decide))
          refine ex_iload_n (i := 1) dX10_count_97 rfl rfl ?_
          refine ex_iconst (v := nI 3) dX10_count_98 (by decide) ?_
          refine ex_icmp_neN (tgt := 109) dX10_count_99 (by decide) (by decide) (by decide) (fun h99 => ?_) (fun h99 => by exact absurd h99 (by decide))
          refine ex_iload_n (i := 1) dX10_count_109 rfl rfl ?_
          refine ex_iconst (v := nI 4) dX10_count_110 (by decide) ?_
          refine ex_icmp_neN (tgt := 129) dX10_count_111 (by decide) (by decide) (by decide) (fun h111 => ?_) (fun h111 => by exact absurd h111 (by decide))
          refine ex_iload_n (i := 1) dX10_count_129 rfl rfl ?_
          refine ex_iconst (v := nI 5) dX10_count_130 (by decide) ?_
          refine ex_icmp_neN (tgt := 141) dX10_count_131 (by decide) (by decide) (by decide) (fun h131 => by exact absurd h131 (by decide)) (fun h131 => ?_)
          refine ex_aload_n (i := 0) dX10_count_134 rfl rfl ?_
          refine ex_getI dX10_count_135 fl_Model_234 rfl rfl (by decide) ?_
          refine ex_asI (y := i 56 43) n43 ?_
          refine ex_goto (tgt := 145) dX10_count_138 (by decide) ?_
          refine ex_iret dX10_count_145 rfl rfl ?_
          simpa using HQ
        ·
          refine ex_iload_n (i := 1) dX10_count_46 rfl rfl ?_
          refine ex_iconst (v := nI 1) dX10_count_47 (by decide) ?_
          refine ex_icmp_leN (tgt := 65) dX10_count_48 (by decide) (by decide) (by decide) (fun h48 => by exact absurd h48 (by decide)) (fun h48 => ?_)
          refine ex_iload_n (i := 1) dX10_count_51 rfl rfl ?_
          refine ex_iconst (v := nI 5) dX10_count_52 (by decide) ?_
          refine ex_icmp_geN (tgt := 65) dX10_count_53 (by decide) (by decide) (by decide) (fun h53 => ?_) (fun h53 => by exact absurd h53 (by decide))
          refine ex_iload_n (i := 1) dX10_count_65 rfl rfl ?_
          refine ex_if_neN (tgt := 76) dX10_count_66 (by decide) (by omega) (fun h66 => ?_) (fun h66 => by exact absurd h66 (by decide))
          refine ex_iload_n (i := 1) dX10_count_76 rfl rfl ?_
          refine ex_iconst (v := nI 1) dX10_count_77 (by decide) ?_
          refine ex_icmp_neN (tgt := 85) dX10_count_78 (by decide) (by decide) (by decide) (fun h78 => ?_) (fun h78 => by exact absurd h78 (by decide))
          refine ex_iload_n (i := 1) dX10_count_85 rfl rfl ?_
          refine ex_iconst (v := nI 2) dX10_count_86 (by decide) ?_
          refine ex_icmp_neN (tgt := 97) dX10_count_87 (by decide) (by decide) (by decide) (fun h87 => ?_) (fun h87 => by exact absurd h87 (by decide))
          refine ex_iload_n (i := 1) dX10_count_97 rfl rfl ?_
          refine ex_iconst (v := nI 3) dX10_count_98 (by decide) ?_
          refine ex_icmp_neN (tgt := 109) dX10_count_99 (by decide) (by decide) (by decide) (fun h99 => ?_) (fun h99 => by exact absurd h99 (by decide))
          refine ex_iload_n (i := 1) dX10_count_109 rfl rfl ?_
          refine ex_iconst (v := nI 4) dX10_count_110 (by decide) ?_
          refine ex_icmp_neN (tgt := 129) dX10_count_111 (by decide) (by decide) (by decide) (fun h111 => ?_) (fun h111 => by exact absurd h111 (by decide))
          refine ex_iload_n (i := 1) dX10_count_129 rfl rfl ?_
          refine ex_iconst (v := nI 5) dX10_count_130 (by decide) ?_
          refine ex_icmp_neN (tgt := 141) dX10_count_131 (by decide) (by decide) (by decide) (fun h131 => ?_) (fun h131 => by exact absurd h131 (by decide))
          refine ex_aload_n (i := 0) dX10_count_141 rfl rfl ?_
          refine ex_getI dX10_count_142 fl_Model_224 rfl rfl (by decide) ?_
          refine ex_asI (y := i 56 27) n27 ?_
          refine ex_iret dX10_count_145 rfl rfl ?_
          simpa using HQ
      · have b1 : b = 1 := by omega
        subst b1
        obtain ⟨f1, f2⟩ := hf rfl
        have e10 : xU i 56 45 (nI 0) 56 10 = nI f := by rw [cd_ne _ _ (by decide)]; exact f1
        rcases (show k = 0 ∨ k = 1 ∨ k = 2 ∨ k = 3 ∨ k = 4 ∨ k = 5 ∨ k = 6 by omega) with rfl | rfl | rfl | rfl | rfl | rfl | rfl
        ·
          refine ex_iload_n (i := 1) dX10_count_46 rfl rfl ?_
          refine ex_iconst (v := nI 1) dX10_count_47 (by decide) ?_
          refine ex_icmp_leN (tgt := 65) dX10_count_48 (by decide) (by decide) (by decide) (fun h48 => ?_) (fun h48 => by exact absurd h48 (by decide))
          refine ex_iload_n (i := 1) dX10_count_65 rfl rfl ?_
          refine ex_if_neN (tgt := 76) dX10_count_66 (by decide) (by omega) (fun h66 => by exact absurd h66 (by decide)) (fun h66 => ?_)
          refine ex_aload_n (i := 0) dX10_count_69 rfl rfl ?_
          refine ex_getI dX10_count_70 fl_Model_145 rfl rfl (by decide) ?_
          refine ex_asI (y := i 56 3) n3 ?_
          refine ex_goto (tgt := 145) dX10_count_73 (by decide) ?_
          refine ex_iret dX10_count_145 rfl rfl ?_
          simpa using HQ
        ·
          refine ex_iload_n (i := 1) dX10_count_46 rfl rfl ?_
          refine ex_iconst (v := nI 1) dX10_count_47 (by decide) ?_
          refine ex_icmp_leN (tgt := 65) dX10_count_48 (by decide) (by decide) (by decide) (fun h48 => ?_) (fun h48 => by exact absurd h48 (by decide))
          refine ex_iload_n (i := 1) dX10_count_65 rfl rfl ?_
          refine ex_if_neN (tgt := 76) dX10_count_66 (by decide) (by omega) (fun h66 => ?_) (fun h66 => by exact absurd h66 (by decide))
          refine ex_iload_n (i := 1) dX10_count_76 rfl rfl ?_
          refine ex_iconst (v := nI 1) dX10_count_77 (by decide) ?_
          refine ex_icmp_neN (tgt := 85) dX10_count_78 (by decide) (by decide) (by decide) (fun h78 => by exact absurd h78 (by decide)) (fun h78 => ?_)
          refine ex_iload_n (i := 2) dX10_count_81 rfl rfl ?_
          refine ex_goto (tgt := 145) dX10_count_82 (by decide) ?_
          refine ex_iret dX10_count_145 rfl rfl ?_
          simpa using HQ
        ·
          refine ex_iload_n (i := 1) dX10_count_46 rfl rfl ?_
          refine ex_iconst (v := nI 1) dX10_count_47 (by decide) ?_
          refine ex_icmp_leN (tgt := 65) dX10_count_48 (by decide) (by decide) (by decide) (fun h48 => by exact absurd h48 (by decide)) (fun h48 => ?_)
          refine ex_iload_n (i := 1) dX10_count_51 rfl rfl ?_
          refine ex_iconst (v := nI 5) dX10_count_52 (by decide) ?_
          refine ex_icmp_geN (tgt := 65) dX10_count_53 (by decide) (by decide) (by decide) (fun h53 => by exact absurd h53 (by decide)) (fun h53 => ?_)
          refine ex_aload_n (i := 0) dX10_count_56 rfl rfl ?_
          refine ex_getI dX10_count_57 fl_Model_148 rfl rfl (by decide) ?_
          refine ex_asN (a := 1) e9 ?_
          refine ex_if_neN (tgt := 65) dX10_count_60 (by decide) (by omega) (fun h60 => ?_) (fun h60 => by exact absurd h60 (by decide))
          refine ex_iload_n (i := 1) dX10_count_65 rfl rfl ?_
          refine ex_if_neN (tgt := 76) dX10_count_66 (by decide) (by omega) (fun h66 => ?_) (fun h66 => by exact absurd h66 (by decide))
          refine ex_iload_n (i := 1) dX10_count_76 rfl rfl ?_
          refine ex_iconst (v := nI 1) dX10_count_77 (by decide) ?_
          refine ex_icmp_neN (tgt := 85) dX10_count_78 (by decide) (by decide) (by decide) (fun h78 => ?_) (fun h78 => by exact absurd h78 (by decide))
          refine ex_iload_n (i := 1) dX10_count_85 rfl rfl ?_
          refine ex_iconst (v := nI 2) dX10_count_86 (by decide) ?_
          refine ex_icmp_neN (tgt := 97) dX10_count_87 (by decide) (by decide) (by decide) (fun h87 => by exact absurd h87 (by decide)) (fun h87 => ?_)
          refine ex_aload_n (i := 0) dX10_count_90 rfl rfl ?_
          refine ex_getI dX10_count_91 fl_Model_170 rfl rfl (by decide) ?_
          refine ex_asI (y := i 56 11) n11 ?_
          refine ex_goto (tgt := 145) dX10_count_94 (by decide) ?_
          refine ex_iret dX10_count_145 rfl rfl ?_
          simpa using HQ
        ·
          refine ex_iload_n (i := 1) dX10_count_46 rfl rfl ?_
          refine ex_iconst (v := nI 1) dX10_count_47 (by decide) ?_
          refine ex_icmp_leN (tgt := 65) dX10_count_48 (by decide) (by decide) (by decide) (fun h48 => by exact absurd h48 (by decide)) (fun h48 => ?_)
          refine ex_iload_n (i := 1) dX10_count_51 rfl rfl ?_
          refine ex_iconst (v := nI 5) dX10_count_52 (by decide) ?_
          refine ex_icmp_geN (tgt := 65) dX10_count_53 (by decide) (by decide) (by decide) (fun h53 => by exact absurd h53 (by decide)) (fun h53 => ?_)
          refine ex_aload_n (i := 0) dX10_count_56 rfl rfl ?_
          refine ex_getI dX10_count_57 fl_Model_148 rfl rfl (by decide) ?_
          refine ex_asN (a := 1) e9 ?_
          refine ex_if_neN (tgt := 65) dX10_count_60 (by decide) (by omega) (fun h60 => ?_) (fun h60 => by exact absurd h60 (by decide))
          refine ex_iload_n (i := 1) dX10_count_65 rfl rfl ?_
          refine ex_if_neN (tgt := 76) dX10_count_66 (by decide) (by omega) (fun h66 => ?_) (fun h66 => by exact absurd h66 (by decide))
          refine ex_iload_n (i := 1) dX10_count_76 rfl rfl ?_
          refine ex_iconst (v := nI 1) dX10_count_77 (by decide) ?_
          refine ex_icmp_neN (tgt := 85) dX10_count_78 (by decide) (by decide) (by decide) (fun h78 => ?_) (fun h78 => by exact absurd h78 (by decide))
          refine ex_iload_n (i := 1) dX10_count_85 rfl rfl ?_
          refine ex_iconst (v := nI 2) dX10_count_86 (by decide) ?_
          refine ex_icmp_neN (tgt := 97) dX10_count_87 (by decide) (by decide) (by decide) (fun h87 => ?_) (fun h87 => by exact absurd h87 (by decide))
          refine ex_iload_n (i := 1) dX10_count_97 rfl rfl ?_
          refine ex_iconst (v := nI 3) dX10_count_98 (by decide) ?_
          refine ex_icmp_neN (tgt := 109) dX10_count_99 (by decide) (by decide) (by decide) (fun h99 => by exact absurd h99 (by decide)) (fun h99 => ?_)
          refine ex_aload_n (i := 0) dX10_count_102 rfl rfl ?_
          refine ex_getI dX10_count_103 fl_Model_215 rfl rfl (by decide) ?_
          refine ex_asI (y := i 56 12) n12 ?_
          refine ex_goto (tgt := 145) dX10_count_106 (by decide) ?_
          refine ex_iret dX10_count_145 rfl rfl ?_
          simpa using HQ
        ·
          refine ex_iload_n (i := 1) dX10_count_46 rfl rfl ?_
          refine ex_iconst (v := nI 1) dX10_count_47 (by decide) ?_
          refine ex_icmp_leN (tgt := 65) dX10_count_48 (by decide) (by decide) (by decide) (fun h48 => by exact absurd h48 (by decide)) (fun h48 => ?_)
          refine ex_iload_n (i := 1) dX10_count_51 rfl rfl ?_
          refine ex_iconst (v := nI 5) dX10_count_52 (by decide) ?_
          refine ex_icmp_geN (tgt := 65) dX10_count_53 (by decide) (by decide) (by decide) (fun h53 => by exact absurd h53 (by decide)) (fun h53 => ?_)
          refine ex_aload_n (i := 0) dX10_count_56 rfl rfl ?_
          refine ex_getI dX10_count_57 fl_Model_148 rfl rfl (by decide) ?_
          refine ex_asN (a := 1) e9 ?_
          refine ex_if_neN (tgt := 65) dX10_count_60 (by decide) (by omega) (fun h60 => ?_) (fun h60 => by exact absurd h60 (by decide))
          refine ex_iload_n (i := 1) dX10_count_65 rfl rfl ?_
          refine ex_if_neN (tgt := 76) dX10_count_66 (by decide) (by omega) (fun h66 => ?_) (fun h66 => by exact absurd h66 (by decide))
          refine ex_iload_n (i := 1) dX10_count_76 rfl rfl ?_
          refine ex_iconst (v := nI 1) dX10_count_77 (by decide) ?_
          refine ex_icmp_neN (tgt := 85) dX10_count_78 (by decide) (by decide) (by decide) (fun h78 => ?_) (fun h78 => by exact absurd h78 (by decide))
          refine ex_iload_n (i := 1) dX10_count_85 rfl rfl ?_
          refine ex_iconst (v := nI 2) dX10_count_86 (by decide) ?_
          refine ex_icmp_neN (tgt := 97) dX10_count_87 (by decide) (by decide) (by decide) (fun h87 => ?_) (fun h87 => by exact absurd h87 (by decide))
          refine ex_iload_n (i := 1) dX10_count_97 rfl rfl ?_
          refine ex_iconst (v := nI 3) dX10_count_98 (by decide) ?_
          refine ex_icmp_neN (tgt := 109) dX10_count_99 (by decide) (by decide) (by decide) (fun h99 => ?_) (fun h99 => by exact absurd h99 (by decide))
          refine ex_iload_n (i := 1) dX10_count_109 rfl rfl ?_
          refine ex_iconst (v := nI 4) dX10_count_110 (by decide) ?_
          refine ex_icmp_neN (tgt := 129) dX10_count_111 (by decide) (by decide) (by decide) (fun h111 => by exact absurd h111 (by decide)) (fun h111 => ?_)
          refine ex_aload_n (i := 0) dX10_count_114 rfl rfl ?_
          refine ex_getI dX10_count_115 fl_Model_193 rfl rfl (by decide) ?_
          refine ex_asN (a := f) e10 ?_
          refine ex_if_eqN (tgt := 125) dX10_count_118 (by decide) (by omega) (fun h118 => ?_) (fun h118 => ?_)
          · refine ex_iconst (v := nI 0) dX10_count_125 (by decide) ?_
            refine ex_goto (tgt := 145) dX10_count_126 (by decide) ?_
            refine ex_iret dX10_count_145 rfl rfl ?_
            first | (have e : f = 0 := h118; subst e; simpa using HQ) | (have e : f = 1 := (by omega); subst e; simpa using HQ)
          · refine ex_iconst (v := nI 1) dX10_count_121 (by decide) ?_
            refine ex_goto (tgt := 145) dX10_count_122 (by decide) ?_
            refine ex_iret dX10_count_145 rfl rfl ?_
            first | (have e : f = 0 := h118; subst e; simpa using HQ) | (have e : f = 1 := (by omega); subst e; simpa using HQ)
        ·
          refine ex_iload_n (i := 1) dX10_count_46 rfl rfl ?_
          refine ex_iconst (v := nI 1) dX10_count_47 (by decide) ?_
          refine ex_icmp_leN (tgt := 65) dX10_count_48 (by decide) (by decide) (by decide) (fun h48 => by exact absurd h48 (by decide)) (fun h48 => ?_)
          refine ex_iload_n (i := 1) dX10_count_51 rfl rfl ?_
          refine ex_iconst (v := nI 5) dX10_count_52 (by decide) ?_
          refine ex_icmp_geN (tgt := 65) dX10_count_53 (by decide) (by decide) (by decide) (fun h53 => ?_) (fun h53 => by exact absurd h53 (by decide))
          refine ex_iload_n (i := 1) dX10_count_65 rfl rfl ?_
          refine ex_if_neN (tgt := 76) dX10_count_66 (by decide) (by omega) (fun h66 => ?_) (fun h66 => by exact absurd h66 (by decide))
          refine ex_iload_n (i := 1) dX10_count_76 rfl rfl ?_
          refine ex_iconst (v := nI 1) dX10_count_77 (by decide) ?_
          refine ex_icmp_neN (tgt := 85) dX10_count_78 (by decide) (by decide) (by decide) (fun h78 => ?_) (fun h78 => by exact absurd h78 (by decide))
          refine ex_iload_n (i := 1) dX10_count_85 rfl rfl ?_
          refine ex_iconst (v := nI 2) dX10_count_86 (by decide) ?_
          refine ex_icmp_neN (tgt := 97) dX10_count_87 (by decide) (by decide) (by decide) (fun h87 => ?_) (fun h87 => by exact absurd h87 (by decide))
          refine ex_iload_n (i := 1) dX10_count_97 rfl rfl ?_
          refine ex_iconst (v := nI 3) dX10_count_98 (by decide) ?_
          refine ex_icmp_neN (tgt := 109) dX10_count_99 (by decide) (by decide) (by decide) (fun h99 => ?_) (fun h99 => by exact absurd h99 (by decide))
          refine ex_iload_n (i := 1) dX10_count_109 rfl rfl ?_
          refine ex_iconst (v := nI 4) dX10_count_110 (by decide) ?_
          refine ex_icmp_neN (tgt := 129) dX10_count_111 (by decide) (by decide) (by decide) (fun h111 => ?_) (fun h111 => by exact absurd h111 (by decide))
          refine ex_iload_n (i := 1) dX10_count_129 rfl rfl ?_
          refine ex_iconst (v := nI 5) dX10_count_130 (by decide) ?_
          refine ex_icmp_neN (tgt := 141) dX10_count_131 (by decide) (by decide) (by decide) (fun h131 => by exact absurd h131 (by decide)) (fun h131 => ?_)
          refine ex_aload_n (i := 0) dX10_count_134 rfl rfl ?_
          refine ex_getI dX10_count_135 fl_Model_234 rfl rfl (by decide) ?_
          refine ex_asI (y := i 56 43) n43 ?_
          refine ex_goto (tgt := 145) dX10_count_138 (by decide) ?_
          refine ex_iret dX10_count_145 rfl rfl ?_
          simpa using HQ
        ·
          refine ex_iload_n (i := 1) dX10_count_46 rfl rfl ?_
          refine ex_iconst (v := nI 1) dX10_count_47 (by decide) ?_
          refine ex_icmp_leN (tgt := 65) dX10_count_48 (by decide) (by decide) (by decide) (fun h48 => by exact absurd h48 (by decide)) (fun h48 => ?_)
          refine ex_iload_n (i := 1) dX10_count_51 rfl rfl ?_
          refine ex_iconst (v := nI 5) dX10_count_52 (by decide) ?_
          refine ex_icmp_geN (tgt := 65) dX10_count_53 (by decide) (by decide) (by decide) (fun h53 => ?_) (fun h53 => by exact absurd h53 (by decide))
          refine ex_iload_n (i := 1) dX10_count_65 rfl rfl ?_
          refine ex_if_neN (tgt := 76) dX10_count_66 (by decide) (by omega) (fun h66 => ?_) (fun h66 => by exact absurd h66 (by decide))
          refine ex_iload_n (i := 1) dX10_count_76 rfl rfl ?_
          refine ex_iconst (v := nI 1) dX10_count_77 (by decide) ?_
          refine ex_icmp_neN (tgt := 85) dX10_count_78 (by decide) (by decide) (by decide) (fun h78 => ?_) (fun h78 => by exact absurd h78 (by decide))
          refine ex_iload_n (i := 1) dX10_count_85 rfl rfl ?_
          refine ex_iconst (v := nI 2) dX10_count_86 (by decide) ?_
          refine ex_icmp_neN (tgt := 97) dX10_count_87 (by decide) (by decide) (by decide) (fun h87 => ?_) (fun h87 => by exact absurd h87 (by decide))
          refine ex_iload_n (i := 1) dX10_count_97 rfl rfl ?_
          refine ex_iconst (v := nI 3) dX10_count_98 (by decide) ?_
          refine ex_icmp_neN (tgt := 109) dX10_count_99 (by decide) (by decide) (by decide) (fun h99 => ?_) (fun h99 => by exact absurd h99 (by decide))
          refine ex_iload_n (i := 1) dX10_count_109 rfl rfl ?_
          refine ex_iconst (v := nI 4) dX10_count_110 (by decide) ?_
          refine ex_icmp_neN (tgt := 129) dX10_count_111 (by decide) (by decide) (by decide) (fun h111 => ?_) (fun h111 => by exact absurd h111 (by decide))
          refine ex_iload_n (i := 1) dX10_count_129 rfl rfl ?_
          refine ex_iconst (v := nI 5) dX10_count_130 (by decide) ?_
          refine ex_icmp_neN (tgt := 141) dX10_count_131 (by decide) (by decide) (by decide) (fun h131 => ?_) (fun h131 => by exact absurd h131 (by decide))
          refine ex_aload_n (i := 0) dX10_count_141 rfl rfl ?_
          refine ex_getI dX10_count_142 fl_Model_224 rfl rfl (by decide) ?_
          refine ex_asI (y := i 56 27) n27 ?_
          refine ex_iret dX10_count_145 rfl rfl ?_
          simpa using HQ
    have L : ∀ d j, j + d = 210 → Wx m_Model_count 21 [some (.ref 56), some (.int (nI k)), some (.int (nI (ceF op j))), some (.int (nI j))] [] (94, g, xU i 56 45 (nI 0), q, RT t) (0, 0) Q := by
      intro d
      induction d with
      | zero =>
        intro j hj
        have e : j = 210 := hj
        subst e
        refine ex_iload_n (i := 3) dX10_count_21 rfl rfl ?_
        refine ex_sipush (v := nI 210) dX10_count_22 (by decide) ?_
        refine ex_icmp_geN (tgt := 46) dX10_count_25 (by decide) (by decide) (by decide) (fun h25 => ?_) (fun h25 => by exact absurd h25 (by decide))
        exact H46
      | succ d ih =>
        intro j hj
        have e62 : xU i 56 45 (nI 0) 62 j = if op j = 0 then -1 else nI (op j - 1) := by rw [xU_ne _ _ _ (show (62 : Nat) ≠ 56 by decide)]; exact (re j (by omega)).1
        have h8 := (re j (by omega)).2.1
        have IH := ih (j + 1) (by omega)
        by_cases o : op j = 0
        · rw [if_pos o] at e62
          have ce : ceF op (j + 1) = ceF op j := by show (if op j = 0 then _ else _) = _; rw [if_pos o]
          rw [ce] at IH
          refine ex_iload_n (i := 3) dX10_count_21 rfl rfl ?_
          refine ex_sipush (v := nI 210) dX10_count_22 (by decide) ?_
          refine ex_icmp_geN (tgt := 46) dX10_count_25 (by decide) (by omega) (by omega) (fun h25 => by omega) (fun h25 => ?_)
          refine ex_aload_n (i := 0) dX10_count_28 rfl rfl ?_
          refine ex_getR (v := .ref (62)) dX10_count_29 fl_Model_25 rfl rfl (by decide) rfl ?_
          refine ex_iload_n (i := 3) dX10_count_32 rfl rfl ?_
          refine ex_ialdN dX10_count_33 rfl (by decide) (by omega) rfl ?_
          refine ex_asI (y := (-1)) e62 ?_
          refine ex_if_lt (tgt := 40) dX10_count_34 (by decide) (fun h34 => ?_) (fun h34 => by exact absurd (by decide) h34)
          refine ex_iincN (L' := [some (.ref (56)), some (.int (nI (k))), some (.int (nI (ceF op j))), some (.int (nI (j + 1)))]) dX10_count_40 rfl rfl (by decide) rfl ?_
          refine ex_goto (tgt := 21) dX10_count_43 (by decide) ?_
          exact IH
        · rw [if_neg o] at e62
          have ce : ceF op (j + 1) = ceF op j + 1 := by show (if op j = 0 then _ else _) = _; rw [if_neg o]
          rw [ce] at IH
          refine ex_iload_n (i := 3) dX10_count_21 rfl rfl ?_
          refine ex_sipush (v := nI 210) dX10_count_22 (by decide) ?_
          refine ex_icmp_geN (tgt := 46) dX10_count_25 (by decide) (by omega) (by omega) (fun h25 => by omega) (fun h25 => ?_)
          refine ex_aload_n (i := 0) dX10_count_28 rfl rfl ?_
          refine ex_getR (v := .ref (62)) dX10_count_29 fl_Model_25 rfl rfl (by decide) rfl ?_
          refine ex_iload_n (i := 3) dX10_count_32 rfl rfl ?_
          refine ex_ialdN dX10_count_33 rfl (by decide) (by omega) rfl ?_
          refine ex_asN (a := op j - 1) e62 ?_
          refine ex_if_ltN (tgt := 40) dX10_count_34 (by decide) (by omega) ?_
          refine ex_iincN (L' := [some (.ref (56)), some (.int (nI (k))), some (.int (nI (ceF op j + 1))), some (.int (nI (j)))]) dX10_count_37 rfl rfl (by decide) rfl ?_
          refine ex_iincN (L' := [some (.ref (56)), some (.int (nI (k))), some (.int (nI (ceF op j + 1))), some (.int (nI (j + 1)))]) dX10_count_40 rfl rfl (by decide) rfl ?_
          refine ex_goto (tgt := 21) dX10_count_43 (by decide) ?_
          exact IH
    refine ex_aload_n (i := 0) dX10_count_0 rfl rfl ?_
    refine ex_iload_n (i := 1) dX10_count_1 rfl rfl ?_
    refine ex_iconst (v := nI 0) dX10_count_2 (by decide) ?_
    refine ex_bipush (v := nI 6) dX10_count_3 (by decide) ?_
    refine ex_cS (ν := m_Model_in) (as := [.int (nI (k)), .int (nI (0)), .int (nI (6))]) dX10_count_5 ln_Model_127 mf_Model_in np_Model_in rfl rfl ⟨(Nat.le_of_ble_eq_true rfl), (Nat.le_of_ble_eq_true rfl), (Nat.le_of_ble_eq_true rfl), (Nat.le_of_ble_eq_true rfl)⟩ (by decide) ?_
    refine sp_Model_in ?_
    refine ⟨_, rfl, ?_⟩
    refine ex_asN (a := 1) (by rw [eI]) ?_
    refine ex_iconst (v := nI 1) dX10_count_8 (by decide) ?_
    refine ex_cV (ν := m_Model_good) (a := 56) (ci := 10) (as := [.int (nI (1)), .int (nI (1))]) dX10_count_9 ln_Model_141 mf_Model_good rfl (Nat.le_of_ble_eq_true rfl) rfl rfl np_Model_good rfl rfl ⟨(Nat.le_of_ble_eq_true rfl), (Nat.le_of_ble_eq_true rfl), (Nat.le_of_ble_eq_true rfl), (Nat.le_of_ble_eq_true rfl)⟩ (by decide) ?_
    refine sp_Model_good (b := 1) (by decide) ?_
    refine ⟨_, rfl, ?_⟩
    refine ex_if_neN (tgt := 17) dX10_count_12 (by decide) (by omega) (fun h12 => ?_) (fun h12 => by exact absurd h12 (by decide))
    refine ex_iconst (v := nI 0) dX10_count_17 (by decide) ?_
    refine ex_istore_n (L' := [some (.ref (56)), some (.int (nI (k))), some (.int (nI (0))), none]) dX10_count_18 (i := 2) rfl (by decide) rfl ?_
    refine ex_iconst (v := nI 0) dX10_count_19 (by decide) ?_
    refine ex_istore_n (L' := [some (.ref (56)), some (.int (nI (k))), some (.int (nI (0))), some (.int (nI (0)))]) dX10_count_20 (i := 3) rfl (by decide) rfl ?_
    exact L 210 0 rfl
  · have eI : inX x (nI 0) (nI 6) = 0 := inX_c0 (by decide) hk
    refine ex_aload_n (i := 0) dX10_count_0 rfl rfl ?_
    refine ex_iload_n (i := 1) dX10_count_1 rfl rfl ?_
    refine ex_iconst (v := nI 0) dX10_count_2 (by decide) ?_
    refine ex_bipush (v := nI 6) dX10_count_3 (by decide) ?_
    refine ex_cS (ν := m_Model_in) (as := [.int (x), .int (nI (0)), .int (nI (6))]) dX10_count_5 ln_Model_127 mf_Model_in np_Model_in rfl rfl ⟨(Nat.le_of_ble_eq_true rfl), (Nat.le_of_ble_eq_true rfl), (Nat.le_of_ble_eq_true rfl), (Nat.le_of_ble_eq_true rfl)⟩ (by decide) ?_
    refine sp_Model_in ?_
    refine ⟨_, rfl, ?_⟩
    refine ex_asN (a := 0) (by rw [eI]) ?_
    refine ex_iconst (v := nI 1) dX10_count_8 (by decide) ?_
    refine ex_cV (ν := m_Model_good) (a := 56) (ci := 10) (as := [.int (nI (0)), .int (nI (1))]) dX10_count_9 ln_Model_141 mf_Model_good rfl (Nat.le_of_ble_eq_true rfl) rfl rfl np_Model_good rfl rfl ⟨(Nat.le_of_ble_eq_true rfl), (Nat.le_of_ble_eq_true rfl), (Nat.le_of_ble_eq_true rfl), (Nat.le_of_ble_eq_true rfl)⟩ (by decide) ?_
    refine sp_Model_good (b := 0) (by decide) ?_
    refine ⟨_, rfl, ?_⟩
    refine ex_if_neN (tgt := 17) dX10_count_12 (by decide) (by omega) (fun h12 => by exact absurd h12 (by decide)) (fun h12 => ?_)
    refine ex_iconst (v := nI 0) dX10_count_15 (by decide) ?_
    refine ex_iret dX10_count_16 rfl rfl ?_
    exact hX hk _ (Fm.rf.F (by decide)) (cd_at _ _)
end S61
