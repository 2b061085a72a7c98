/-! ===== the public methods: node, attribute, count ===== -/
section S53
variable {ζ g : Nat} {i : Nat → Nat → Int32} {q : Nat → Nat → Int64} {t : Bool} {Q : xRes → xMem → Prop} {n : Nat} {sy : Nat → Nat → Nat}
theorem nI_lt_of {x : Int32} {N : Nat} (hN : N < 2 ^ 31) (h0 : ¬ x < 0) (h : x < nI N) : ∃ k, x = nI k ∧ k < N := by
  obtain ⟨k, hk, rfl⟩ := nI_of h0
  exact ⟨k, rfl, (nI_ltI hk hN).mp h⟩
theorem sp_Tree_hasNode_I_46 {g a : Nat} {x : Int32} (h2 : i 46 2 = nI a) (ha : a ≤ 150) (h0 : (∀ s, x = nI s → s < a → False) → Q (.ok (some (.int (nI 0)))) (56 + ζ, g, i, q, RT t)) (h1 : ∀ s, x = nI s → s < a → Q (.ok (some (.int (nI 1)))) (56 + ζ, g, i, q, RT t)) : Wx m_Tree_hasNode 0 [some (.ref 46), some (.int x)] [] (56 + ζ, g, i, q, RT t) (0, 0) Q := by
  by_cases h : x < 0
  · exact sp_Tree_hasNode_neg_46 h (h0 (fun s e hs => nI_pos (n := s) (by omega) (e ▸ h)))
  · obtain ⟨c, hc, rfl⟩ := nI_of h
    refine sp_Tree_hasNode_46 hc h2 ha ?_
    by_cases c1 : c < a
    · rw [if_pos c1]; exact h1 c rfl c1
    · rw [if_neg c1]; exact h0 (fun s e hs => c1 (by rw [(nI_eq hc (by omega)).mp e]; exact hs))
theorem sp_Tree_hasNode_I_51 {g a : Nat} {x : Int32} (h2 : i 51 2 = nI a) (ha : a ≤ 150) (h0 : (∀ s, x = nI s → s < a → False) → Q (.ok (some (.int (nI 0)))) (56 + ζ, g, i, q, RT t)) (h1 : ∀ s, x = nI s → s < a → Q (.ok (some (.int (nI 1)))) (56 + ζ, g, i, q, RT t)) : Wx m_Tree_hasNode 0 [some (.ref 51), some (.int x)] [] (56 + ζ, g, i, q, RT t) (0, 0) Q := by
  by_cases h : x < 0
  · exact sp_Tree_hasNode_neg_51 h (h0 (fun s e hs => nI_pos (n := s) (by omega) (e ▸ h)))
  · obtain ⟨c, hc, rfl⟩ := nI_of h
    refine sp_Tree_hasNode_51 hc h2 ha ?_
    by_cases c1 : c < a
    · rw [if_pos c1]; exact h1 c rfl c1
    · rw [if_neg c1]; exact h0 (fun s e hs => c1 (by rw [(nI_eq hc (by omega)).mp e]; exact hs))
theorem sp_Works_node_46 {x y : Int32} {a : Nat} (sc : SC i) (h2 : i 46 2 = nI a) (ha : a ≤ 150) (hX0 : (¬ ∃ s, x = nI s ∧ s < a) → Q (.error "java/util/NoSuchElementException") (56 + ζ, g + 1, i, q, RT false)) (hX1 : ∀ s, x = nI s → s < a → (¬ ∃ k, y = nI k ∧ k < 4) → Q (.error "java/lang/IllegalArgumentException") (56 + ζ, g + 1, i, q, RT false))
    (hQ : ∀ s k, x = nI s → s < a → y = nI k → k < 4 → Q (.ok (some (.int (i 48 (s * 8 + k))))) (56 + ζ, g, i, q, RT false)) : Wx m_Works_node 0 [some (.ref 0), some (.int x), some (.int y)] [] (56 + ζ, g, i, q, RT false) (1, 6) Q := by
  by_cases hs : ∃ s, x = nI s ∧ s < a
  · obtain ⟨s, rfl, hs2⟩ := hs
    by_cases hk : ∃ k, y = nI k ∧ k < 4
    · obtain ⟨k, rfl, hk2⟩ := hk
      refine ex_aload_n (i := 0) dX9_node_0 rfl rfl ?_
      refine ex_getR (v := .ref (46)) dX9_node_1 fl_Works_51 rfl rfl (l56 (by decide)) rfl ?_
      refine ex_iload_n (i := 1) dX9_node_4 rfl rfl ?_
      refine ex_cV (ν := m_Tree_hasNode) (a := 46) (ci := 8) (as := [.int (nI (s))]) dX9_node_5 ln_Works_226 mf_Tree_hasNode rfl (l56 (by decide)) rfl rfl np_Tree_hasNode rfl rfl ⟨(Nat.le_of_ble_eq_true rfl), (Nat.le_of_ble_eq_true rfl), (Nat.le_of_ble_eq_true rfl), (Nat.le_of_ble_eq_true rfl)⟩ (by decide) ?_
      refine sp_Tree_hasNode_46 (by omega) h2 ha ?_
      refine ⟨_, rfl, ?_⟩
      refine ex_asN (a := 1) (by rw [if_pos hs2]) ?_
      refine ex_if_neN (tgt := 21) dX9_node_8 (by decide) (by omega) (fun h8 => ?_) (fun h8 => by exact absurd h8 (by decide))
      refine ex_iload_n (i := 2) dX9_node_21 rfl rfl ?_
      refine ex_if_ltN (tgt := 30) dX9_node_22 (by decide) (by omega) ?_
      refine ex_iload_n (i := 2) dX9_node_25 rfl rfl ?_
      refine ex_iconst (v := nI 3) dX9_node_26 (by decide) ?_
      refine ex_icmp_leN (tgt := 40) dX9_node_27 (by decide) (by omega) (by omega) (fun h27 => ?_) (fun h27 => by omega)
      refine ex_aload_n (i := 0) dX9_node_40 rfl rfl ?_
      refine ex_getR (v := .ref (46)) dX9_node_41 fl_Works_51 rfl rfl (l56 (by decide)) rfl ?_
      refine ex_iload_n (i := 1) dX9_node_44 rfl rfl ?_
      refine ex_iload_n (i := 2) dX9_node_45 rfl rfl ?_
      refine ex_cV (ν := m_Tree_fact) (a := 46) (ci := 8) (as := [.int (nI (s)), .int (nI (k))]) dX9_node_46 ln_Works_233 mf_Tree_fact rfl (l56 (by decide)) rfl rfl np_Tree_fact rfl rfl ⟨(Nat.le_of_ble_eq_true rfl), (Nat.le_of_ble_eq_true rfl), (Nat.le_of_ble_eq_true rfl), (Nat.le_of_ble_eq_true rfl)⟩ (by decide) ?_
      refine sp_Tree_fact_46 sc (by omega) (by omega) ?_
      refine ⟨_, rfl, ?_⟩
      refine ex_K0 ?_
      refine ex_iret dX9_node_49 rfl rfl ?_
      exact hQ s k rfl hs2 rfl hk2
    ·
      refine ex_aload_n (i := 0) dX9_node_0 rfl rfl ?_
      refine ex_getR (v := .ref (46)) dX9_node_1 fl_Works_51 rfl rfl (l56 (by decide)) rfl ?_
      refine ex_iload_n (i := 1) dX9_node_4 rfl rfl ?_
      refine ex_cV (ν := m_Tree_hasNode) (a := 46) (ci := 8) (as := [.int (nI (s))]) dX9_node_5 ln_Works_226 mf_Tree_hasNode rfl (l56 (by decide)) rfl rfl np_Tree_hasNode rfl rfl ⟨(Nat.le_of_ble_eq_true rfl), (Nat.le_of_ble_eq_true rfl), (Nat.le_of_ble_eq_true rfl), (Nat.le_of_ble_eq_true rfl)⟩ (by decide) ?_
      refine sp_Tree_hasNode_46 (by omega) h2 ha ?_
      refine ⟨_, rfl, ?_⟩
      refine ex_asN (a := 1) (by rw [if_pos hs2]) ?_
      refine ex_if_neN (tgt := 21) dX9_node_8 (by decide) (by omega) (fun h8 => ?_) (fun h8 => by exact absurd h8 (by decide))
      refine ex_iload_n (i := 2) dX9_node_21 rfl rfl ?_
      refine ex_if_lt (tgt := 30) dX9_node_22 (by decide) (fun h22 => ?_) (fun h22 => ?_)
      · refine ex_throw th_Works_node_30 (by decide) ?_
        exact hX1 s rfl hs2 hk
      · refine ex_iload_n (i := 2) dX9_node_25 rfl rfl ?_
        refine ex_iconst (v := nI 3) dX9_node_26 (by decide) ?_
        refine ex_icmp_le (tgt := 40) dX9_node_27 (by decide) (fun h27 => by exact absurd (by obtain ⟨k, k1, k2⟩ := nI_of2 (n := 3) (by decide) h22 h27; exact ⟨k, k2, by omega⟩) hk) (fun h27 => ?_)
        refine ex_throw th_Works_node_30 (by decide) ?_
        exact hX1 s rfl hs2 hk
  ·
    refine ex_aload_n (i := 0) dX9_node_0 rfl rfl ?_
    refine ex_getR (v := .ref (46)) dX9_node_1 fl_Works_51 rfl rfl (l56 (by decide)) rfl ?_
    refine ex_iload_n (i := 1) dX9_node_4 rfl rfl ?_
    refine ex_cV (ν := m_Tree_hasNode) (a := 46) (ci := 8) (as := [.int (x)]) dX9_node_5 ln_Works_226 mf_Tree_hasNode rfl (l56 (by decide)) rfl rfl np_Tree_hasNode rfl rfl ⟨(Nat.le_of_ble_eq_true rfl), (Nat.le_of_ble_eq_true rfl), (Nat.le_of_ble_eq_true rfl), (Nat.le_of_ble_eq_true rfl)⟩ (by decide) ?_
    refine sp_Tree_hasNode_I_46 h2 ha (fun _ => ?_) (fun s e1 e2 => absurd ⟨s, e1, e2⟩ hs)
    refine ⟨_, rfl, ?_⟩
    refine ex_if_neN (tgt := 21) dX9_node_8 (by decide) (by omega) (fun h8 => by exact absurd h8 (by decide)) (fun h8 => ?_)
    refine ex_throw th_Works_node_11 (by decide) ?_
    exact hX0 hs
/-- what count answers -/
theorem sp_Works_count_46 {x : Int32} {b f : Nat} (h7 : i 0 7 = nI b) (hb : b ≤ 1) (hf : b = 1 → i 27 3 = nI f ∧ f < 2) (hX : (¬ ∃ k, x = nI k ∧ k < 7) → Q (.error "java/lang/IllegalArgumentException") (56 + ζ, g + 1, i, q, RT false))
    (hQ : ∀ k, x = nI k → k < 7 → Q (.ok (some (.int (if k = 0 then i 1 7 else if k = 1 then i 1 8 else if k = 2 then (if b = 1 then i 16 6 else nI 0) else if k = 3 then (if b = 1 then i 16 7 else nI 0) else if k = 4 then (if b = 1 then nI f else nI 0) else if k = 5 then i 46 2 else i 32 6)))) (56 + ζ, g, i, q, RT false)) :
    Wx m_Works_count 0 [some (.ref 0), some (.int x)] [] (56 + ζ, g, i, q, RT false) (1, 6) Q := by
  by_cases hk : ∃ k, x = nI k ∧ k < 7
  · obtain ⟨k, rfl, hk2⟩ := hk
    have hQ := hQ k rfl hk2
    by_cases b0 : b = 0
    · rcases (show k = 0 ∨ k = 1 ∨ k = 2 ∨ k = 3 ∨ k = 4 ∨ k = 5 ∨ k = 6 by omega) with rfl | rfl | rfl | rfl | rfl | rfl | rfl
      ·
        refine ex_iload_n (i := 1) dX9_count_0 rfl rfl ?_
        refine ex_tableIn (off := 43) (tgt := 44) dX9_count_1 (by decide) (by decide) (by decide) (by decide) ?_
        refine ex_aload_n (i := 0) dX9_count_44 rfl rfl ?_
        refine ex_getR (v := .ref (1)) dX9_count_45 fl_Works_12 rfl rfl (l56 (by decide)) rfl ?_
        refine ex_cV (ν := m_Grammar_size) (a := 1) (ci := 1) (as := []) dX9_count_48 ln_Works_86 mf_Grammar_size rfl (l56 (by decide)) rfl rfl np_Grammar_size rfl rfl ⟨(Nat.le_of_ble_eq_true rfl), (Nat.le_of_ble_eq_true rfl), (Nat.le_of_ble_eq_true rfl), (Nat.le_of_ble_eq_true rfl)⟩ (by decide) ?_
        refine sp_Grammar_size ?_
        refine ⟨_, rfl, ?_⟩
        refine ex_K0 ?_
        refine ex_iret dX9_count_51 rfl rfl ?_
        simpa [b0] using hQ
      ·
        refine ex_iload_n (i := 1) dX9_count_0 rfl rfl ?_
        refine ex_tableIn (off := 51) (tgt := 52) dX9_count_1 (by decide) (by decide) (by decide) (by decide) ?_
        refine ex_aload_n (i := 0) dX9_count_52 rfl rfl ?_
        refine ex_getR (v := .ref (1)) dX9_count_53 fl_Works_12 rfl rfl (l56 (by decide)) rfl ?_
        refine ex_cV (ν := m_Grammar_equations) (a := 1) (ci := 1) (as := []) dX9_count_56 ln_Works_245 mf_Grammar_equations rfl (l56 (by decide)) rfl rfl np_Grammar_equations rfl rfl ⟨(Nat.le_of_ble_eq_true rfl), (Nat.le_of_ble_eq_true rfl), (Nat.le_of_ble_eq_true rfl), (Nat.le_of_ble_eq_true rfl)⟩ (by decide) ?_
        refine sp_Grammar_equations ?_
        refine ⟨_, rfl, ?_⟩
        refine ex_K0 ?_
        refine ex_iret dX9_count_59 rfl rfl ?_
        simpa [b0] using hQ
      ·
        refine ex_iload_n (i := 1) dX9_count_0 rfl rfl ?_
        refine ex_tableIn (off := 59) (tgt := 60) dX9_count_1 (by decide) (by decide) (by decide) (by decide) ?_
        refine ex_aload_n (i := 0) dX9_count_60 rfl rfl ?_
        refine ex_getI dX9_count_61 fl_Works_58 rfl rfl (l56 (by decide)) ?_
        refine ex_asN (a := b) h7 ?_
        refine ex_if_eqN (tgt := 77) dX9_count_64 (by decide) (by omega) (fun h64 => ?_) (fun h64 => by exact absurd b0 h64)
        refine ex_iconst (v := nI 0) dX9_count_77 (by decide) ?_
        refine ex_K0 ?_
        refine ex_iret dX9_count_78 rfl rfl ?_
        simpa [b0] using hQ
      ·
        refine ex_iload_n (i := 1) dX9_count_0 rfl rfl ?_
        refine ex_tableIn (off := 78) (tgt := 79) dX9_count_1 (by decide) (by decide) (by decide) (by decide) ?_
        refine ex_aload_n (i := 0) dX9_count_79 rfl rfl ?_
        refine ex_getI dX9_count_80 fl_Works_58 rfl rfl (l56 (by decide)) ?_
        refine ex_asN (a := b) h7 ?_
        refine ex_if_eqN (tgt := 96) dX9_count_83 (by decide) (by omega) (fun h83 => ?_) (fun h83 => by exact absurd b0 h83)
        refine ex_iconst (v := nI 0) dX9_count_96 (by decide) ?_
        refine ex_K0 ?_
        refine ex_iret dX9_count_97 rfl rfl ?_
        simpa [b0] using hQ
      ·
        refine ex_iload_n (i := 1) dX9_count_0 rfl rfl ?_
        refine ex_tableIn (off := 97) (tgt := 98) dX9_count_1 (by decide) (by decide) (by decide) (by decide) ?_
        refine ex_aload_n (i := 0) dX9_count_98 rfl rfl ?_
        refine ex_getI dX9_count_99 fl_Works_58 rfl rfl (l56 (by decide)) ?_
        refine ex_asN (a := b) h7 ?_
        refine ex_if_eqN (tgt := 119) dX9_count_102 (by decide) (by omega) (fun h102 => ?_) (fun h102 => by exact absurd b0 h102)
        refine ex_iconst (v := nI 0) dX9_count_119 (by decide) ?_
        refine ex_K0 ?_
        refine ex_iret dX9_count_120 rfl rfl ?_
        simpa [b0] using hQ
      ·
        refine ex_iload_n (i := 1) dX9_count_0 rfl rfl ?_
        refine ex_tableIn (off := 120) (tgt := 121) dX9_count_1 (by decide) (by decide) (by decide) (by decide) ?_
        refine ex_aload_n (i := 0) dX9_count_121 rfl rfl ?_
        refine ex_getR (v := .ref (46)) dX9_count_122 fl_Works_51 rfl rfl (l56 (by decide)) rfl ?_
        refine ex_cV (ν := m_Tree_size) (a := 46) (ci := 8) (as := []) dX9_count_125 ln_Works_225 mf_Tree_size rfl (l56 (by decide)) rfl rfl np_Tree_size rfl rfl ⟨(Nat.le_of_ble_eq_true rfl), (Nat.le_of_ble_eq_true rfl), (Nat.le_of_ble_eq_true rfl), (Nat.le_of_ble_eq_true rfl)⟩ (by decide) ?_
        refine sp_Tree_size_46 ?_
        refine ⟨_, rfl, ?_⟩
        refine ex_K0 ?_
        refine ex_iret dX9_count_128 rfl rfl ?_
        simpa [b0] using hQ
      ·
        refine ex_iload_n (i := 1) dX9_count_0 rfl rfl ?_
        refine ex_tableIn (off := 128) (tgt := 129) dX9_count_1 (by decide) (by decide) (by decide) (by decide) ?_
        refine ex_aload_n (i := 0) dX9_count_129 rfl rfl ?_
        refine ex_getR (v := .ref (32)) dX9_count_130 fl_Works_37 rfl rfl (l56 (by decide)) rfl ?_
        refine ex_cV (ν := m_Parser_size) (a := 32) (ci := 4) (as := []) dX9_count_133 ln_Works_194 mf_Parser_size rfl (l56 (by decide)) rfl rfl np_Parser_size rfl rfl ⟨(Nat.le_of_ble_eq_true rfl), (Nat.le_of_ble_eq_true rfl), (Nat.le_of_ble_eq_true rfl), (Nat.le_of_ble_eq_true rfl)⟩ (by decide) ?_
        refine sp_Parser_size ?_
        refine ⟨_, rfl, ?_⟩
        refine ex_K0 ?_
        refine ex_iret dX9_count_136 rfl rfl ?_
        simpa [b0] using hQ
    · have b1 : b = 1 := by omega
      obtain ⟨f1, f2⟩ := hf b1
      rcases (show k = 0 ∨ k = 1 ∨ k = 2 ∨ k = 3 ∨ k = 4 ∨ k = 5 ∨ k = 6 by omega) with rfl | rfl | rfl | rfl | rfl | rfl | rfl
      ·
        refine ex_iload_n (i := 1) dX9_count_0 rfl rfl ?_
        refine ex_tableIn (off := 43) (tgt := 44) dX9_count_1 (by decide) (by decide) (by decide) (by decide) ?_
        refine ex_aload_n (i := 0) dX9_count_44 rfl rfl ?_
        refine ex_getR (v := .ref (1)) dX9_count_45 fl_Works_12 rfl rfl (l56 (by decide)) rfl ?_
        refine ex_cV (ν := m_Grammar_size) (a := 1) (ci := 1) (as := []) dX9_count_48 ln_Works_86 mf_Grammar_size rfl (l56 (by decide)) rfl rfl np_Grammar_size rfl rfl ⟨(Nat.le_of_ble_eq_true rfl), (Nat.le_of_ble_eq_true rfl), (Nat.le_of_ble_eq_true rfl), (Nat.le_of_ble_eq_true rfl)⟩ (by decide) ?_
        refine sp_Grammar_size ?_
        refine ⟨_, rfl, ?_⟩
        refine ex_K0 ?_
        refine ex_iret dX9_count_51 rfl rfl ?_
        simpa [b1] using hQ
      ·
        refine ex_iload_n (i := 1) dX9_count_0 rfl rfl ?_
        refine ex_tableIn (off := 51) (tgt := 52) dX9_count_1 (by decide) (by decide) (by decide) (by decide) ?_
        refine ex_aload_n (i := 0) dX9_count_52 rfl rfl ?_
        refine ex_getR (v := .ref (1)) dX9_count_53 fl_Works_12 rfl rfl (l56 (by decide)) rfl ?_
        refine ex_cV (ν := m_Grammar_equations) (a := 1) (ci := 1) (as := []) dX9_count_56 ln_Works_245 mf_Grammar_equations rfl (l56 (by decide)) rfl rfl np_Grammar_equations rfl rfl ⟨(Nat.le_of_ble_eq_true rfl), (Nat.le_of_ble_eq_true rfl), (Nat.le_of_ble_eq_true rfl), (Nat.le_of_ble_eq_true rfl)⟩ (by decide) ?_
        refine sp_Grammar_equations ?_
        refine ⟨_, rfl, ?_⟩
        refine ex_K0 ?_
        refine ex_iret dX9_count_59 rfl rfl ?_
        simpa [b1] using hQ
      ·
        refine ex_iload_n (i := 1) dX9_count_0 rfl rfl ?_
        refine ex_tableIn (off := 59) (tgt := 60) dX9_count_1 (by decide) (by decide) (by decide) (by decide) ?_
        refine ex_aload_n (i := 0) dX9_count_60 rfl rfl ?_
        refine ex_getI dX9_count_61 fl_Works_58 rfl rfl (l56 (by decide)) ?_
        refine ex_asN (a := b) h7 ?_
        refine ex_if_eqN (tgt := 77) dX9_count_64 (by decide) (by omega) (fun h64 => by exact absurd h64 b0) (fun h64 => ?_)
        refine ex_aload_n (i := 0) dX9_count_67 rfl rfl ?_
        refine ex_getR (v := .ref (16)) dX9_count_68 fl_Works_21 rfl rfl (l56 (by decide)) rfl ?_
        refine ex_cV (ν := m_States_size) (a := 16) (ci := 7) (as := []) dX9_count_71 ln_Works_163 mf_States_size rfl (l56 (by decide)) rfl rfl np_States_size rfl rfl ⟨(Nat.le_of_ble_eq_true rfl), (Nat.le_of_ble_eq_true rfl), (Nat.le_of_ble_eq_true rfl), (Nat.le_of_ble_eq_true rfl)⟩ (by decide) ?_
        refine sp_States_size ?_
        refine ⟨_, rfl, ?_⟩
        refine ex_goto (tgt := 78) dX9_count_74 (by decide) ?_
        refine ex_K0 ?_
        refine ex_iret dX9_count_78 rfl rfl ?_
        simpa [b1] using hQ
      ·
        refine ex_iload_n (i := 1) dX9_count_0 rfl rfl ?_
        refine ex_tableIn (off := 78) (tgt := 79) dX9_count_1 (by decide) (by decide) (by decide) (by decide) ?_
        refine ex_aload_n (i := 0) dX9_count_79 rfl rfl ?_
        refine ex_getI dX9_count_80 fl_Works_58 rfl rfl (l56 (by decide)) ?_
        refine ex_asN (a := b) h7 ?_
        refine ex_if_eqN (tgt := 96) dX9_count_83 (by decide) (by omega) (fun h83 => by exact absurd h83 b0) (fun h83 => ?_)
        refine ex_aload_n (i := 0) dX9_count_86 rfl rfl ?_
        refine ex_getR (v := .ref (16)) dX9_count_87 fl_Works_21 rfl rfl (l56 (by decide)) rfl ?_
        refine ex_cV (ν := m_States_conflicts) (a := 16) (ci := 7) (as := []) dX9_count_90 ln_Works_200 mf_States_conflicts rfl (l56 (by decide)) rfl rfl np_States_conflicts rfl rfl ⟨(Nat.le_of_ble_eq_true rfl), (Nat.le_of_ble_eq_true rfl), (Nat.le_of_ble_eq_true rfl), (Nat.le_of_ble_eq_true rfl)⟩ (by decide) ?_
        refine sp_States_conflicts ?_
        refine ⟨_, rfl, ?_⟩
        refine ex_goto (tgt := 97) dX9_count_93 (by decide) ?_
        refine ex_K0 ?_
        refine ex_iret dX9_count_97 rfl rfl ?_
        simpa [b1] using hQ
      ·
        refine ex_iload_n (i := 1) dX9_count_0 rfl rfl ?_
        refine ex_tableIn (off := 97) (tgt := 98) dX9_count_1 (by decide) (by decide) (by decide) (by decide) ?_
        refine ex_aload_n (i := 0) dX9_count_98 rfl rfl ?_
        refine ex_getI dX9_count_99 fl_Works_58 rfl rfl (l56 (by decide)) ?_
        refine ex_asN (a := b) h7 ?_
        refine ex_if_eqN (tgt := 119) dX9_count_102 (by decide) (by omega) (fun h102 => by exact absurd h102 b0) (fun h102 => ?_)
        refine ex_aload_n (i := 0) dX9_count_105 rfl rfl ?_
        refine ex_getR (v := .ref (27)) dX9_count_106 fl_Works_28 rfl rfl (l56 (by decide)) rfl ?_
        refine ex_cV (ν := m_Rings_areFound) (a := 27) (ci := 5) (as := []) dX9_count_109 ln_Works_205 mf_Rings_areFound rfl (l56 (by decide)) rfl rfl np_Rings_areFound rfl rfl ⟨(Nat.le_of_ble_eq_true rfl), (Nat.le_of_ble_eq_true rfl), (Nat.le_of_ble_eq_true rfl), (Nat.le_of_ble_eq_true rfl)⟩ (by decide) ?_
        refine sp_Rings_areFound (by rw [f1]; rcases (show f = 0 ∨ f = 1 by omega) with rfl | rfl <;> decide) ?_
        refine ⟨_, rfl, ?_⟩
        refine ex_asN (a := f) f1 ?_
        refine ex_if_eqN (tgt := 119) dX9_count_112 (by decide) (by omega) (fun h112 => ?_) (fun h112 => ?_)
        · refine ex_iconst (v := nI 0) dX9_count_119 (by decide) ?_
          refine ex_K0 ?_
          refine ex_iret dX9_count_120 rfl rfl ?_
          first | (have e : f = 0 := h112; subst e; simpa [b1] using hQ) | (have e : f = 1 := (by omega); subst e; simpa [b1] using hQ)
        · refine ex_iconst (v := nI 1) dX9_count_115 (by decide) ?_
          refine ex_goto (tgt := 120) dX9_count_116 (by decide) ?_
          refine ex_K0 ?_
          refine ex_iret dX9_count_120 rfl rfl ?_
          first | (have e : f = 0 := h112; subst e; simpa [b1] using hQ) | (have e : f = 1 := (by omega); subst e; simpa [b1] using hQ)
      ·
        refine ex_iload_n (i := 1) dX9_count_0 rfl rfl ?_
        refine ex_tableIn (off := 120) (tgt := 121) dX9_count_1 (by decide) (by decide) (by decide) (by decide) ?_
        refine ex_aload_n (i := 0) dX9_count_121 rfl rfl ?_
        refine ex_getR (v := .ref (46)) dX9_count_122 fl_Works_51 rfl rfl (l56 (by decide)) rfl ?_
        refine ex_cV (ν := m_Tree_size) (a := 46) (ci := 8) (as := []) dX9_count_125 ln_Works_225 mf_Tree_size rfl (l56 (by decide)) rfl rfl np_Tree_size rfl rfl ⟨(Nat.le_of_ble_eq_true rfl), (Nat.le_of_ble_eq_true rfl), (Nat.le_of_ble_eq_true rfl), (Nat.le_of_ble_eq_true rfl)⟩ (by decide) ?_
        refine sp_Tree_size_46 ?_
        refine ⟨_, rfl, ?_⟩
        refine ex_K0 ?_
        refine ex_iret dX9_count_128 rfl rfl ?_
        simpa [b1] using hQ
      ·
        refine ex_iload_n (i := 1) dX9_count_0 rfl rfl ?_
        refine ex_tableIn (off := 128) (tgt := 129) dX9_count_1 (by decide) (by decide) (by decide) (by decide) ?_
        refine ex_aload_n (i := 0) dX9_count_129 rfl rfl ?_
        refine ex_getR (v := .ref (32)) dX9_count_130 fl_Works_37 rfl rfl (l56 (by decide)) rfl ?_
        refine ex_cV (ν := m_Parser_size) (a := 32) (ci := 4) (as := []) dX9_count_133 ln_Works_194 mf_Parser_size rfl (l56 (by decide)) rfl rfl np_Parser_size rfl rfl ⟨(Nat.le_of_ble_eq_true rfl), (Nat.le_of_ble_eq_true rfl), (Nat.le_of_ble_eq_true rfl), (Nat.le_of_ble_eq_true rfl)⟩ (by decide) ?_
        refine sp_Parser_size ?_
        refine ⟨_, rfl, ?_⟩
        refine ex_K0 ?_
        refine ex_iret dX9_count_136 rfl rfl ?_
        simpa [b1] using hQ
  ·
    refine ex_iload_n (i := 1) dX9_count_0 rfl rfl ?_
    refine ex_tableOut (tgt := 137) dX9_count_1 (Classical.byContradiction fun z => hk (by have := nI_of (x := x) (fun y => by have := Int32.lt_iff_toInt_lt.mp y; simp at this; omega); obtain ⟨k, k1, rfl⟩ := this; rw [nI_toInt k1] at z; exact ⟨k, rfl, by omega⟩)) (by decide) ?_
    refine ex_throw th_Works_count_137 (by decide) ?_
    exact hX hk
theorem sp_Works_node_51 {x y : Int32} {a : Nat} (sc : SC i) (h2 : i 51 2 = nI a) (ha : a ≤ 150) (hX0 : (¬ ∃ s, x = nI s ∧ s < a) → Q (.error "java/util/NoSuchElementException") (56 + ζ, g + 1, i, q, RT true)) (hX1 : ∀ s, x = nI s → s < a → (¬ ∃ k, y = nI k ∧ k < 4) → Q (.error "java/lang/IllegalArgumentException") (56 + ζ, g + 1, i, q, RT true))
    (hQ : ∀ s k, x = nI s → s < a → y = nI k → k < 4 → Q (.ok (some (.int (i 53 (s * 8 + k))))) (56 + ζ, g, i, q, RT true)) : Wx m_Works_node 0 [some (.ref 0), some (.int x), some (.int y)] [] (56 + ζ, g, i, q, RT true) (1, 6) Q := by
  by_cases hs : ∃ s, x = nI s ∧ s < a
  · obtain ⟨s, rfl, hs2⟩ := hs
    by_cases hk : ∃ k, y = nI k ∧ k < 4
    · obtain ⟨k, rfl, hk2⟩ := hk
      refine ex_aload_n (i := 0) dX9_node_0 rfl rfl ?_
      refine ex_getR (v := .ref (51)) dX9_node_1 fl_Works_51 rfl rfl (l56 (by decide)) rfl ?_
      refine ex_iload_n (i := 1) dX9_node_4 rfl rfl ?_
      refine ex_cV (ν := m_Tree_hasNode) (a := 51) (ci := 8) (as := [.int (nI (s))]) dX9_node_5 ln_Works_226 mf_Tree_hasNode rfl (l56 (by decide)) rfl rfl np_Tree_hasNode rfl rfl ⟨(Nat.le_of_ble_eq_true rfl), (Nat.le_of_ble_eq_true rfl), (Nat.le_of_ble_eq_true rfl), (Nat.le_of_ble_eq_true rfl)⟩ (by decide) ?_
      refine sp_Tree_hasNode_51 (by omega) h2 ha ?_
      refine ⟨_, rfl, ?_⟩
      refine ex_asN (a := 1) (by rw [if_pos hs2]) ?_
      refine ex_if_neN (tgt := 21) dX9_node_8 (by decide) (by omega) (fun h8 => ?_) (fun h8 => by exact absurd h8 (by decide))
      refine ex_iload_n (i := 2) dX9_node_21 rfl rfl ?_
      refine ex_if_ltN (tgt := 30) dX9_node_22 (by decide) (by omega) ?_
      refine ex_iload_n (i := 2) dX9_node_25 rfl rfl ?_
      refine ex_iconst (v := nI 3) dX9_node_26 (by decide) ?_
      refine ex_icmp_leN (tgt := 40) dX9_node_27 (by decide) (by omega) (by omega) (fun h27 => ?_) (fun h27 => by omega)
      refine ex_aload_n (i := 0) dX9_node_40 rfl rfl ?_
      refine ex_getR (v := .ref (51)) dX9_node_41 fl_Works_51 rfl rfl (l56 (by decide)) rfl ?_
      refine ex_iload_n (i := 1) dX9_node_44 rfl rfl ?_
      refine ex_iload_n (i := 2) dX9_node_45 rfl rfl ?_
      refine ex_cV (ν := m_Tree_fact) (a := 51) (ci := 8) (as := [.int (nI (s)), .int (nI (k))]) dX9_node_46 ln_Works_233 mf_Tree_fact rfl (l56 (by decide)) rfl rfl np_Tree_fact rfl rfl ⟨(Nat.le_of_ble_eq_true rfl), (Nat.le_of_ble_eq_true rfl), (Nat.le_of_ble_eq_true rfl), (Nat.le_of_ble_eq_true rfl)⟩ (by decide) ?_
      refine sp_Tree_fact_51 sc (by omega) (by omega) ?_
      refine ⟨_, rfl, ?_⟩
      refine ex_K0 ?_
      refine ex_iret dX9_node_49 rfl rfl ?_
      exact hQ s k rfl hs2 rfl hk2
    ·
      refine ex_aload_n (i := 0) dX9_node_0 rfl rfl ?_
      refine ex_getR (v := .ref (51)) dX9_node_1 fl_Works_51 rfl rfl (l56 (by decide)) rfl ?_
      refine ex_iload_n (i := 1) dX9_node_4 rfl rfl ?_
      refine ex_cV (ν := m_Tree_hasNode) (a := 51) (ci := 8) (as := [.int (nI (s))]) dX9_node_5 ln_Works_226 mf_Tree_hasNode rfl (l56 (by decide)) rfl rfl np_Tree_hasNode rfl rfl ⟨(Nat.le_of_ble_eq_true rfl), (Nat.le_of_ble_eq_true rfl), (Nat.le_of_ble_eq_true rfl), (Nat.le_of_ble_eq_true rfl)⟩ (by decide) ?_
      refine sp_Tree_hasNode_51 (by omega) h2 ha ?_
      refine ⟨_, rfl, ?_⟩
      refine ex_asN (a := 1) (by rw [if_pos hs2]) ?_
      refine ex_if_neN (tgt := 21) dX9_node_8 (by decide) (by omega) (fun h8 => ?_) (fun h8 => by exact absurd h8 (by decide))
      refine ex_iload_n (i := 2) dX9_node_21 rfl rfl ?_
      refine ex_if_lt (tgt := 30) dX9_node_22 (by decide) (fun h22 => ?_) (fun h22 => ?_)
      · refine ex_throw th_Works_node_30 (by decide) ?_
        exact hX1 s rfl hs2 hk
      · refine ex_iload_n (i := 2) dX9_node_25 rfl rfl ?_
        refine ex_iconst (v := nI 3) dX9_node_26 (by decide) ?_
        refine ex_icmp_le (tgt := 40) dX9_node_27 (by decide) (fun h27 => by exact absurd (by obtain ⟨k, k1, k2⟩ := nI_of2 (n := 3) (by decide) h22 h27; exact ⟨k, k2, by omega⟩) hk) (fun h27 => ?_)
        refine ex_throw th_Works_node_30 (by decide) ?_
        exact hX1 s rfl hs2 hk
  ·
    refine ex_aload_n (i := 0) dX9_node_0 rfl rfl ?_
    refine ex_getR (v := .ref (51)) dX9_node_1 fl_Works_51 rfl rfl (l56 (by decide)) rfl ?_
    refine ex_iload_n (i := 1) dX9_node_4 rfl rfl ?_
    refine ex_cV (ν := m_Tree_hasNode) (a := 51) (ci := 8) (as := [.int (x)]) dX9_node_5 ln_Works_226 mf_Tree_hasNode rfl (l56 (by decide)) rfl rfl np_Tree_hasNode rfl rfl ⟨(Nat.le_of_ble_eq_true rfl), (Nat.le_of_ble_eq_true rfl), (Nat.le_of_ble_eq_true rfl), (Nat.le_of_ble_eq_true rfl)⟩ (by decide) ?_
    refine sp_Tree_hasNode_I_51 h2 ha (fun _ => ?_) (fun s e1 e2 => absurd ⟨s, e1, e2⟩ hs)
    refine ⟨_, rfl, ?_⟩
    refine ex_if_neN (tgt := 21) dX9_node_8 (by decide) (by omega) (fun h8 => by exact absurd h8 (by decide)) (fun h8 => ?_)
    refine ex_throw th_Works_node_11 (by decide) ?_
    exact hX0 hs
/-- what count answers -/
theorem sp_Works_count_51 {x : Int32} {b f : Nat} (h7 : i 0 7 = nI b) (hb : b ≤ 1) (hf : b = 1 → i 27 3 = nI f ∧ f < 2) (hX : (¬ ∃ k, x = nI k ∧ k < 7) → Q (.error "java/lang/IllegalArgumentException") (56 + ζ, g + 1, i, q, RT true))
    (hQ : ∀ k, x = nI k → k < 7 → Q (.ok (some (.int (if k = 0 then i 1 7 else if k = 1 then i 1 8 else if k = 2 then (if b = 1 then i 16 6 else nI 0) else if k = 3 then (if b = 1 then i 16 7 else nI 0) else if k = 4 then (if b = 1 then nI f else nI 0) else if k = 5 then i 51 2 else i 32 6)))) (56 + ζ, g, i, q, RT true)) :
    Wx m_Works_count 0 [some (.ref 0), some (.int x)] [] (56 + ζ, g, i, q, RT true) (1, 6) Q := by
  by_cases hk : ∃ k, x = nI k ∧ k < 7
  · obtain ⟨k, rfl, hk2⟩ := hk
    have hQ := hQ k rfl hk2
    by_cases b0 : b = 0
    · rcases (show k = 0 ∨ k = 1 ∨ k = 2 ∨ k = 3 ∨ k = 4 ∨ k = 5 ∨ k = 6 by omega) with rfl | rfl | rfl | rfl | rfl | rfl | rfl
      ·
        refine ex_iload_n (i := 1) dX9_count_0 rfl rfl ?_
        refine ex_tableIn (off := 43) (tgt := 44) dX9_count_1 (by decide) (by decide) (by decide) (by decide) ?_
        refine ex_aload_n (i := 0) dX9_count_44 rfl rfl ?_
        refine ex_getR (v := .ref (1)) dX9_count_45 fl_Works_12 rfl rfl (l56 (by decide)) rfl ?_
        refine ex_cV (ν := m_Grammar_size) (a := 1) (ci := 1) (as := []) dX9_count_48 ln_Works_86 mf_Grammar_size rfl (l56 (by decide)) rfl rfl np_Grammar_size rfl rfl ⟨(Nat.le_of_ble_eq_true rfl), (Nat.le_of_ble_eq_true rfl), (Nat.le_of_ble_eq_true rfl), (Nat.le_of_ble_eq_true rfl)⟩ (by decide) ?_
        refine sp_Grammar_size ?_
        refine ⟨_, rfl, ?_⟩
        refine ex_K0 ?_
        refine ex_iret dX9_count_51 rfl rfl ?_
        simpa [b0] using hQ
      ·
        refine ex_iload_n (i := 1) dX9_count_0 rfl rfl ?_
        refine ex_tableIn (off := 51) (tgt := 52) dX9_count_1 (by decide) (by decide) (by decide) (by decide) ?_
        refine ex_aload_n (i := 0) dX9_count_52 rfl rfl ?_
        refine ex_getR (v := .ref (1)) dX9_count_53 fl_Works_12 rfl rfl (l56 (by decide)) rfl ?_
        refine ex_cV (ν := m_Grammar_equations) (a := 1) (ci := 1) (as := []) dX9_count_56 ln_Works_245 mf_Grammar_equations rfl (l56 (by decide)) rfl rfl np_Grammar_equations rfl rfl ⟨(Nat.le_of_ble_eq_true rfl), (Nat.le_of_ble_eq_true rfl), (Nat.le_of_ble_eq_true rfl), (Nat.le_of_ble_eq_true rfl)⟩ (by decide) ?_
        refine sp_Grammar_equations ?_
        refine ⟨_, rfl, ?_⟩
        refine ex_K0 ?_
        refine ex_iret dX9_count_59 rfl rfl ?_
        simpa [b0] using hQ
      ·
        refine ex_iload_n (i := 1) dX9_count_0 rfl rfl ?_
        refine ex_tableIn (off := 59) (tgt := 60) dX9_count_1 (by decide) (by decide) (by decide) (by decide) ?_
        refine ex_aload_n (i := 0) dX9_count_60 rfl rfl ?_
        refine ex_getI dX9_count_61 fl_Works_58 rfl rfl (l56 (by decide)) ?_
        refine ex_asN (a := b) h7 ?_
        refine ex_if_eqN (tgt := 77) dX9_count_64 (by decide) (by omega) (fun h64 => ?_) (fun h64 => by exact absurd b0 h64)
        refine ex_iconst (v := nI 0) dX9_count_77 (by decide) ?_
        refine ex_K0 ?_
        refine ex_iret dX9_count_78 rfl rfl ?_
        simpa [b0] using hQ
      ·
        refine ex_iload_n (i := 1) dX9_count_0 rfl rfl ?_
        refine ex_tableIn (off := 78) (tgt := 79) dX9_count_1 (by decide) (by decide) (by decide) (by decide) ?_
        refine ex_aload_n (i := 0) dX9_count_79 rfl rfl ?_
        refine ex_getI dX9_count_80 fl_Works_58 rfl rfl (l56 (by decide)) ?_
        refine ex_asN (a := b) h7 ?_
        refine ex_if_eqN (tgt := 96) dX9_count_83 (by decide) (by omega) (fun h83 => ?_) (fun h83 => by exact absurd b0 h83)
        refine ex_iconst (v := nI 0) dX9_count_96 (by decide) ?_
        refine ex_K0 ?_
        refine ex_iret dX9_count_97 rfl rfl ?_
        simpa [b0] using hQ
      ·
        refine ex_iload_n (i := 1) dX9_count_0 rfl rfl ?_
        refine ex_tableIn (off := 97) (tgt := 98) dX9_count_1 (by decide) (by decide) (by decide) (by decide) ?_
        refine ex_aload_n (i := 0) dX9_count_98 rfl rfl ?_
        refine ex_getI dX9_count_99 fl_Works_58 rfl rfl (l56 (by decide)) ?_
        refine ex_asN (a := b) h7 ?_
        refine ex_if_eqN (tgt := 119) dX9_count_102 (by decide) (by omega) (fun h102 => ?_) (fun h102 => by exact absurd b0 h102)
        refine ex_iconst (v := nI 0) dX9_count_119 (by decide) ?_
        refine ex_K0 ?_
        refine ex_iret dX9_count_120 rfl rfl ?_
        simpa [b0] using hQ
      ·
        refine ex_iload_n (i := 1) dX9_count_0 rfl rfl ?_
        refine ex_tableIn (off := 120) (tgt := 121) dX9_count_1 (by decide) (by decide) (by decide) (by decide) ?_
        refine ex_aload_n (i := 0) dX9_count_121 rfl rfl ?_
        refine ex_getR (v := .ref (51)) dX9_count_122 fl_Works_51 rfl rfl (l56 (by decide)) rfl ?_
        refine ex_cV (ν := m_Tree_size) (a := 51) (ci := 8) (as := []) dX9_count_125 ln_Works_225 mf_Tree_size rfl (l56 (by decide)) rfl rfl np_Tree_size rfl rfl ⟨(Nat.le_of_ble_eq_true rfl), (Nat.le_of_ble_eq_true rfl), (Nat.le_of_ble_eq_true rfl), (Nat.le_of_ble_eq_true rfl)⟩ (by decide) ?_
        refine sp_Tree_size_51 ?_
        refine ⟨_, rfl, ?_⟩
        refine ex_K0 ?_
        refine ex_iret dX9_count_128 rfl rfl ?_
        simpa [b0] using hQ
      ·
        refine ex_iload_n (i := 1) dX9_count_0 rfl rfl ?_
        refine ex_tableIn (off := 128) (tgt := 129) dX9_count_1 (by decide) (by decide) (by decide) (by decide) ?_
        refine ex_aload_n (i := 0) dX9_count_129 rfl rfl ?_
        refine ex_getR (v := .ref (32)) dX9_count_130 fl_Works_37 rfl rfl (l56 (by decide)) rfl ?_
        refine ex_cV (ν := m_Parser_size) (a := 32) (ci := 4) (as := []) dX9_count_133 ln_Works_194 mf_Parser_size rfl (l56 (by decide)) rfl rfl np_Parser_size rfl rfl ⟨(Nat.le_of_ble_eq_true rfl), (Nat.le_of_ble_eq_true rfl), (Nat.le_of_ble_eq_true rfl), (Nat.le_of_ble_eq_true rfl)⟩ (by decide) ?_
        refine sp_Parser_size ?_
        refine ⟨_, rfl, ?_⟩
        refine ex_K0 ?_
        refine ex_iret dX9_count_136 rfl rfl ?_
        simpa [b0] using hQ
    · have b1 : b = 1 := by omega
      obtain ⟨f1, f2⟩ := hf b1
      rcases (show k = 0 ∨ k = 1 ∨ k = 2 ∨ k = 3 ∨ k = 4 ∨ k = 5 ∨ k = 6 by omega) with rfl | rfl | rfl | rfl | rfl | rfl | rfl
      ·
        refine ex_iload_n (i := 1) dX9_count_0 rfl rfl ?_
        refine ex_tableIn (off := 43) (tgt := 44) dX9_count_1 (by decide) (by decide) (by decide) (by decide) ?_
        refine ex_aload_n (i := 0) dX9_count_44 rfl rfl ?_
        refine ex_getR (v := .ref (1)) dX9_count_45 fl_Works_12 rfl rfl (l56 (by decide)) rfl ?_
        refine ex_cV (ν := m_Grammar_size) (a := 1) (ci := 1) (as := []) dX9_count_48 ln_Works_86 mf_Grammar_size rfl (l56 (by decide)) rfl rfl np_Grammar_size rfl rfl ⟨(Nat.le_of_ble_eq_true rfl), (Nat.le_of_ble_eq_true rfl), (Nat.le_of_ble_eq_true rfl), (Nat.le_of_ble_eq_true rfl)⟩ (by decide) ?_
        refine sp_Grammar_size ?_
        refine ⟨_, rfl, ?_⟩
        refine ex_K0 ?_
        refine ex_iret dX9_count_51 rfl rfl ?_
        simpa [b1] using hQ
      ·
        refine ex_iload_n (i := 1) dX9_count_0 rfl rfl ?_
        refine ex_tableIn (off := 51) (tgt := 52) dX9_count_1 (by decide) (by decide) (by decide) (by decide) ?_
        refine ex_aload_n (i := 0) dX9_count_52 rfl rfl ?_
        refine ex_getR (v := .ref (1)) dX9_count_53 fl_Works_12 rfl rfl (l56 (by decide)) rfl ?_
        refine ex_cV (ν := m_Grammar_equations) (a := 1) (ci := 1) (as := []) dX9_count_56 ln_Works_245 mf_Grammar_equations rfl (l56 (by decide)) rfl rfl np_Grammar_equations rfl rfl ⟨(Nat.le_of_ble_eq_true rfl), (Nat.le_of_ble_eq_true rfl), (Nat.le_of_ble_eq_true rfl), (Nat.le_of_ble_eq_true rfl)⟩ (by decide) ?_
        refine sp_Grammar_equations ?_
        refine ⟨_, rfl, ?_⟩
        refine ex_K0 ?_
        refine ex_iret dX9_count_59 rfl rfl ?_
        simpa [b1] using hQ
      ·
        refine ex_iload_n (i := 1) dX9_count_0 rfl rfl ?_
        refine ex_tableIn (off := 59) (tgt := 60) dX9_count_1 (by decide) (by decide) (by decide) (by decide) ?_
        refine ex_aload_n (i := 0) dX9_count_60 rfl rfl ?_
        refine ex_getI dX9_count_61 fl_Works_58 rfl rfl (l56 (by decide)) ?_
        refine ex_asN (a := b) h7 ?_
        refine ex_if_eqN (tgt := 77) dX9_count_64 (by decide) (by omega) (fun h64 => by exact absurd h64 b0) (fun h64 => ?_)
        refine ex_aload_n (i := 0) dX9_count_67 rfl rfl ?_
        refine ex_getR (v := .ref (16)) dX9_count_68 fl_Works_21 rfl rfl (l56 (by decide)) rfl ?_
        refine ex_cV (ν := m_States_size) (a := 16) (ci := 7) (as := []) dX9_count_71 ln_Works_163 mf_States_size rfl (l56 (by decide)) rfl rfl np_States_size rfl rfl ⟨(Nat.le_of_ble_eq_true rfl), (Nat.le_of_ble_eq_true rfl), (Nat.le_of_ble_eq_true rfl), (Nat.le_of_ble_eq_true rfl)⟩ (by decide) ?_
        refine sp_States_size ?_
        refine ⟨_, rfl, ?_⟩
        refine ex_goto (tgt := 78) dX9_count_74 (by decide) ?_
        refine ex_K0 ?_
        refine ex_iret dX9_count_78 rfl rfl ?_
        simpa [b1] using hQ
      ·
        refine ex_iload_n (i := 1) dX9_count_0 rfl rfl ?_
        refine ex_tableIn (off := 78) (tgt := 79) dX9_count_1 (by decide) (by decide) (by decide) (by decide) ?_
        refine ex_aload_n (i := 0) dX9_count_79 rfl rfl ?_
        refine ex_getI dX9_count_80 fl_Works_58 rfl rfl (l56 (by decide)) ?_
        refine ex_asN (a := b) h7 ?_
        refine ex_if_eqN (tgt := 96) dX9_count_83 (by decide) (by omega) (fun h83 => by exact absurd h83 b0) (fun h83 => ?_)
        refine ex_aload_n (i := 0) dX9_count_86 rfl rfl ?_
        refine ex_getR (v := .ref (16)) dX9_count_87 fl_Works_21 rfl rfl (l56 (by decide)) rfl ?_
        refine ex_cV (ν := m_States_conflicts) (a := 16) (ci := 7) (as := []) dX9_count_90 ln_Works_200 mf_States_conflicts rfl (l56 (by decide)) rfl rfl np_States_conflicts rfl rfl ⟨(Nat.le_of_ble_eq_true rfl), (Nat.le_of_ble_eq_true rfl), (Nat.le_of_ble_eq_true rfl), (Nat.le_of_ble_eq_true rfl)⟩ (by decide) ?_
        refine sp_States_conflicts ?_
        refine ⟨_, rfl, ?_⟩
        refine ex_goto (tgt := 97) dX9_count_93 (by decide) ?_
        refine ex_K0 ?_
        refine ex_iret dX9_count_97 rfl rfl ?_
        simpa [b1] using hQ
      ·
        refine ex_iload_n (i := 1) dX9_count_0 rfl rfl ?_
        refine ex_tableIn (off := 97) (tgt := 98) dX9_count_1 (by decide) (by decide) (by decide) (by decide) ?_
        refine ex_aload_n (i := 0) dX9_count_98 rfl rfl ?_
        refine ex_getI dX9_count_99 fl_Works_58 rfl rfl (l56 (by decide)) ?_
        refine ex_asN (a := b) h7 ?_
        refine ex_if_eqN (tgt := 119) dX9_count_102 (by decide) (by omega) (fun h102 => by exact absurd h102 b0) (fun h102 => ?_)
        refine ex_aload_n (i := 0) dX9_count_105 rfl rfl ?_
        refine ex_getR (v := .ref (27)) dX9_count_106 fl_Works_28 rfl rfl (l56 (by decide)) rfl ?_
        refine ex_cV (ν := m_Rings_areFound) (a := 27) (ci := 5) (as := []) dX9_count_109 ln_Works_205 mf_Rings_areFound rfl (l56 (by decide)) rfl rfl np_Rings_areFound rfl rfl ⟨(Nat.le_of_ble_eq_true rfl), (Nat.le_of_ble_eq_true rfl), (Nat.le_of_ble_eq_true rfl), (Nat.le_of_ble_eq_true rfl)⟩ (by decide) ?_
        refine sp_Rings_areFound (by rw [f1]; rcases (show f = 0 ∨ f = 1 by omega) with rfl | rfl <;> decide) ?_
        refine ⟨_, rfl, ?_⟩
        refine ex_asN (a := f) f1 ?_
        refine ex_if_eqN (tgt := 119) dX9_count_112 (by decide) (by omega) (fun h112 => ?_) (fun h112 => ?_)
        · refine ex_iconst (v := nI 0) dX9_count_119 (by decide) ?_
          refine ex_K0 ?_
          refine ex_iret dX9_count_120 rfl rfl ?_
          first | (have e : f = 0 := h112; subst e; simpa [b1] using hQ) | (have e : f = 1 := (by omega); subst e; simpa [b1] using hQ)
        · refine ex_iconst (v := nI 1) dX9_count_115 (by decide) ?_
          refine ex_goto (tgt := 120) dX9_count_116 (by decide) ?_
          refine ex_K0 ?_
          refine ex_iret dX9_count_120 rfl rfl ?_
          first | (have e : f = 0 := h112; subst e; simpa [b1] using hQ) | (have e : f = 1 := (by omega); subst e; simpa [b1] using hQ)
      ·
        refine ex_iload_n (i := 1) dX9_count_0 rfl rfl ?_
        refine ex_tableIn (off := 120) (tgt := 121) dX9_count_1 (by decide) (by decide) (by decide) (by decide) ?_
        refine ex_aload_n (i := 0) dX9_count_121 rfl rfl ?_
        refine ex_getR (v := .ref (51)) dX9_count_122 fl_Works_51 rfl rfl (l56 (by decide)) rfl ?_
        refine ex_cV (ν := m_Tree_size) (a := 51) (ci := 8) (as := []) dX9_count_125 ln_Works_225 mf_Tree_size rfl (l56 (by decide)) rfl rfl np_Tree_size rfl rfl ⟨(Nat.le_of_ble_eq_true rfl), (Nat.le_of_ble_eq_true rfl), (Nat.le_of_ble_eq_true rfl), (Nat.le_of_ble_eq_true rfl)⟩ (by decide) ?_
        refine sp_Tree_size_51 ?_
        refine ⟨_, rfl, ?_⟩
        refine ex_K0 ?_
        refine ex_iret dX9_count_128 rfl rfl ?_
        simpa [b1] using hQ
      ·
        refine ex_iload_n (i := 1) dX9_count_0 rfl rfl ?_
        refine ex_tableIn (off := 128) (tgt := 129) dX9_count_1 (by decide) (by decide) (by decide) (by decide) ?_
        refine ex_aload_n (i := 0) dX9_count_129 rfl rfl ?_
        refine ex_getR (v := .ref (32)) dX9_count_130 fl_Works_37 rfl rfl (l56 (by decide)) rfl ?_
        refine ex_cV (ν := m_Parser_size) (a := 32) (ci := 4) (as := []) dX9_count_133 ln_Works_194 mf_Parser_size rfl (l56 (by decide)) rfl rfl np_Parser_size rfl rfl ⟨(Nat.le_of_ble_eq_true rfl), (Nat.le_of_ble_eq_true rfl), (Nat.le_of_ble_eq_true rfl), (Nat.le_of_ble_eq_true rfl)⟩ (by decide) ?_
        refine sp_Parser_size ?_
        refine ⟨_, rfl, ?_⟩
        refine ex_K0 ?_
        refine ex_iret dX9_count_136 rfl rfl ?_
        simpa [b1] using hQ
  ·
    refine ex_iload_n (i := 1) dX9_count_0 rfl rfl ?_
    refine ex_tableOut (tgt := 137) dX9_count_1 (Classical.byContradiction fun z => hk (by have := nI_of (x := x) (fun y => by have := Int32.lt_iff_toInt_lt.mp y; simp at this; omega); obtain ⟨k, k1, rfl⟩ := this; rw [nI_toInt k1] at z; exact ⟨k, rfl, by omega⟩)) (by decide) ?_
    refine ex_throw th_Works_count_137 (by decide) ?_
    exact hX hk
end S53
