/-! ===== the reference: copy ===== -/
/-- the tree of the machine of numbers, as copy reads it -/
def CW (md nt : Nat) (nd tk : Nat → Int32) (tb : Nat → Bool) (rl : Nat → Nat) (pa : Nat → Option (Nat × Nat)) (ch : Nat → Nat → Nat) : Prop :=
  md ≤ 150 ∧ ∀ j, j < md → (tb j = true → nd (j * 8 + 1) = -1 ∧ ∃ b, b < nt ∧ tk j = nI b) ∧ (tb j = false → nd (j * 8 + 1) = nI (rl j) ∧ rl j < 14) ∧ (pa j = none → nd (j * 8 + 2) = -1) ∧ (∀ p k, pa j = some (p, k) → nd (j * 8 + 2) = nI p ∧ nd (j * 8 + 3) = nI k ∧ p < md ∧ 1 ≤ k ∧ k ≤ 4 ∧ ch p k = j)
section S77
variable {g : Nat} {i : Nat → Nat → Int32} {q : Nat → Nat → Int64} {t : Bool} {Q : xRes → xMem → Prop} {md nt : Nat} {nd tk : Nat → Int32} {tb : Nat → Bool} {rl : Nat → Nat} {pa : Nat → Option (Nat × Nat)} {ch : Nat → Nat → Nat}
/-- the first m nodes copied -/
def cpI (m nt : Nat) (nd tk : Nat → Int32) (tb : Nat → Bool) (pa : Nat → Option (Nat × Nat)) (i i1 : Nat → Nat → Int32) (q q1 : Nat → Nat → Int64) : Prop :=
  (∀ c, c ≠ 91 → q1 c = q c) ∧ ∀ j, j < m → (i1 86 j = nd (j * 8 + 0) ∧ i1 87 j = nd (j * 8 + 1) ∧ i1 88 j = nd (j * 8 + 2) ∧ i1 89 j = nd (j * 8 + 3)) ∧ (∀ p k, pa j = some (p, k) → i1 90 (4 * p + k - 1) = nI j) ∧ (∀ a, a < 3 → i1 92 (3 * j + a) = nI (if tb j = true then 1 else 0)) ∧
    (tb j = false → q1 91 (3 * j) = 0 ∧ q1 91 (3 * j + 1) = 0 ∧ q1 91 (3 * j + 2) = 0) ∧ (tb j = true → ∀ b, b < nt → tk j = nI b → q1 91 (3 * j) = (i 78 b).toInt64 ∧ q1 91 (3 * j + 1) = (nI b).toInt64 ∧ q1 91 (3 * j + 2) = 0)
theorem sp_Model_copy (hw : CW md nt nd tk tb rl pa ch) (hnt : nt ≤ 40) (h35 : i 56 35 = nI md) (hwk : WK md nd tk i)
    (hQ : ∀ i1 q1, Fm [86, 87, 88, 89, 90, 92] [43] i i1 → i1 56 43 = nI md → cpI md nt nd tk tb pa i i1 q q1 → Q (.ok none) (94, g, i1, q1, RT t)) :
    Wx m_Model_copy 0 [some (.ref 56), none, none] [] (94, g, i, q, RT t) (0, 0) Q := by
  have h150 := hw.1
  have ML2 : ∀ d m i1 q1, m + d = md → Fm [86, 87, 88, 89, 90, 92] [43] i i1 → i1 56 43 = nI md → cpI m nt nd tk tb pa i i1 q q1 → Wx m_Model_copy 32 [some (.ref 56), some (.int (nI m)), none] [] (94, g, i1, q1, RT t) (0, 0) Q := by
    intro d
    induction d with
    | zero =>
      intro m i1 q1 hm hf h43 hc
      have e : m = md := hm
      subst e
      refine ex_iload_n (i := 1) dX10_copy_32 rfl rfl ?_
      refine ex_aload_n (i := 0) dX10_copy_33 rfl rfl ?_
      refine ex_getI dX10_copy_34 fl_Model_234 rfl rfl (by decide) ?_
      refine ex_asN (a := m) h43 ?_
      refine ex_icmp_geN (tgt := 220) dX10_copy_37 (by decide) (by omega) (by omega) (fun h37 => ?_) (fun h37 => by omega)
      refine ex_ret dX10_copy_220 rfl ?_
      exact hQ i1 q1 hf h43 hc
    | succ d ih =>
      intro m i1 q1 hm hf h43 hc
      have hmd : m < md := by omega
      obtain ⟨w1, w2, w3, w4, w5⟩ := hwk m hmd
      have e81 : i1 81 m = nd (m * 8 + 0) := by rw [hf.1 81 (by decide) (by decide)]; exact w1
      have e82 : i1 82 m = nd (m * 8 + 1) := by rw [hf.1 82 (by decide) (by decide)]; exact w2
      have e83 : i1 83 m = nd (m * 8 + 2) := by rw [hf.1 83 (by decide) (by decide)]; exact w3
      have e84 : i1 84 m = nd (m * 8 + 3) := by rw [hf.1 84 (by decide) (by decide)]; exact w4
      have e85 : i1 85 m = tk m := by rw [hf.1 85 (by decide) (by decide)]; exact w5
      obtain ⟨t1, t2, t3, t4⟩ := hw.2 m hmd
      -- the rows of node m are written, the others stay
      have NX : ∀ i2 q2, Fm [86, 87, 88, 89, 90, 92] [43] i i2 → i2 56 43 = nI md → i2 86 = upd (i1 86) m (nd (m * 8 + 0)) → i2 87 = upd (i1 87) m (nd (m * 8 + 1)) → i2 88 = upd (i1 88) m (nd (m * 8 + 2)) → i2 89 = upd (i1 89) m (nd (m * 8 + 3)) →
          ((pa m = none ∧ i2 90 = i1 90) ∨ ∃ p k, pa m = some (p, k) ∧ i2 90 = upd (i1 90) (4 * p + k - 1) (nI m)) → (∀ s, ¬ (3 * m ≤ s ∧ s < 3 * m + 3) → i2 92 s = i1 92 s) → (∀ a, a < 3 → i2 92 (3 * m + a) = nI (if tb m = true then 1 else 0)) → (∀ c, c ≠ 91 → q2 c = q1 c) → (∀ s, ¬ (3 * m ≤ s ∧ s < 3 * m + 3) → q2 91 s = q1 91 s) →
          (tb m = false → q2 91 (3 * m) = 0 ∧ q2 91 (3 * m + 1) = 0 ∧ q2 91 (3 * m + 2) = 0) → (tb m = true → ∀ b, b < nt → tk m = nI b → q2 91 (3 * m) = (i 78 b).toInt64 ∧ q2 91 (3 * m + 1) = (nI b).toInt64 ∧ q2 91 (3 * m + 2) = 0) → Wx m_Model_copy 32 [some (.ref 56), some (.int (nI (m + 1))), none] [] (94, g, i2, q2, RT t) (0, 0) Q := by
        intro i2 q2 f0 f43 f86 f87 f88 f89 f90 f92 f92m fq fq2 fn ft
        refine ih (m + 1) i2 q2 (by omega) f0 f43 ⟨fun c hcn => (fq c hcn).trans (hc.1 c hcn), fun j hj => ?_⟩
        by_cases e : j = m
        · subst e
          refine ⟨?_, fun p k hpk => ?_, f92m, fn, ft⟩
          · rw [f86, f87, f88, f89]; unfold upd
            rw [if_pos rfl, if_pos rfl, if_pos rfl, if_pos rfl]; exact ⟨rfl, rfl, rfl, rfl⟩
          · rcases f90 with ⟨z, _⟩ | ⟨p', k', z, z2⟩
            · rw [z] at hpk; exact absurd hpk (by simp)
            · rw [z] at hpk; cases hpk
              rw [z2]; unfold upd; rw [if_pos rfl]
        · obtain ⟨c1, c2, c3, c4, c5⟩ := hc.2 j (by omega)
          refine ⟨?_, fun p k hpk => ?_, fun a ha => ?_, fun hb => ?_, fun hb b hbn hbt => ?_⟩
          · rw [f86, f87, f88, f89]; unfold upd
            rw [if_neg e, if_neg e, if_neg e, if_neg e]; exact c1
          · rcases f90 with ⟨_, z2⟩ | ⟨p', k', z, z2⟩
            · rw [z2]; exact c2 p k hpk
            · rw [z2]; unfold upd
              obtain ⟨_, _, _, k1, k4, hch⟩ := (hw.2 j (by omega)).2.2.2 p k hpk
              obtain ⟨_, _, _, k1', k4', hch'⟩ := t4 p' k' z
              rw [if_neg (fun y => by
                have e1 : p = p' := by omega
                have e2 : k = k' := by omega
                rw [e1, e2, hch'] at hch; exact e hch.symm)]
              exact c2 p k hpk
          · rw [f92 _ (by omega)]; exact c3 a ha
          · rw [fq2 _ (by omega), fq2 _ (by omega), fq2 _ (by omega)]; exact c4 hb
          · rw [fq2 _ (by omega), fq2 _ (by omega), fq2 _ (by omega)]; exact c5 hb b hbn hbt
      have tok3 : ∀ (v : Int32) (h : Nat → Int32) (a : Nat), a < 3 → upd (upd (upd h (3 * m + 0) v) (3 * m + 1) v) (3 * m + 2) v (3 * m + a) = v := by
        intro v h a ha
        unfold upd
        rcases (show a = 0 ∨ a = 1 ∨ a = 2 by omega) with rfl | rfl | rfl
        · rw [if_neg (by omega), if_neg (by omega), if_pos rfl]
        · rw [if_neg (by omega), if_pos rfl]
        · rw [if_pos rfl]
      have out3 : ∀ (v : Int32) (h : Nat → Int32) (s : Nat), ¬ (3 * m ≤ s ∧ s < 3 * m + 3) → upd (upd (upd h (3 * m + 0) v) (3 * m + 1) v) (3 * m + 2) v s = h s := by
        intro v h s hs
        unfold upd
        rw [if_neg (by omega), if_neg (by omega), if_neg (by omega)]
      cases htb : tb m with
      | true =>
        obtain ⟨n1, b, hb, hbt⟩ := t1 htb
        have e82' : i1 82 m = -1 := e82.trans n1
        have e85' : i1 85 m = nI b := e85.trans hbt
        have e78 : i1 78 b = i 78 b := by rw [hf.1 78 (by decide) (by decide)]
        have FIN : ∀ i2 q2, Fm [86, 87, 88, 89, 90, 92] [43] i i2 → i2 56 43 = nI md → i2 86 = upd (i1 86) m (nd (m * 8 + 0)) → i2 87 = upd (i1 87) m (-1) → i2 88 = upd (i1 88) m (nd (m * 8 + 2)) → i2 89 = upd (i1 89) m (nd (m * 8 + 3)) →
          ((pa m = none ∧ i2 90 = i1 90) ∨ ∃ p k, pa m = some (p, k) ∧ i2 90 = upd (i1 90) (4 * p + k - 1) (nI m)) → i2 92 = upd (upd (upd (i1 92) (3 * m + 0) (nI 1)) (3 * m + 1) (nI 1)) (3 * m + 2) (nI 1) → q2 = xUL (xUL (xUL (xUL (xUL q1 91 (3 * m + 0) 0) 91 (3 * m + 1) 0) 91 (3 * m + 2) 0) 91 (3 * m) (i 78 b).toInt64) 91 (3 * m + 1) (nI b).toInt64 → Wx m_Model_copy 32 [some (.ref 56), some (.int (nI (m + 1))), none] [] (94, g, i2, q2, RT t) (0, 0) Q := by
          intro i2 q2 a0 a1 a2 a3 a4 a5 a6 a7 a8
          refine NX i2 q2 a0 a1 a2 (by rw [a3, n1]) a4 a5 a6 (fun s hs => by rw [a7]; exact out3 _ _ s hs) (fun a ha => by rw [a7, tok3 _ _ a ha, if_pos htb]) (fun c hcn => ?_) (fun s hs => ?_) (fun z => ?_) (fun _ b' hb' hbt' => ?_)
          · rw [a8, xUL_ne _ _ _ hcn, xUL_ne _ _ _ hcn, xUL_ne _ _ _ hcn, xUL_ne _ _ _ hcn, xUL_ne _ _ _ hcn]
          · rw [a8]; simp only [xUL_at]; unfold vp_updL
            rw [if_neg (by omega), if_neg (by omega), if_neg (by omega), if_neg (by omega), if_neg (by omega)]
          · rw [htb] at z; cases z
          · have eb : b' = b := by
              rw [hbt] at hbt'
              exact ((nI_eq (by omega) (by omega)).mp hbt').symm
            rw [eb, a8]; simp only [xUL_at]; unfold vp_updL
            refine ⟨?_, ?_, ?_⟩
            · rw [if_neg (by omega), if_pos rfl]
            · rw [if_pos rfl]
            · rw [if_neg (by omega), if_neg (by omega), if_pos rfl]
        cases hpa : pa m with
        | none =>
          have e83' : i1 83 m = -1 := e83.trans (t3 hpa)
          refine ex_iload_n (i := 1) dX10_copy_32 rfl rfl ?_
          refine ex_aload_n (i := 0) dX10_copy_33 rfl rfl ?_
          refine ex_getI dX10_copy_34 fl_Model_234 rfl rfl (by decide) ?_
          refine ex_asN (a := md) h43 ?_
          refine ex_icmp_geN (tgt := 220) dX10_copy_37 (by decide) (by omega) (by omega) (fun h37 => by omega) (fun h37 => ?_)
          refine ex_aload_n (i := 0) dX10_copy_40 rfl rfl ?_
          refine ex_getR (v := .ref (86)) dX10_copy_41 fl_Model_98 rfl rfl (by decide) rfl ?_
          refine ex_iload_n (i := 1) dX10_copy_44 rfl rfl ?_
          refine ex_aload_n (i := 0) dX10_copy_45 rfl rfl ?_
          refine ex_getR (v := .ref (81)) dX10_copy_46 fl_Model_83 rfl rfl (by decide) rfl ?_
          refine ex_iload_n (i := 1) dX10_copy_49 rfl rfl ?_
          refine ex_ialdN dX10_copy_50 rfl (by decide) (by omega) rfl ?_
          refine ex_asI (y := nd (m * 8 + 0)) e81 ?_
          refine ex_iastN dX10_copy_51 rfl (by decide) (by omega) ?_
          refine ex_aload_n (i := 0) dX10_copy_52 rfl rfl ?_
          refine ex_getR (v := .ref (87)) dX10_copy_53 fl_Model_101 rfl rfl (by decide) rfl ?_
          refine ex_iload_n (i := 1) dX10_copy_56 rfl rfl ?_
          refine ex_aload_n (i := 0) dX10_copy_57 rfl rfl ?_
          refine ex_getR (v := .ref (82)) dX10_copy_58 fl_Model_86 rfl rfl (by decide) rfl ?_
          refine ex_iload_n (i := 1) dX10_copy_61 rfl rfl ?_
          refine ex_ialdN dX10_copy_62 rfl (by decide) (by omega) rfl ?_
          refine ex_asI (y := (-1)) e82' ?_
          refine ex_iastN dX10_copy_63 rfl (by decide) (by omega) ?_
          refine ex_aload_n (i := 0) dX10_copy_64 rfl rfl ?_
          refine ex_getR (v := .ref (88)) dX10_copy_65 fl_Model_104 rfl rfl (by decide) rfl ?_
          refine ex_iload_n (i := 1) dX10_copy_68 rfl rfl ?_
          refine ex_aload_n (i := 0) dX10_copy_69 rfl rfl ?_
          refine ex_getR (v := .ref (83)) dX10_copy_70 fl_Model_89 rfl rfl (by decide) rfl ?_
          refine ex_iload_n (i := 1) dX10_copy_73 rfl rfl ?_
          refine ex_ialdN dX10_copy_74 rfl (by decide) (by omega) rfl ?_
          refine ex_asI (y := (-1)) e83' ?_
          refine ex_iastN dX10_copy_75 rfl (by decide) (by omega) ?_
          refine ex_aload_n (i := 0) dX10_copy_76 rfl rfl ?_
          refine ex_getR (v := .ref (89)) dX10_copy_77 fl_Model_107 rfl rfl (by decide) rfl ?_
          refine ex_iload_n (i := 1) dX10_copy_80 rfl rfl ?_
          refine ex_aload_n (i := 0) dX10_copy_81 rfl rfl ?_
          refine ex_getR (v := .ref (84)) dX10_copy_82 fl_Model_92 rfl rfl (by decide) rfl ?_
          refine ex_iload_n (i := 1) dX10_copy_85 rfl rfl ?_
          refine ex_ialdN dX10_copy_86 rfl (by decide) (by omega) rfl ?_
          refine ex_asI (y := nd (m * 8 + 3)) e84 ?_
          refine ex_iastN dX10_copy_87 rfl (by decide) (by omega) ?_
          refine ex_aload_n (i := 0) dX10_copy_88 rfl rfl ?_
          refine ex_getR (v := .ref (88)) dX10_copy_89 fl_Model_104 rfl rfl (by decide) rfl ?_
          refine ex_iload_n (i := 1) dX10_copy_92 rfl rfl ?_
          refine ex_ialdN dX10_copy_93 rfl (by decide) (by omega) rfl ?_
          refine ex_asI (y := (-1)) (by first | rfl | simp [xU, upd]) ?_
          refine ex_if_lt (tgt := 120) dX10_copy_94 (by decide) (fun h94 => ?_) (fun h94 => by exact absurd (by decide) h94)
          refine ex_iconst (v := nI 0) dX10_copy_120 (by decide) ?_
          refine ex_istore_n (L' := [some (.ref (56)), some (.int (nI (m))), some (.int (nI (0)))]) dX10_copy_121 (i := 2) rfl (by decide) rfl ?_
          refine ex_iload_n (i := 2) dX10_copy_122 rfl rfl ?_
          refine ex_iconst (v := nI 3) dX10_copy_123 (by decide) ?_
          refine ex_icmp_geN (tgt := 168) dX10_copy_124 (by decide) (by decide) (by decide) (fun h124 => by exact absurd h124 (by decide)) (fun h124 => ?_)
          refine ex_aload_n (i := 0) dX10_copy_127 rfl rfl ?_
          refine ex_getR (v := .ref (92)) dX10_copy_128 fl_Model_117 rfl rfl (by decide) rfl ?_
          refine ex_iconst (v := nI 3) dX10_copy_131 (by decide) ?_
          refine ex_iload_n (i := 1) dX10_copy_132 rfl rfl ?_
          refine ex_imulN dX10_copy_133 ?_
          refine ex_iload_n (i := 2) dX10_copy_134 rfl rfl ?_
          refine ex_iaddN dX10_copy_135 ?_
          refine ex_aload_n (i := 0) dX10_copy_136 rfl rfl ?_
          refine ex_getR (v := .ref (87)) dX10_copy_137 fl_Model_101 rfl rfl (by decide) rfl ?_
          refine ex_iload_n (i := 1) dX10_copy_140 rfl rfl ?_
          refine ex_ialdN dX10_copy_141 rfl (by decide) (by omega) rfl ?_
          refine ex_asI (y := (-1)) (by first | rfl | simp [xU, upd]) ?_
          refine ex_if_ge (tgt := 149) dX10_copy_142 (by decide) (fun h142 => by exact absurd h142 (by decide)) (fun h142 => ?_)
          refine ex_iconst (v := nI 1) dX10_copy_145 (by decide) ?_
          refine ex_goto (tgt := 150) dX10_copy_146 (by decide) ?_
          refine ex_bastN dX10_copy_150 rfl (by decide) (by decide) (by omega) ?_
          refine ex_aload_n (i := 0) dX10_copy_151 rfl rfl ?_
          refine ex_getR (v := .ref (91)) dX10_copy_152 fl_Model_113 rfl rfl (by decide) rfl ?_
          refine ex_iconst (v := nI 3) dX10_copy_155 (by decide) ?_
          refine ex_iload_n (i := 1) dX10_copy_156 rfl rfl ?_
          refine ex_imulN dX10_copy_157 ?_
          refine ex_iload_n (i := 2) dX10_copy_158 rfl rfl ?_
          refine ex_iaddN dX10_copy_159 ?_
          refine ex_lconst (v := 0) dX10_copy_160 (by decide) ?_
          refine ex_lastN dX10_copy_161 rfl (by decide) (by omega) ?_
          refine ex_iincN (L' := [some (.ref (56)), some (.int (nI (m))), some (.int (nI (1)))]) dX10_copy_162 rfl rfl (by decide) rfl ?_
          refine ex_goto (tgt := 122) dX10_copy_165 (by decide) ?_
          refine ex_iload_n (i := 2) dX10_copy_122 rfl rfl ?_
          refine ex_iconst (v := nI 3) dX10_copy_123 (by decide) ?_
          refine ex_icmp_geN (tgt := 168) dX10_copy_124 (by decide) (by decide) (by decide) (fun h124 => by exact absurd h124 (by decide)) (fun h124 => ?_)
          refine ex_aload_n (i := 0) dX10_copy_127 rfl rfl ?_
          refine ex_getR (v := .ref (92)) dX10_copy_128 fl_Model_117 rfl rfl (by decide) rfl ?_
          refine ex_iconst (v := nI 3) dX10_copy_131 (by decide) ?_
          refine ex_iload_n (i := 1) dX10_copy_132 rfl rfl ?_
          refine ex_imulN dX10_copy_133 ?_
          refine ex_iload_n (i := 2) dX10_copy_134 rfl rfl ?_
          refine ex_iaddN dX10_copy_135 ?_
          refine ex_aload_n (i := 0) dX10_copy_136 rfl rfl ?_
          refine ex_getR (v := .ref (87)) dX10_copy_137 fl_Model_101 rfl rfl (by decide) rfl ?_
          refine ex_iload_n (i := 1) dX10_copy_140 rfl rfl ?_
          refine ex_ialdN dX10_copy_141 rfl (by decide) (by omega) rfl ?_
          refine ex_asI (y := (-1)) (by first | rfl | simp [xU, upd]) ?_
          refine ex_if_ge (tgt := 149) dX10_copy_142 (by decide) (fun h142 => by exact absurd h142 (by decide)) (fun h142 => ?_)
          refine ex_iconst (v := nI 1) dX10_copy_145 (by decide) ?_
          refine ex_goto (tgt := 150) dX10_copy_146 (by decide) ?_
          refine ex_bastN dX10_copy_150 rfl (by decide) (by decide) (by omega) ?_
          refine ex_aload_n (i := 0) dX10_copy_151 rfl rfl ?_
          refine ex_getR (v := .ref (91)) dX10_copy_152 fl_Model_113 rfl rfl (by decide) rfl ?_
          refine ex_iconst (v := nI 3) dX10_copy_155 (by decide) ?_
          refine ex_iload_n (i := 1) dX10_copy_156 rfl rfl ?_
          refine ex_imulN dX10_copy_157 ?_
          refine ex_iload_n (i := 2) dX10_copy_158 rfl rfl ?_
          refine ex_iaddN dX10_copy_159 ?_
          refine ex_lconst (v := 0) dX10_copy_160 (by decide) ?_
          refine ex_lastN dX10_copy_161 rfl (by decide) (by omega) ?_
          refine ex_iincN (L' := [some (.ref (56)), some (.int (nI (m))), some (.int (nI (2)))]) dX10_copy_162 rfl rfl (by decide) rfl ?_
          refine ex_goto (tgt := 122) dX10_copy_165 (by decide) ?_
          refine ex_iload_n (i := 2) dX10_copy_122 rfl rfl ?_
          refine ex_iconst (v := nI 3) dX10_copy_123 (by decide) ?_
          refine ex_icmp_geN (tgt := 168) dX10_copy_124 (by decide) (by decide) (by decide) (fun h124 => by exact absurd h124 (by decide)) (fun h124 => ?_)
          refine ex_aload_n (i := 0) dX10_copy_127 rfl rfl ?_
          refine ex_getR (v := .ref (92)) dX10_copy_128 fl_Model_117 rfl rfl (by decide) rfl ?_
          refine ex_iconst (v := nI 3) dX10_copy_131 (by decide) ?_
          refine ex_iload_n (i := 1) dX10_copy_132 rfl rfl ?_
          refine ex_imulN dX10_copy_133 ?_
          refine ex_iload_n (i := 2) dX10_copy_134 rfl rfl ?_
          refine ex_iaddN dX10_copy_135 ?_
          refine ex_aload_n (i := 0) dX10_copy_136 rfl rfl ?_
          refine ex_getR (v := .ref (87)) dX10_copy_137 fl_Model_101 rfl rfl (by decide) rfl ?_
          refine ex_iload_n (i := 1) dX10_copy_140 rfl rfl ?_
          refine ex_ialdN dX10_copy_141 rfl (by decide) (by omega) rfl ?_
          refine ex_asI (y := (-1)) (by first | rfl | simp [xU, upd]) ?_
          refine ex_if_ge (tgt := 149) dX10_copy_142 (by decide) (fun h142 => by exact absurd h142 (by decide)) (fun h142 => ?_)
          refine ex_iconst (v := nI 1) dX10_copy_145 (by decide) ?_
          refine ex_goto (tgt := 150) dX10_copy_146 (by decide) ?_
          refine ex_bastN dX10_copy_150 rfl (by decide) (by decide) (by omega) ?_
          refine ex_aload_n (i := 0) dX10_copy_151 rfl rfl ?_
          refine ex_getR (v := .ref (91)) dX10_copy_152 fl_Model_113 rfl rfl (by decide) rfl ?_
          refine ex_iconst (v := nI 3) dX10_copy_155 (by decide) ?_
          refine ex_iload_n (i := 1) dX10_copy_156 rfl rfl ?_
          refine ex_imulN dX10_copy_157 ?_
          refine ex_iload_n (i := 2) dX10_copy_158 rfl rfl ?_
          refine ex_iaddN dX10_copy_159 ?_
          refine ex_lconst (v := 0) dX10_copy_160 (by decide) ?_
          refine ex_lastN dX10_copy_161 rfl (by decide) (by omega) ?_
          refine ex_iincN (L' := [some (.ref (56)), some (.int (nI (m))), some (.int (nI (3)))]) dX10_copy_162 rfl rfl (by decide) rfl ?_
          refine ex_goto (tgt := 122) dX10_copy_165 (by decide) ?_
          refine ex_iload_n (i := 2) dX10_copy_122 rfl rfl ?_
          refine ex_iconst (v := nI 3) dX10_copy_123 (by decide) ?_
          refine ex_icmp_geN (tgt := 168) dX10_copy_124 (by decide) (by decide) (by decide) (fun h124 => ?_) (fun h124 => by exact absurd h124 (by decide))
          refine ex_aload_n (i := 0) dX10_copy_168 rfl rfl ?_
          refine ex_getR (v := .ref (87)) dX10_copy_169 fl_Model_101 rfl rfl (by decide) rfl ?_
          refine ex_iload_n (i := 1) dX10_copy_172 rfl rfl ?_
          refine ex_ialdN dX10_copy_173 rfl (by decide) (by omega) rfl ?_
          refine ex_asI (y := (-1)) (by first | rfl | simp [xU, upd]) ?_
          refine ex_if_ge (tgt := 214) dX10_copy_174 (by decide) (fun h174 => by exact absurd h174 (by decide)) (fun h174 => ?_)
          refine ex_aload_n (i := 0) dX10_copy_177 rfl rfl ?_
          refine ex_getR (v := .ref (91)) dX10_copy_178 fl_Model_113 rfl rfl (by decide) rfl ?_
          refine ex_iconst (v := nI 3) dX10_copy_181 (by decide) ?_
          refine ex_iload_n (i := 1) dX10_copy_182 rfl rfl ?_
          refine ex_imulN dX10_copy_183 ?_
          refine ex_aload_n (i := 0) dX10_copy_184 rfl rfl ?_
          refine ex_getR (v := .ref (78)) dX10_copy_185 fl_Model_74 rfl rfl (by decide) rfl ?_
          refine ex_aload_n (i := 0) dX10_copy_188 rfl rfl ?_
          refine ex_getR (v := .ref (85)) dX10_copy_189 fl_Model_95 rfl rfl (by decide) rfl ?_
          refine ex_iload_n (i := 1) dX10_copy_192 rfl rfl ?_
          refine ex_ialdN dX10_copy_193 rfl (by decide) (by omega) rfl ?_
          refine ex_asN (a := b) e85' ?_
          refine ex_ialdN dX10_copy_194 rfl (by decide) (by omega) rfl ?_
          refine ex_asI (y := i 78 b) e78 ?_
          refine ex_i2l dX10_copy_195 ?_
          refine ex_lastN dX10_copy_196 rfl (by decide) (by omega) ?_
          refine ex_aload_n (i := 0) dX10_copy_197 rfl rfl ?_
          refine ex_getR (v := .ref (91)) dX10_copy_198 fl_Model_113 rfl rfl (by decide) rfl ?_
          refine ex_iconst (v := nI 3) dX10_copy_201 (by decide) ?_
          refine ex_iload_n (i := 1) dX10_copy_202 rfl rfl ?_
          refine ex_imulN dX10_copy_203 ?_
          refine ex_iconst (v := nI 1) dX10_copy_204 (by decide) ?_
          refine ex_iaddN dX10_copy_205 ?_
          refine ex_aload_n (i := 0) dX10_copy_206 rfl rfl ?_
          refine ex_getR (v := .ref (85)) dX10_copy_207 fl_Model_95 rfl rfl (by decide) rfl ?_
          refine ex_iload_n (i := 1) dX10_copy_210 rfl rfl ?_
          refine ex_ialdN dX10_copy_211 rfl (by decide) (by omega) rfl ?_
          refine ex_asN (a := b) e85' ?_
          refine ex_i2l dX10_copy_212 ?_
          refine ex_lastN dX10_copy_213 rfl (by decide) (by omega) ?_
          refine ex_iincN (L' := [some (.ref (56)), some (.int (nI (m + 1))), some (.int (nI (3)))]) dX10_copy_214 rfl rfl (by decide) rfl ?_
          refine ex_goto (tgt := 32) dX10_copy_217 (by decide) ?_
          exact ex_less (L' := [some (.ref 56), some (.int (nI (m + 1))), none]) (by simp [xSub]) (FIN _ _ (((((((hf.U (by decide) (by decide)).U (by decide) (by decide)).U (by decide) (by decide)).U (by decide) (by decide)).U (by decide) (by decide)).U (by decide) (by decide)).U (by decide) (by decide)) (by simp [xU]; exact h43) (by simp [xU]) (by simp [xU]) (by simp [xU, t3 hpa]) (by simp [xU]) (Or.inl ⟨hpa, by simp [xU]⟩) (by simp [xU]) rfl)
        | some v =>
          obtain ⟨p, k⟩ := v
          obtain ⟨p2, p3, p4, p5, p6, p7⟩ := t4 p k hpa
          have e83' : i1 83 m = nI p := e83.trans p2
          have e84' : i1 84 m = nI k := e84.trans p3
          refine ex_iload_n (i := 1) dX10_copy_32 rfl rfl ?_
          refine ex_aload_n (i := 0) dX10_copy_33 rfl rfl ?_
          refine ex_getI dX10_copy_34 fl_Model_234 rfl rfl (by decide) ?_
          refine ex_asN (a := md) h43 ?_
          refine ex_icmp_geN (tgt := 220) dX10_copy_37 (by decide) (by omega) (by omega) (fun h37 => by omega) (fun h37 => ?_)
          refine ex_aload_n (i := 0) dX10_copy_40 rfl rfl ?_
          refine ex_getR (v := .ref (86)) dX10_copy_41 fl_Model_98 rfl rfl (by decide) rfl ?_
          refine ex_iload_n (i := 1) dX10_copy_44 rfl rfl ?_
          refine ex_aload_n (i := 0) dX10_copy_45 rfl rfl ?_
          refine ex_getR (v := .ref (81)) dX10_copy_46 fl_Model_83 rfl rfl (by decide) rfl ?_
          refine ex_iload_n (i := 1) dX10_copy_49 rfl rfl ?_
          refine ex_ialdN dX10_copy_50 rfl (by decide) (by omega) rfl ?_
          refine ex_asI (y := nd (m * 8 + 0)) e81 ?_
          refine ex_iastN dX10_copy_51 rfl (by decide) (by omega) ?_
          refine ex_aload_n (i := 0) dX10_copy_52 rfl rfl ?_
          refine ex_getR (v := .ref (87)) dX10_copy_53 fl_Model_101 rfl rfl (by decide) rfl ?_
          refine ex_iload_n (i := 1) dX10_copy_56 rfl rfl ?_
          refine ex_aload_n (i := 0) dX10_copy_57 rfl rfl ?_
          refine ex_getR (v := .ref (82)) dX10_copy_58 fl_Model_86 rfl rfl (by decide) rfl ?_
          refine ex_iload_n (i := 1) dX10_copy_61 rfl rfl ?_
          refine ex_ialdN dX10_copy_62 rfl (by decide) (by omega) rfl ?_
          refine ex_asI (y := (-1)) e82' ?_
          refine ex_iastN dX10_copy_63 rfl (by decide) (by omega) ?_
          refine ex_aload_n (i := 0) dX10_copy_64 rfl rfl ?_
          refine ex_getR (v := .ref (88)) dX10_copy_65 fl_Model_104 rfl rfl (by decide) rfl ?_
          refine ex_iload_n (i := 1) dX10_copy_68 rfl rfl ?_
          refine ex_aload_n (i := 0) dX10_copy_69 rfl rfl ?_
          refine ex_getR (v := .ref (83)) dX10_copy_70 fl_Model_89 rfl rfl (by decide) rfl ?_
          refine ex_iload_n (i := 1) dX10_copy_73 rfl rfl ?_
          refine ex_ialdN dX10_copy_74 rfl (by decide) (by omega) rfl ?_
          refine ex_asN (a := p) e83' ?_
          refine ex_iastN dX10_copy_75 rfl (by decide) (by omega) ?_
          refine ex_aload_n (i := 0) dX10_copy_76 rfl rfl ?_
          refine ex_getR (v := .ref (89)) dX10_copy_77 fl_Model_107 rfl rfl (by decide) rfl ?_
          refine ex_iload_n (i := 1) dX10_copy_80 rfl rfl ?_
          refine ex_aload_n (i := 0) dX10_copy_81 rfl rfl ?_
          refine ex_getR (v := .ref (84)) dX10_copy_82 fl_Model_92 rfl rfl (by decide) rfl ?_
          refine ex_iload_n (i := 1) dX10_copy_85 rfl rfl ?_
          refine ex_ialdN dX10_copy_86 rfl (by decide) (by omega) rfl ?_
          refine ex_asN (a := k) e84' ?_
          refine ex_iastN dX10_copy_87 rfl (by decide) (by omega) ?_
          refine ex_aload_n (i := 0) dX10_copy_88 rfl rfl ?_
          refine ex_getR (v := .ref (88)) dX10_copy_89 fl_Model_104 rfl rfl (by decide) rfl ?_
          refine ex_iload_n (i := 1) dX10_copy_92 rfl rfl ?_
          refine ex_ialdN dX10_copy_93 rfl (by decide) (by omega) rfl ?_
          refine ex_asN (a := p) (by first | rfl | simp [xU, upd]) ?_
          refine ex_if_ltN (tgt := 120) dX10_copy_94 (by decide) (by omega) ?_
          refine ex_aload_n (i := 0) dX10_copy_97 rfl rfl ?_
          refine ex_getR (v := .ref (90)) dX10_copy_98 fl_Model_110 rfl rfl (by decide) rfl ?_
          refine ex_iconst (v := nI 4) dX10_copy_101 (by decide) ?_
          refine ex_aload_n (i := 0) dX10_copy_102 rfl rfl ?_
          refine ex_getR (v := .ref (88)) dX10_copy_103 fl_Model_104 rfl rfl (by decide) rfl ?_
          refine ex_iload_n (i := 1) dX10_copy_106 rfl rfl ?_
          refine ex_ialdN dX10_copy_107 rfl (by decide) (by omega) rfl ?_
          refine ex_asN (a := p) (by first | rfl | simp [xU, upd]) ?_
          refine ex_imulN dX10_copy_108 ?_
          refine ex_aload_n (i := 0) dX10_copy_109 rfl rfl ?_
          refine ex_getR (v := .ref (89)) dX10_copy_110 fl_Model_107 rfl rfl (by decide) rfl ?_
          refine ex_iload_n (i := 1) dX10_copy_113 rfl rfl ?_
          refine ex_ialdN dX10_copy_114 rfl (by decide) (by omega) rfl ?_
          refine ex_asN (a := k) (by first | rfl | simp [xU, upd]) ?_
          refine ex_iaddN dX10_copy_115 ?_
          refine ex_iconst (v := nI 1) dX10_copy_116 (by decide) ?_
          refine ex_isubN dX10_copy_117 (by omega) ?_
          refine ex_iload_n (i := 1) dX10_copy_118 rfl rfl ?_
          refine ex_iastN dX10_copy_119 rfl (by decide) (by omega) ?_
          refine ex_iconst (v := nI 0) dX10_copy_120 (by decide) ?_
          refine ex_istore_n (L' := [some (.ref (56)), some (.int (nI (m))), some (.int (nI (0)))]) dX10_copy_121 (i := 2) rfl (by decide) rfl ?_
          refine ex_iload_n (i := 2) dX10_copy_122 rfl rfl ?_
          refine ex_iconst (v := nI 3) dX10_copy_123 (by decide) ?_
          refine ex_icmp_geN (tgt := 168) dX10_copy_124 (by decide) (by decide) (by decide) (fun h124 => by exact absurd h124 (by decide)) (fun h124 => ?_)
          refine ex_aload_n (i := 0) dX10_copy_127 rfl rfl ?_
          refine ex_getR (v := .ref (92)) dX10_copy_128 fl_Model_117 rfl rfl (by decide) rfl ?_
          refine ex_iconst (v := nI 3) dX10_copy_131 (by decide) ?_
          refine ex_iload_n (i := 1) dX10_copy_132 rfl rfl ?_
          refine ex_imulN dX10_copy_133 ?_
          refine ex_iload_n (i := 2) dX10_copy_134 rfl rfl ?_
          refine ex_iaddN dX10_copy_135 ?_
          refine ex_aload_n (i := 0) dX10_copy_136 rfl rfl ?_
          refine ex_getR (v := .ref (87)) dX10_copy_137 fl_Model_101 rfl rfl (by decide) rfl ?_
          refine ex_iload_n (i := 1) dX10_copy_140 rfl rfl ?_
          refine ex_ialdN dX10_copy_141 rfl (by decide) (by omega) rfl ?_
          refine ex_asI (y := (-1)) (by first | rfl | simp [xU, upd]) ?_
          refine ex_if_ge (tgt := 149) dX10_copy_142 (by decide) (fun h142 => by exact absurd h142 (by decide)) (fun h142 => ?_)
          refine ex_iconst (v := nI 1) dX10_copy_145 (by decide) ?_
          refine ex_goto (tgt := 150) dX10_copy_146 (by decide) ?_
          refine ex_bastN dX10_copy_150 rfl (by decide) (by decide) (by omega) ?_
          refine ex_aload_n (i := 0) dX10_copy_151 rfl rfl ?_
          refine ex_getR (v := .ref (91)) dX10_copy_152 fl_Model_113 rfl rfl (by decide) rfl ?_
          refine ex_iconst (v := nI 3) dX10_copy_155 (by decide) ?_
          refine ex_iload_n (i := 1) dX10_copy_156 rfl rfl ?_
          refine ex_imulN dX10_copy_157 ?_
          refine ex_iload_n (i := 2) dX10_copy_158 rfl rfl ?_
          refine ex_iaddN dX10_copy_159 ?_
          refine ex_lconst (v := 0) dX10_copy_160 (by decide) ?_
          refine ex_lastN dX10_copy_161 rfl (by decide) (by omega) ?_
          refine ex_iincN (L' := [some (.ref (56)), some (.int (nI (m))), some (.int (nI (1)))]) dX10_copy_162 rfl rfl (by decide) rfl ?_
          refine ex_goto (tgt := 122) dX10_copy_165 (by decide) ?_
          refine ex_iload_n (i := 2) dX10_copy_122 rfl rfl ?_
          refine ex_iconst (v := nI 3) dX10_copy_123 (by decide) ?_
          refine ex_icmp_geN (tgt := 168) dX10_copy_124 (by decide) (by decide) (by decide) (fun h124 => by exact absurd h124 (by decide)) (fun h124 => ?_)
          refine ex_aload_n (i := 0) dX10_copy_127 rfl rfl ?_
          refine ex_getR (v := .ref (92)) dX10_copy_128 fl_Model_117 rfl rfl (by decide) rfl ?_
          refine ex_iconst (v := nI 3) dX10_copy_131 (by decide) ?_
          refine ex_iload_n (i := 1) dX10_copy_132 rfl rfl ?_
          refine ex_imulN dX10_copy_133 ?_
          refine ex_iload_n (i := 2) dX10_copy_134 rfl rfl ?_
          refine ex_iaddN dX10_copy_135 ?_
          refine ex_aload_n (i := 0) dX10_copy_136 rfl rfl ?_
          refine ex_getR (v := .ref (87)) dX10_copy_137 fl_Model_101 rfl rfl (by decide) rfl ?_
          refine ex_iload_n (i := 1) dX10_copy_140 rfl rfl ?_
          refine ex_ialdN dX10_copy_141 rfl (by decide) (by omega) rfl ?_
          refine ex_asI (y := (-1)) (by first | rfl | simp [xU, upd]) ?_
          refine ex_if_ge (tgt := 149) dX10_copy_142 (by decide) (fun h142 => by exact absurd h142 (by decide)) (fun h142 => ?_)
          refine ex_iconst (v := nI 1) dX10_copy_145 (by decide) ?_
          refine ex_goto (tgt := 150) dX10_copy_146 (by decide) ?_
          refine ex_bastN dX10_copy_150 rfl (by decide) (by decide) (by omega) ?_
          refine ex_aload_n (i := 0) dX10_copy_151 rfl rfl ?_
          refine ex_getR (v := .ref (91)) dX10_copy_152 fl_Model_113 rfl rfl (by decide) rfl ?_
          refine ex_iconst (v := nI 3) dX10_copy_155 (by decide) ?_
          refine ex_iload_n (i := 1) dX10_copy_156 rfl rfl ?_
          refine ex_imulN dX10_copy_157 ?_
          refine ex_iload_n (i := 2) dX10_copy_158 rfl rfl ?_
          refine ex_iaddN dX10_copy_159 ?_
          refine ex_lconst (v := 0) dX10_copy_160 (by decide) ?_
          refine ex_lastN dX10_copy_161 rfl (by decide) (by omega) ?_
          refine ex_iincN (L' := [some (.ref (56)), some (.int (nI (m))), some (.int (nI (2)))]) dX10_copy_162 rfl rfl (by decide) rfl ?_
          refine ex_goto (tgt := 122) dX10_copy_165 (by decide) ?_
          refine ex_iload_n (i := 2) dX10_copy_122 rfl rfl ?_
          refine ex_iconst (v := nI 3) dX10_copy_123 (by decide) ?_
          refine ex_icmp_geN (tgt := 168) dX10_copy_124 (by decide) (by decide) (by decide) (fun h124 => by exact absurd h124 (by decide)) (fun h124 => ?_)
          refine ex_aload_n (i := 0) dX10_copy_127 rfl rfl ?_
          refine ex_getR (v := .ref (92)) dX10_copy_128 fl_Model_117 rfl rfl (by decide) rfl ?_
          refine ex_iconst (v := nI 3) dX10_copy_131 (by decide) ?_
          refine ex_iload_n (i := 1) dX10_copy_132 rfl rfl ?_
          refine ex_imulN dX10_copy_133 ?_
          refine ex_iload_n (i := 2) dX10_copy_134 rfl rfl ?_
          refine ex_iaddN dX10_copy_135 ?_
          refine ex_aload_n (i := 0) dX10_copy_136 rfl rfl ?_
          refine ex_getR (v := .ref (87)) dX10_copy_137 fl_Model_101 rfl rfl (by decide) rfl ?_
          refine ex_iload_n (i := 1) dX10_copy_140 rfl rfl ?_
          refine ex_ialdN dX10_copy_141 rfl (by decide) (by omega) rfl ?_
          refine ex_asI (y := (-1)) (by first | rfl | simp [xU, upd]) ?_
          refine ex_if_ge (tgt := 149) dX10_copy_142 (by decide) (fun h142 => by exact absurd h142 (by decide)) (fun h142 => ?_)
          refine ex_iconst (v := nI 1) dX10_copy_145 (by decide) ?_
          refine ex_goto (tgt := 150) dX10_copy_146 (by decide) ?_
          refine ex_bastN dX10_copy_150 rfl (by decide) (by decide) (by omega) ?_
          refine ex_aload_n (i := 0) dX10_copy_151 rfl rfl ?_
          refine ex_getR (v := .ref (91)) dX10_copy_152 fl_Model_113 rfl rfl (by decide) rfl ?_
          refine ex_iconst (v := nI 3) dX10_copy_155 (by decide) ?_
          refine ex_iload_n (i := 1) dX10_copy_156 rfl rfl ?_
          refine ex_imulN dX10_copy_157 ?_
          refine ex_iload_n (i := 2) dX10_copy_158 rfl rfl ?_
          refine ex_iaddN dX10_copy_159 ?_
          refine ex_lconst (v := 0) dX10_copy_160 (by decide) ?_
          refine ex_lastN dX10_copy_161 rfl (by decide) (by omega) ?_
          refine ex_iincN (L' := [some (.ref (56)), some (.int (nI (m))), some (.int (nI (3)))]) dX10_copy_162 rfl rfl (by decide) rfl ?_
          refine ex_goto (tgt := 122) dX10_copy_165 (by decide) ?_
          refine ex_iload_n (i := 2) dX10_copy_122 rfl rfl ?_
          refine ex_iconst (v := nI 3) dX10_copy_123 (by decide) ?_
          refine ex_icmp_geN (tgt := 168) dX10_copy_124 (by decide) (by decide) (by decide) (fun h124 => ?_) (fun h124 => by exact absurd h124 (by decide))
          refine ex_aload_n (i := 0) dX10_copy_168 rfl rfl ?_
          refine ex_getR (v := .ref (87)) dX10_copy_169 fl_Model_101 rfl rfl (by decide) rfl ?_
          refine ex_iload_n (i := 1) dX10_copy_172 rfl rfl ?_
          refine ex_ialdN dX10_copy_173 rfl (by decide) (by omega) rfl ?_
          refine ex_asI (y := (-1)) (by first | rfl | simp [xU, upd]) ?_
          refine ex_if_ge (tgt := 214) dX10_copy_174 (by decide) (fun h174 => by exact absurd h174 (by decide)) (fun h174 => ?_)
          refine ex_aload_n (i := 0) dX10_copy_177 rfl rfl ?_
          refine ex_getR (v := .ref (91)) dX10_copy_178 fl_Model_113 rfl rfl (by decide) rfl ?_
          refine ex_iconst (v := nI 3) dX10_copy_181 (by decide) ?_
          refine ex_iload_n (i := 1) dX10_copy_182 rfl rfl ?_
          refine ex_imulN dX10_copy_183 ?_
          refine ex_aload_n (i := 0) dX10_copy_184 rfl rfl ?_
          refine ex_getR (v := .ref (78)) dX10_copy_185 fl_Model_74 rfl rfl (by decide) rfl ?_
          refine ex_aload_n (i := 0) dX10_copy_188 rfl rfl ?_
          refine ex_getR (v := .ref (85)) dX10_copy_189 fl_Model_95 rfl rfl (by decide) rfl ?_
          refine ex_iload_n (i := 1) dX10_copy_192 rfl rfl ?_
          refine ex_ialdN dX10_copy_193 rfl (by decide) (by omega) rfl ?_
          refine ex_asN (a := b) e85' ?_
          refine ex_ialdN dX10_copy_194 rfl (by decide) (by omega) rfl ?_
          refine ex_asI (y := i 78 b) e78 ?_
          refine ex_i2l dX10_copy_195 ?_
          refine ex_lastN dX10_copy_196 rfl (by decide) (by omega) ?_
          refine ex_aload_n (i := 0) dX10_copy_197 rfl rfl ?_
          refine ex_getR (v := .ref (91)) dX10_copy_198 fl_Model_113 rfl rfl (by decide) rfl ?_
          refine ex_iconst (v := nI 3) dX10_copy_201 (by decide) ?_
          refine ex_iload_n (i := 1) dX10_copy_202 rfl rfl ?_
          refine ex_imulN dX10_copy_203 ?_
          refine ex_iconst (v := nI 1) dX10_copy_204 (by decide) ?_
          refine ex_iaddN dX10_copy_205 ?_
          refine ex_aload_n (i := 0) dX10_copy_206 rfl rfl ?_
          refine ex_getR (v := .ref (85)) dX10_copy_207 fl_Model_95 rfl rfl (by decide) rfl ?_
          refine ex_iload_n (i := 1) dX10_copy_210 rfl rfl ?_
          refine ex_ialdN dX10_copy_211 rfl (by decide) (by omega) rfl ?_
          refine ex_asN (a := b) e85' ?_
          refine ex_i2l dX10_copy_212 ?_
          refine ex_lastN dX10_copy_213 rfl (by decide) (by omega) ?_
          refine ex_iincN (L' := [some (.ref (56)), some (.int (nI (m + 1))), some (.int (nI (3)))]) dX10_copy_214 rfl rfl (by decide) rfl ?_
          refine ex_goto (tgt := 32) dX10_copy_217 (by decide) ?_
          exact ex_less (L' := [some (.ref 56), some (.int (nI (m + 1))), none]) (by simp [xSub]) (FIN _ _ ((((((((hf.U (by decide) (by decide)).U (by decide) (by decide)).U (by decide) (by decide)).U (by decide) (by decide)).U (by decide) (by decide)).U (by decide) (by decide)).U (by decide) (by decide)).U (by decide) (by decide)) (by simp [xU]; exact h43) (by simp [xU]) (by simp [xU]) (by simp [xU, p2]) (by simp [xU, p3]) (Or.inr ⟨p, k, hpa, by simp [xU]⟩) (by simp [xU]) rfl)
      | false =>
        obtain ⟨n1, hrl⟩ := t2 htb
        have e82' : i1 82 m = nI (rl m) := e82.trans n1
        have FIN : ∀ i2 q2, Fm [86, 87, 88, 89, 90, 92] [43] i i2 → i2 56 43 = nI md → i2 86 = upd (i1 86) m (nd (m * 8 + 0)) → i2 87 = upd (i1 87) m (nI (rl m)) → i2 88 = upd (i1 88) m (nd (m * 8 + 2)) → i2 89 = upd (i1 89) m (nd (m * 8 + 3)) →
          ((pa m = none ∧ i2 90 = i1 90) ∨ ∃ p k, pa m = some (p, k) ∧ i2 90 = upd (i1 90) (4 * p + k - 1) (nI m)) → i2 92 = upd (upd (upd (i1 92) (3 * m + 0) (nI 0)) (3 * m + 1) (nI 0)) (3 * m + 2) (nI 0) → q2 = xUL (xUL (xUL q1 91 (3 * m + 0) 0) 91 (3 * m + 1) 0) 91 (3 * m + 2) 0 → Wx m_Model_copy 32 [some (.ref 56), some (.int (nI (m + 1))), none] [] (94, g, i2, q2, RT t) (0, 0) Q := by
          intro i2 q2 a0 a1 a2 a3 a4 a5 a6 a7 a8
          have hnt2 : ¬ tb m = true := by rw [htb]; decide
          refine NX i2 q2 a0 a1 a2 (by rw [a3, n1]) a4 a5 a6 (fun s hs => by rw [a7]; exact out3 _ _ s hs) (fun a ha => by rw [a7, tok3 _ _ a ha, if_neg hnt2]) (fun c hcn => ?_) (fun s hs => ?_) (fun _ => ?_) (fun z => absurd z hnt2)
          · rw [a8, xUL_ne _ _ _ hcn, xUL_ne _ _ _ hcn, xUL_ne _ _ _ hcn]
          · rw [a8]; simp only [xUL_at]; unfold vp_updL
            rw [if_neg (by omega), if_neg (by omega), if_neg (by omega)]
          · rw [a8]; simp only [xUL_at]; unfold vp_updL
            refine ⟨?_, ?_, ?_⟩
            · rw [if_neg (by omega), if_neg (by omega), if_pos (by omega)]
            · rw [if_neg (by omega), if_pos rfl]
            · rw [if_pos rfl]
        cases hpa : pa m with
        | none =>
          have e83' : i1 83 m = -1 := e83.trans (t3 hpa)
          refine ex_iload_n (i := 1) dX10_copy_32 rfl rfl ?_
          refine ex_aload_n (i := 0) dX10_copy_33 rfl rfl ?_
          refine ex_getI dX10_copy_34 fl_Model_234 rfl rfl (by decide) ?_
          refine ex_asN (a := md) h43 ?_
          refine ex_icmp_geN (tgt := 220) dX10_copy_37 (by decide) (by omega) (by omega) (fun h37 => by omega) (fun h37 => ?_)
          refine ex_aload_n (i := 0) dX10_copy_40 rfl rfl ?_
          refine ex_getR (v := .ref (86)) dX10_copy_41 fl_Model_98 rfl rfl (by decide) rfl ?_
          refine ex_iload_n (i := 1) dX10_copy_44 rfl rfl ?_
          refine ex_aload_n (i := 0) dX10_copy_45 rfl rfl ?_
          refine ex_getR (v := .ref (81)) dX10_copy_46 fl_Model_83 rfl rfl (by decide) rfl ?_
          refine ex_iload_n (i := 1) dX10_copy_49 rfl rfl ?_
          refine ex_ialdN dX10_copy_50 rfl (by decide) (by omega) rfl ?_
          refine ex_asI (y := nd (m * 8 + 0)) e81 ?_
          refine ex_iastN dX10_copy_51 rfl (by decide) (by omega) ?_
          refine ex_aload_n (i := 0) dX10_copy_52 rfl rfl ?_
          refine ex_getR (v := .ref (87)) dX10_copy_53 fl_Model_101 rfl rfl (by decide) rfl ?_
          refine ex_iload_n (i := 1) dX10_copy_56 rfl rfl ?_
          refine ex_aload_n (i := 0) dX10_copy_57 rfl rfl ?_
          refine ex_getR (v := .ref (82)) dX10_copy_58 fl_Model_86 rfl rfl (by decide) rfl ?_
          refine ex_iload_n (i := 1) dX10_copy_61 rfl rfl ?_
          refine ex_ialdN dX10_copy_62 rfl (by decide) (by omega) rfl ?_
          refine ex_asN (a := rl m) e82' ?_
          refine ex_iastN dX10_copy_63 rfl (by decide) (by omega) ?_
          refine ex_aload_n (i := 0) dX10_copy_64 rfl rfl ?_
          refine ex_getR (v := .ref (88)) dX10_copy_65 fl_Model_104 rfl rfl (by decide) rfl ?_
          refine ex_iload_n (i := 1) dX10_copy_68 rfl rfl ?_
          refine ex_aload_n (i := 0) dX10_copy_69 rfl rfl ?_
          refine ex_getR (v := .ref (83)) dX10_copy_70 fl_Model_89 rfl rfl (by decide) rfl ?_
          refine ex_iload_n (i := 1) dX10_copy_73 rfl rfl ?_
          refine ex_ialdN dX10_copy_74 rfl (by decide) (by omega) rfl ?_
          refine ex_asI (y := (-1)) e83' ?_
          refine ex_iastN dX10_copy_75 rfl (by decide) (by omega) ?_
          refine ex_aload_n (i := 0) dX10_copy_76 rfl rfl ?_
          refine ex_getR (v := .ref (89)) dX10_copy_77 fl_Model_107 rfl rfl (by decide) rfl ?_
          refine ex_iload_n (i := 1) dX10_copy_80 rfl rfl ?_
          refine ex_aload_n (i := 0) dX10_copy_81 rfl rfl ?_
          refine ex_getR (v := .ref (84)) dX10_copy_82 fl_Model_92 rfl rfl (by decide) rfl ?_
          refine ex_iload_n (i := 1) dX10_copy_85 rfl rfl ?_
          refine ex_ialdN dX10_copy_86 rfl (by decide) (by omega) rfl ?_
          refine ex_asI (y := nd (m * 8 + 3)) e84 ?_
          refine ex_iastN dX10_copy_87 rfl (by decide) (by omega) ?_
          refine ex_aload_n (i := 0) dX10_copy_88 rfl rfl ?_
          refine ex_getR (v := .ref (88)) dX10_copy_89 fl_Model_104 rfl rfl (by decide) rfl ?_
          refine ex_iload_n (i := 1) dX10_copy_92 rfl rfl ?_
          refine ex_ialdN dX10_copy_93 rfl (by decide) (by omega) rfl ?_
          refine ex_asI (y := (-1)) (by first | rfl | simp [xU, upd]) ?_
          refine ex_if_lt (tgt := 120) dX10_copy_94 (by decide) (fun h94 => ?_) (fun h94 => by exact absurd (by decide) h94)
          refine ex_iconst (v := nI 0) dX10_copy_120 (by decide) ?_
          refine ex_istore_n (L' := [some (.ref (56)), some (.int (nI (m))), some (.int (nI (0)))]) dX10_copy_121 (i := 2) rfl (by decide) rfl ?_
          refine ex_iload_n (i := 2) dX10_copy_122 rfl rfl ?_
          refine ex_iconst (v := nI 3) dX10_copy_123 (by decide) ?_
          refine ex_icmp_geN (tgt := 168) dX10_copy_124 (by decide) (by decide) (by decide) (fun h124 => by exact absurd h124 (by decide)) (fun h124 => ?_)
          refine ex_aload_n (i := 0) dX10_copy_127 rfl rfl ?_
          refine ex_getR (v := .ref (92)) dX10_copy_128 fl_Model_117 rfl rfl (by decide) rfl ?_
          refine ex_iconst (v := nI 3) dX10_copy_131 (by decide) ?_
          refine ex_iload_n (i := 1) dX10_copy_132 rfl rfl ?_
          refine ex_imulN dX10_copy_133 ?_
          refine ex_iload_n (i := 2) dX10_copy_134 rfl rfl ?_
          refine ex_iaddN dX10_copy_135 ?_
          refine ex_aload_n (i := 0) dX10_copy_136 rfl rfl ?_
          refine ex_getR (v := .ref (87)) dX10_copy_137 fl_Model_101 rfl rfl (by decide) rfl ?_
          refine ex_iload_n (i := 1) dX10_copy_140 rfl rfl ?_
          refine ex_ialdN dX10_copy_141 rfl (by decide) (by omega) rfl ?_
          refine ex_asN (a := rl m) (by first | rfl | simp [xU, upd]) ?_
          refine ex_if_geN (tgt := 149) dX10_copy_142 (by decide) (by omega) ?_
          refine ex_iconst (v := nI 0) dX10_copy_149 (by decide) ?_
          refine ex_bastN dX10_copy_150 rfl (by decide) (by decide) (by omega) ?_
          refine ex_aload_n (i := 0) dX10_copy_151 rfl rfl ?_
          refine ex_getR (v := .ref (91)) dX10_copy_152 fl_Model_113 rfl rfl (by decide) rfl ?_
          refine ex_iconst (v := nI 3) dX10_copy_155 (by decide) ?_
          refine ex_iload_n (i := 1) dX10_copy_156 rfl rfl ?_
          refine ex_imulN dX10_copy_157 ?_
          refine ex_iload_n (i := 2) dX10_copy_158 rfl rfl ?_
          refine ex_iaddN dX10_copy_159 ?_
          refine ex_lconst (v := 0) dX10_copy_160 (by decide) ?_
          refine ex_lastN dX10_copy_161 rfl (by decide) (by omega) ?_
          refine ex_iincN (L' := [some (.ref (56)), some (.int (nI (m))), some (.int (nI (1)))]) dX10_copy_162 rfl rfl (by decide) rfl ?_
          refine ex_goto (tgt := 122) dX10_copy_165 (by decide) ?_
          refine ex_iload_n (i := 2) dX10_copy_122 rfl rfl ?_
          refine ex_iconst (v := nI 3) dX10_copy_123 (by decide) ?_
          refine ex_icmp_geN (tgt := 168) dX10_copy_124 (by decide) (by decide) (by decide) (fun h124 => by exact absurd h124 (by decide)) (fun h124 => ?_)
          refine ex_aload_n (i := 0) dX10_copy_127 rfl rfl ?_
          refine ex_getR (v := .ref (92)) dX10_copy_128 fl_Model_117 rfl rfl (by decide) rfl ?_
          refine ex_iconst (v := nI 3) dX10_copy_131 (by decide) ?_
          refine ex_iload_n (i := 1) dX10_copy_132 rfl rfl ?_
          refine ex_imulN dX10_copy_133 ?_
          refine ex_iload_n (i := 2) dX10_copy_134 rfl rfl ?_
          refine ex_iaddN dX10_copy_135 ?_
          refine ex_aload_n (i := 0) dX10_copy_136 rfl rfl ?_
          refine ex_getR (v := .ref (87)) dX10_copy_137 fl_Model_101 rfl rfl (by decide) rfl ?_
          refine ex_iload_n (i := 1) dX10_copy_140 rfl rfl ?_
          refine ex_ialdN dX10_copy_141 rfl (by decide) (by omega) rfl ?_
          refine ex_asN (a := rl m) (by first | rfl | simp [xU, upd]) ?_
          refine ex_if_geN (tgt := 149) dX10_copy_142 (by decide) (by omega) ?_
          refine ex_iconst (v := nI 0) dX10_copy_149 (by decide) ?_
          refine ex_bastN dX10_copy_150 rfl (by decide) (by decide) (by omega) ?_
          refine ex_aload_n (i := 0) dX10_copy_151 rfl rfl ?_
          refine ex_getR (v := .ref (91)) dX10_copy_152 fl_Model_113 rfl rfl (by decide) rfl ?_
          refine ex_iconst (v := nI 3) dX10_copy_155 (by decide) ?_
          refine ex_iload_n (i := 1) dX10_copy_156 rfl rfl ?_
          refine ex_imulN dX10_copy_157 ?_
          refine ex_iload_n (i := 2) dX10_copy_158 rfl rfl ?_
          refine ex_iaddN dX10_copy_159 ?_
          refine ex_lconst (v := 0) dX10_copy_160 (by decide) ?_
          refine ex_lastN dX10_copy_161 rfl (by decide) (by omega) ?_
          refine ex_iincN (L' := [some (.ref (56)), some (.int (nI (m))), some (.int (nI (2)))]) dX10_copy_162 rfl rfl (by decide) rfl ?_
          refine ex_goto (tgt := 122) dX10_copy_165 (by decide) ?_
          refine ex_iload_n (i := 2) dX10_copy_122 rfl rfl ?_
          refine ex_iconst (v := nI 3) dX10_copy_123 (by decide) ?_
          refine ex_icmp_geN (tgt := 168) dX10_copy_124 (by decide) (by decide) (by decide) (fun h124 => by exact absurd h124 (by decide)) (fun h124 => ?_)
          refine ex_aload_n (i := 0) dX10_copy_127 rfl rfl ?_
          refine ex_getR (v := .ref (92)) dX10_copy_128 fl_Model_117 rfl rfl (by decide) rfl ?_
          refine ex_iconst (v := nI 3) dX10_copy_131 (by decide) ?_
          refine ex_iload_n (i := 1) dX10_copy_132 rfl rfl ?_
          refine ex_imulN dX10_copy_133 ?_
          refine ex_iload_n (i := 2) dX10_copy_134 rfl rfl ?_
          refine ex_iaddN dX10_copy_135 ?_
          refine ex_aload_n (i := 0) dX10_copy_136 rfl rfl ?_
          refine ex_getR (v := .ref (87)) dX10_copy_137 fl_Model_101 rfl rfl (by decide) rfl ?_
          refine ex_iload_n (i := 1) dX10_copy_140 rfl rfl ?_
          refine ex_ialdN dX10_copy_141 rfl (by decide) (by omega) rfl ?_
          refine ex_asN (a := rl m) (by first | rfl | simp [xU, upd]) ?_
          refine ex_if_geN (tgt := 149) dX10_copy_142 (by decide) (by omega) ?_
          refine ex_iconst (v := nI 0) dX10_copy_149 (by decide) ?_
          refine ex_bastN dX10_copy_150 rfl (by decide) (by decide) (by omega) ?_
          refine ex_aload_n (i := 0) dX10_copy_151 rfl rfl ?_
          refine ex_getR (v := .ref (91)) dX10_copy_152 fl_Model_113 rfl rfl (by decide) rfl ?_
          refine ex_iconst (v := nI 3) dX10_copy_155 (by decide) ?_
          refine ex_iload_n (i := 1) dX10_copy_156 rfl rfl ?_
          refine ex_imulN dX10_copy_157 ?_
          refine ex_iload_n (i := 2) dX10_copy_158 rfl rfl ?_
          refine ex_iaddN dX10_copy_159 ?_
          refine ex_lconst (v := 0) dX10_copy_160 (by decide) ?_
          refine ex_lastN dX10_copy_161 rfl (by decide) (by omega) ?_
          refine ex_iincN (L' := [some (.ref (56)), some (.int (nI (m))), some (.int (nI (3)))]) dX10_copy_162 rfl rfl (by decide) rfl ?_
          refine ex_goto (tgt := 122) dX10_copy_165 (by decide) ?_
          refine ex_iload_n (i := 2) dX10_copy_122 rfl rfl ?_
          refine ex_iconst (v := nI 3) dX10_copy_123 (by decide) ?_
          refine ex_icmp_geN (tgt := 168) dX10_copy_124 (by decide) (by decide) (by decide) (fun h124 => ?_) (fun h124 => by exact absurd h124 (by decide))
          refine ex_aload_n (i := 0) dX10_copy_168 rfl rfl ?_
          refine ex_getR (v := .ref (87)) dX10_copy_169 fl_Model_101 rfl rfl (by decide) rfl ?_
          refine ex_iload_n (i := 1) dX10_copy_172 rfl rfl ?_
          refine ex_ialdN dX10_copy_173 rfl (by decide) (by omega) rfl ?_
          refine ex_asN (a := rl m) (by first | rfl | simp [xU, upd]) ?_
          refine ex_if_geN (tgt := 214) dX10_copy_174 (by decide) (by omega) ?_
          refine ex_iincN (L' := [some (.ref (56)), some (.int (nI (m + 1))), some (.int (nI (3)))]) dX10_copy_214 rfl rfl (by decide) rfl ?_
          refine ex_goto (tgt := 32) dX10_copy_217 (by decide) ?_
          exact ex_less (L' := [some (.ref 56), some (.int (nI (m + 1))), none]) (by simp [xSub]) (FIN _ _ (((((((hf.U (by decide) (by decide)).U (by decide) (by decide)).U (by decide) (by decide)).U (by decide) (by decide)).U (by decide) (by decide)).U (by decide) (by decide)).U (by decide) (by decide)) (by simp [xU]; exact h43) (by simp [xU]) (by simp [xU]) (by simp [xU, t3 hpa]) (by simp [xU]) (Or.inl ⟨hpa, by simp [xU]⟩) (by simp [xU]) rfl)
        | some v =>
          obtain ⟨p, k⟩ := v
          obtain ⟨p2, p3, p4, p5, p6, p7⟩ := t4 p k hpa
          have e83' : i1 83 m = nI p := e83.trans p2
          have e84' : i1 84 m = nI k := e84.trans p3
          refine ex_iload_n (i := 1) dX10_copy_32 rfl rfl ?_
          refine ex_aload_n (i := 0) dX10_copy_33 rfl rfl ?_
          refine ex_getI dX10_copy_34 fl_Model_234 rfl rfl (by decide) ?_
          refine ex_asN (a := md) h43 ?_
          refine ex_icmp_geN (tgt := 220) dX10_copy_37 (by decide) (by omega) (by omega) (fun h37 => by omega) (fun h37 => ?_)
          refine ex_aload_n (i := 0) dX10_copy_40 rfl rfl ?_
          refine ex_getR (v := .ref (86)) dX10_copy_41 fl_Model_98 rfl rfl (by decide) rfl ?_
          refine ex_iload_n (i := 1) dX10_copy_44 rfl rfl ?_
          refine ex_aload_n (i := 0) dX10_copy_45 rfl rfl ?_
          refine ex_getR (v := .ref (81)) dX10_copy_46 fl_Model_83 rfl rfl (by decide) rfl ?_
          refine ex_iload_n (i := 1) dX10_copy_49 rfl rfl ?_
          refine ex_ialdN dX10_copy_50 rfl (by decide) (by omega) rfl ?_
          refine ex_asI (y := nd (m * 8 + 0)) e81 ?_
          refine ex_iastN dX10_copy_51 rfl (by decide) (by omega) ?_
          refine ex_aload_n (i := 0) dX10_copy_52 rfl rfl ?_
          refine ex_getR (v := .ref (87)) dX10_copy_53 fl_Model_101 rfl rfl (by decide) rfl ?_
          refine ex_iload_n (i := 1) dX10_copy_56 rfl rfl ?_
          refine ex_aload_n (i := 0) dX10_copy_57 rfl rfl ?_
          refine ex_getR (v := .ref (82)) dX10_copy_58 fl_Model_86 rfl rfl (by decide) rfl ?_
          refine ex_iload_n (i := 1) dX10_copy_61 rfl rfl ?_
          refine ex_ialdN dX10_copy_62 rfl (by decide) (by omega) rfl ?_
          refine ex_asN (a := rl m) e82' ?_
          refine ex_iastN dX10_copy_63 rfl (by decide) (by omega) ?_
          refine ex_aload_n (i := 0) dX10_copy_64 rfl rfl ?_
          refine ex_getR (v := .ref (88)) dX10_copy_65 fl_Model_104 rfl rfl (by decide) rfl ?_
          refine ex_iload_n (i := 1) dX10_copy_68 rfl rfl ?_
          refine ex_aload_n (i := 0) dX10_copy_69 rfl rfl ?_
          refine ex_getR (v := .ref (83)) dX10_copy_70 fl_Model_89 rfl rfl (by decide) rfl ?_
          refine ex_iload_n (i := 1) dX10_copy_73 rfl rfl ?_
          refine ex_ialdN dX10_copy_74 rfl (by decide) (by omega) rfl ?_
          refine ex_asN (a := p) e83' ?_
          refine ex_iastN dX10_copy_75 rfl (by decide) (by omega) ?_
          refine ex_aload_n (i := 0) dX10_copy_76 rfl rfl ?_
          refine ex_getR (v := .ref (89)) dX10_copy_77 fl_Model_107 rfl rfl (by decide) rfl ?_
          refine ex_iload_n (i := 1) dX10_copy_80 rfl rfl ?_
          refine ex_aload_n (i := 0) dX10_copy_81 rfl rfl ?_
          refine ex_getR (v := .ref (84)) dX10_copy_82 fl_Model_92 rfl rfl (by decide) rfl ?_
          refine ex_iload_n (i := 1) dX10_copy_85 rfl rfl ?_
          refine ex_ialdN dX10_copy_86 rfl (by decide) (by omega) rfl ?_
          refine ex_asN (a := k) e84' ?_
          refine ex_iastN dX10_copy_87 rfl (by decide) (by omega) ?_
          refine ex_aload_n (i := 0) dX10_copy_88 rfl rfl ?_
          refine ex_getR (v := .ref (88)) dX10_copy_89 fl_Model_104 rfl rfl (by decide) rfl ?_
          refine ex_iload_n (i := 1) dX10_copy_92 rfl rfl ?_
          refine ex_ialdN dX10_copy_93 rfl (by decide) (by omega) rfl ?_
          refine ex_asN (a := p) (by first | rfl | simp [xU, upd]) ?_
          refine ex_if_ltN (tgt := 120) dX10_copy_94 (by decide) (by omega) ?_
          refine ex_aload_n (i := 0) dX10_copy_97 rfl rfl ?_
          refine ex_getR (v := .ref (90)) dX10_copy_98 fl_Model_110 rfl rfl (by decide) rfl ?_
          refine ex_iconst (v := nI 4) dX10_copy_101 (by decide) ?_
          refine ex_aload_n (i := 0) dX10_copy_102 rfl rfl ?_
          refine ex_getR (v := .ref (88)) dX10_copy_103 fl_Model_104 rfl rfl (by decide) rfl ?_
          refine ex_iload_n (i := 1) dX10_copy_106 rfl rfl ?_
          refine ex_ialdN dX10_copy_107 rfl (by decide) (by omega) rfl ?_
          refine ex_asN (a := p) (by first | rfl | simp [xU, upd]) ?_
          refine ex_imulN dX10_copy_108 ?_
          refine ex_aload_n (i := 0) dX10_copy_109 rfl rfl ?_
          refine ex_getR (v := .ref (89)) dX10_copy_110 fl_Model_107 rfl rfl (by decide) rfl ?_
          refine ex_iload_n (i := 1) dX10_copy_113 rfl rfl ?_
          refine ex_ialdN dX10_copy_114 rfl (by decide) (by omega) rfl ?_
          refine ex_asN (a := k) (by first | rfl | simp [xU, upd]) ?_
          refine ex_iaddN dX10_copy_115 ?_
          refine ex_iconst (v := nI 1) dX10_copy_116 (by decide) ?_
          refine ex_isubN dX10_copy_117 (by omega) ?_
          refine ex_iload_n (i := 1) dX10_copy_118 rfl rfl ?_
          refine ex_iastN dX10_copy_119 rfl (by decide) (by omega) ?_
          refine ex_iconst (v := nI 0) dX10_copy_120 (by decide) ?_
          refine ex_istore_n (L' := [some (.ref (56)), some (.int (nI (m))), some (.int (nI (0)))]) dX10_copy_121 (i := 2) rfl (by decide) rfl ?_
          refine ex_iload_n (i := 2) dX10_copy_122 rfl rfl ?_
          refine ex_iconst (v := nI 3) dX10_copy_123 (by decide) ?_
          refine ex_icmp_geN (tgt := 168) dX10_copy_124 (by decide) (by decide) (by decide) (fun h124 => by exact absurd h124 (by decide)) (fun h124 => ?_)
          refine ex_aload_n (i := 0) dX10_copy_127 rfl rfl ?_
          refine ex_getR (v := .ref (92)) dX10_copy_128 fl_Model_117 rfl rfl (by decide) rfl ?_
          refine ex_iconst (v := nI 3) dX10_copy_131 (by decide) ?_
          refine ex_iload_n (i := 1) dX10_copy_132 rfl rfl ?_
          refine ex_imulN dX10_copy_133 ?_
          refine ex_iload_n (i := 2) dX10_copy_134 rfl rfl ?_
          refine ex_iaddN dX10_copy_135 ?_
          refine ex_aload_n (i := 0) dX10_copy_136 rfl rfl ?_
          refine ex_getR (v := .ref (87)) dX10_copy_137 fl_Model_101 rfl rfl (by decide) rfl ?_
          refine ex_iload_n (i := 1) dX10_copy_140 rfl rfl ?_
          refine ex_ialdN dX10_copy_141 rfl (by decide) (by omega) rfl ?_
          refine ex_asN (a := rl m) (by first | rfl | simp [xU, upd]) ?_
          refine ex_if_geN (tgt := 149) dX10_copy_142 (by decide) (by omega) ?_
          refine ex_iconst (v := nI 0) dX10_copy_149 (by decide) ?_
          refine ex_bastN dX10_copy_150 rfl (by decide) (by decide) (by omega) ?_
          refine ex_aload_n (i := 0) dX10_copy_151 rfl rfl ?_
          refine ex_getR (v := .ref (91)) dX10_copy_152 fl_Model_113 rfl rfl (by decide) rfl ?_
          refine ex_iconst (v := nI 3) dX10_copy_155 (by decide) ?_
          refine ex_iload_n (i := 1) dX10_copy_156 rfl rfl ?_
          refine ex_imulN dX10_copy_157 ?_
          refine ex_iload_n (i := 2) dX10_copy_158 rfl rfl ?_
          refine ex_iaddN dX10_copy_159 ?_
          refine ex_lconst (v := 0) dX10_copy_160 (by decide) ?_
          refine ex_lastN dX10_copy_161 rfl (by decide) (by omega) ?_
          refine ex_iincN (L' := [some (.ref (56)), some (.int (nI (m))), some (.int (nI (1)))]) dX10_copy_162 rfl rfl (by decide) rfl ?_
          refine ex_goto (tgt := 122) dX10_copy_165 (by decide) ?_
          refine ex_iload_n (i := 2) dX10_copy_122 rfl rfl ?_
          refine ex_iconst (v := nI 3) dX10_copy_123 (by decide) ?_
          refine ex_icmp_geN (tgt := 168) dX10_copy_124 (by decide) (by decide) (by decide) (fun h124 => by exact absurd h124 (by decide)) (fun h124 => ?_)
          refine ex_aload_n (i := 0) dX10_copy_127 rfl rfl ?_
          refine ex_getR (v := .ref (92)) dX10_copy_128 fl_Model_117 rfl rfl (by decide) rfl ?_
          refine ex_iconst (v := nI 3) dX10_copy_131 (by decide) ?_
          refine ex_iload_n (i := 1) dX10_copy_132 rfl rfl ?_
          refine ex_imulN dX10_copy_133 ?_
          refine ex_iload_n (i := 2) dX10_copy_134 rfl rfl ?_
          refine ex_iaddN dX10_copy_135 ?_
          refine ex_aload_n (i := 0) dX10_copy_136 rfl rfl ?_
          refine ex_getR (v := .ref (87)) dX10_copy_137 fl_Model_101 rfl rfl (by decide) rfl ?_
          refine ex_iload_n (i := 1) dX10_copy_140 rfl rfl ?_
          refine ex_ialdN dX10_copy_141 rfl (by decide) (by omega) rfl ?_
          refine ex_asN (a := rl m) (by first | rfl | simp [xU, upd]) ?_
          refine ex_if_geN (tgt := 149) dX10_copy_142 (by decide) (by omega) ?_
          refine ex_iconst (v := nI 0) dX10_copy_149 (by decide) ?_
          refine ex_bastN dX10_copy_150 rfl (by decide) (by decide) (by omega) ?_
          refine ex_aload_n (i := 0) dX10_copy_151 rfl rfl ?_
          refine ex_getR (v := .ref (91)) dX10_copy_152 fl_Model_113 rfl rfl (by decide) rfl ?_
          refine ex_iconst (v := nI 3) dX10_copy_155 (by decide) ?_
          refine ex_iload_n (i := 1) dX10_copy_156 rfl rfl ?_
          refine ex_imulN dX10_copy_157 ?_
          refine ex_iload_n (i := 2) dX10_copy_158 rfl rfl ?_
          refine ex_iaddN dX10_copy_159 ?_
          refine ex_lconst (v := 0) dX10_copy_160 (by decide) ?_
          refine ex_lastN dX10_copy_161 rfl (by decide) (by omega) ?_
          refine ex_iincN (L' := [some (.ref (56)), some (.int (nI (m))), some (.int (nI (2)))]) dX10_copy_162 rfl rfl (by decide) rfl ?_
          refine ex_goto (tgt := 122) dX10_copy_165 (by decide) ?_
          refine ex_iload_n (i := 2) dX10_copy_122 rfl rfl ?_
          refine ex_iconst (v := nI 3) dX10_copy_123 (by decide) ?_
          refine ex_icmp_geN (tgt := 168) dX10_copy_124 (by decide) (by decide) (by decide) (fun h124 => by exact absurd h124 (by decide)) (fun h124 => ?_)
          refine ex_aload_n (i := 0) dX10_copy_127 rfl rfl ?_
          refine ex_getR (v := .ref (92)) dX10_copy_128 fl_Model_117 rfl rfl (by decide) rfl ?_
          refine ex_iconst (v := nI 3) dX10_copy_131 (by decide) ?_
          refine ex_iload_n (i := 1) dX10_copy_132 rfl rfl ?_
          refine ex_imulN dX10_copy_133 ?_
          refine ex_iload_n (i := 2) dX10_copy_134 rfl rfl ?_
          refine ex_iaddN dX10_copy_135 ?_
          refine ex_aload_n (i := 0) dX10_copy_136 rfl rfl ?_
          refine ex_getR (v := .ref (87)) dX10_copy_137 fl_Model_101 rfl rfl (by decide) rfl ?_
          refine ex_iload_n (i := 1) dX10_copy_140 rfl rfl ?_
          refine ex_ialdN dX10_copy_141 rfl (by decide) (by omega) rfl ?_
          refine ex_asN (a := rl m) (by first | rfl | simp [xU, upd]) ?_
          refine ex_if_geN (tgt := 149) dX10_copy_142 (by decide) (by omega) ?_
          refine ex_iconst (v := nI 0) dX10_copy_149 (by decide) ?_
          refine ex_bastN dX10_copy_150 rfl (by decide) (by decide) (by omega) ?_
          refine ex_aload_n (i := 0) dX10_copy_151 rfl rfl ?_
          refine ex_getR (v := .ref (91)) dX10_copy_152 fl_Model_113 rfl rfl (by decide) rfl ?_
          refine ex_iconst (v := nI 3) dX10_copy_155 (by decide) ?_
          refine ex_iload_n (i := 1) dX10_copy_156 rfl rfl ?_
          refine ex_imulN dX10_copy_157 ?_
          refine ex_iload_n (i := 2) dX10_copy_158 rfl rfl ?_
          refine ex_iaddN dX10_copy_159 ?_
          refine ex_lconst (v := 0) dX10_copy_160 (by decide) ?_
          refine ex_lastN dX10_copy_161 rfl (by decide) (by omega) ?_
          refine ex_iincN (L' := [some (.ref (56)), some (.int (nI (m))), some (.int (nI (3)))]) dX10_copy_162 rfl rfl (by decide) rfl ?_
          refine ex_goto (tgt := 122) dX10_copy_165 (by decide) ?_
          refine ex_iload_n (i := 2) dX10_copy_122 rfl rfl ?_
          refine ex_iconst (v := nI 3) dX10_copy_123 (by decide) ?_
          refine ex_icmp_geN (tgt := 168) dX10_copy_124 (by decide) (by decide) (by decide) (fun h124 => ?_) (fun h124 => by exact absurd h124 (by decide))
          refine ex_aload_n (i := 0) dX10_copy_168 rfl rfl ?_
          refine ex_getR (v := .ref (87)) dX10_copy_169 fl_Model_101 rfl rfl (by decide) rfl ?_
          refine ex_iload_n (i := 1) dX10_copy_172 rfl rfl ?_
          refine ex_ialdN dX10_copy_173 rfl (by decide) (by omega) rfl ?_
          refine ex_asN (a := rl m) (by first | rfl | simp [xU, upd]) ?_
          refine ex_if_geN (tgt := 214) dX10_copy_174 (by decide) (by omega) ?_
          refine ex_iincN (L' := [some (.ref (56)), some (.int (nI (m + 1))), some (.int (nI (3)))]) dX10_copy_214 rfl rfl (by decide) rfl ?_
          refine ex_goto (tgt := 32) dX10_copy_217 (by decide) ?_
          exact ex_less (L' := [some (.ref 56), some (.int (nI (m + 1))), none]) (by simp [xSub]) (FIN _ _ ((((((((hf.U (by decide) (by decide)).U (by decide) (by decide)).U (by decide) (by decide)).U (by decide) (by decide)).U (by decide) (by decide)).U (by decide) (by decide)).U (by decide) (by decide)).U (by decide) (by decide)) (by simp [xU]; exact h43) (by simp [xU]) (by simp [xU]) (by simp [xU, p2]) (by simp [xU, p3]) (Or.inr ⟨p, k, hpa, by simp [xU]⟩) (by simp [xU]) rfl)
  have ML1 : ∀ d m i1, m + d = 600 → Fm [86, 87, 88, 89, 90, 92] [43] i i1 → i1 56 43 = nI md → Wx m_Model_copy 10 [some (.ref 56), some (.int (nI m)), none] [] (94, g, i1, q, RT t) (0, 0) Q := by
    intro d
    induction d with
    | zero =>
      intro m i1 hm hf h43
      have e : m = 600 := hm
      subst e
      refine ex_iload_n (i := 1) dX10_copy_10 rfl rfl ?_
      refine ex_sipush (v := nI 600) dX10_copy_11 (by decide) ?_
      refine ex_icmp_geN (tgt := 30) dX10_copy_14 (by decide) (by decide) (by decide) (fun h14 => ?_) (fun h14 => by exact absurd h14 (by decide))
      refine ex_iconst (v := nI 0) dX10_copy_30 (by decide) ?_
      refine ex_istore_n (L' := [some (.ref (56)), some (.int (nI (0))), none]) dX10_copy_31 (i := 1) rfl (by decide) rfl ?_
      exact ML2 md 0 i1 q (by omega) hf h43 ⟨fun _ _ => rfl, fun j hj => by omega⟩
    | succ d ih =>
      intro m i1 hm hf h43
      refine ex_iload_n (i := 1) dX10_copy_10 rfl rfl ?_
      refine ex_sipush (v := nI 600) dX10_copy_11 (by decide) ?_
      refine ex_icmp_geN (tgt := 30) dX10_copy_14 (by decide) (by omega) (by omega) (fun h14 => by omega) (fun h14 => ?_)
      refine ex_aload_n (i := 0) dX10_copy_17 rfl rfl ?_
      refine ex_getR (v := .ref (90)) dX10_copy_18 fl_Model_110 rfl rfl (by decide) rfl ?_
      refine ex_iload_n (i := 1) dX10_copy_21 rfl rfl ?_
      refine ex_iconst (v := -1) dX10_copy_22 (by decide) ?_
      refine ex_iastN dX10_copy_23 rfl (by decide) (by omega) ?_
      refine ex_iincN (L' := [some (.ref (56)), some (.int (nI (m + 1))), none]) dX10_copy_24 rfl rfl (by decide) rfl ?_
      refine ex_goto (tgt := 10) dX10_copy_27 (by decide) ?_
      exact ih (m + 1) _ (by omega) (hf.U (by decide) (by decide)) (by rw [xU_ne _ _ _ (show (56 : Nat) ≠ 90 by decide)]; exact h43)
  refine ex_aload_n (i := 0) dX10_copy_0 rfl rfl ?_
  refine ex_aload_n (i := 0) dX10_copy_1 rfl rfl ?_
  refine ex_getI dX10_copy_2 fl_Model_227 rfl rfl (by decide) ?_
  refine ex_asN (a := md) h35 ?_
  refine ex_putI dX10_copy_5 fl_Model_234 cf_10 rfl (Or.inl rfl) rfl rfl rfl (by decide) ?_
  refine ex_iconst (v := nI 0) dX10_copy_8 (by decide) ?_
  refine ex_istore_n (L' := [some (.ref (56)), some (.int (nI (0))), none]) dX10_copy_9 (i := 1) rfl (by decide) rfl ?_
  exact ML1 600 0 _ rfl (Fm.rf.F (by decide)) (by rw [xU_at]; simp [upd])
end S77
