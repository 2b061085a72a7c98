/-! ===== the reference: reads ===== -/
/-- terminals by which state p goes on, up to k -/
def drN (TJ : Nat → Nat) (p : Nat) : Nat → Nat
  | 0 => 0
  | k + 1 => if 0 < TJ (14 * p + (k + 1)) then drN TJ p k ||| 1 * 2 ^ (k + 1) else drN TJ p k
def rd0 (TJ : Nat → Nat) (L0 j : Nat) : Nat := if ntB (j % 14) = 0 ∨ TJ j = 0 then 0 else if j = L0 then drN TJ (TJ j) 6 ||| 1 else drN TJ (TJ j) 6
theorem drN_lt {TJ : Nat → Nat} {p : Nat} : ∀ {k : Nat}, k ≤ 6 → drN TJ p k < 128
  | 0, _ => by show 0 < 128; decide
  | k + 1, h => by
    show (if 0 < TJ (14 * p + (k + 1)) then drN TJ p k ||| 1 * 2 ^ (k + 1) else drN TJ p k) < 128
    split
    · refine or_lt (drN_lt (by omega)) ?_
      rcases (show k = 0 ∨ k = 1 ∨ k = 2 ∨ k = 3 ∨ k = 4 ∨ k = 5 by omega) with rfl | rfl | rfl | rfl | rfl | rfl <;> decide
    · exact drN_lt (by omega)
theorem rd0_lt {TJ : Nat → Nat} {L0 j : Nat} : rd0 TJ L0 j < 128 := by
  unfold rd0; split
  · decide
  · split
    · exact or_lt (drN_lt (by decide)) (by decide)
    · exact drN_lt (by decide)
/-- closed sets of what can be read behind a way by a nonterminal -/
def clR (TJ f : Nat → Nat) (S L0 : Nat) (G : Nat → Nat) : Prop := (∀ j, j < 14 * S → sub (rd0 TJ L0 j) (G j)) ∧ ∀ j x, j < 14 * S → ¬ ntB (j % 14) = 0 → 0 < TJ j → 8 ≤ x → x < 14 → f x % 2 = 1 → 0 < TJ (14 * TJ j + x) → sub (G (14 * TJ j + x)) (G j)
def leR (TJ f : Nat → Nat) (S L0 : Nat) (R : Nat → Nat) : Prop := ∀ G, clR TJ f S L0 G → ∀ j, j < 14 * S → sub (R j) (G j)
section S69
variable {g : Nat} {i : Nat → Nat → Int32} {q : Nat → Nat → Int64} {t : Bool} {Q : xRes → xMem → Prop} {n : Nat} {sy : Nat → Nat → Nat} {TJ f : Nat → Nat} {S L0 : Nat}
theorem upN_grow {F : Nat → Nat} {j v N : Nat} (hj : j < N) (h1 : F j ≤ v) (h2 : v ≠ F j) : sumN F N < sumN (upN F j v) N := by
  refine sumN_lt (k := j) (fun k hk => ?_) hj (by rw [upN_at]; omega)
  unfold upN; split
  · rename_i e; rw [e]; exact h1
  · exact Nat.le_refl _
theorem lp_Model_reads_x {R1 : Nat → Nat} {j : Nat} {P : Prop} (hS : S ≤ 50) (hj : j < 14 * S) (h11 : i 56 11 = nI S) (hT : ∀ j, j < 14 * S → i 67 j = nI (TJ j) ∧ TJ j < S) (hB : BG i f)
    (hk : ∀ b i1 R, Fm [70] [] i i1 → Vw i1 70 (14 * S) R → (∀ k, R k < 128) → (∀ j, j < 14 * S → sub (rd0 TJ L0 j) (R j)) → leR TJ f S L0 R → (b = 0 ∧ R = R1 ∧ P ∧ (∀ x, 8 ≤ x → x < 14 → ¬ ntB (j % 14) = 0 → 0 < TJ j → f x % 2 = 1 → 0 < TJ (14 * TJ j + x) → sub (R (14 * TJ j + x)) (R j)) ∨ b = 1 ∧ sumN R1 (14 * S) < sumN R (14 * S)) → Wx m_Model_reads 233 [some (.ref 56), some (.int (nI b)), some (.int (nI j)), none, none, none] [] (94, g, i1, q, RT t) (0, 0) Q) :
    ∀ d x b i1 R, x + d = 14 → 8 ≤ x → Fm [70] [] i i1 → Vw i1 70 (14 * S) R → (∀ k, R k < 128) → (∀ j, j < 14 * S → sub (rd0 TJ L0 j) (R j)) → leR TJ f S L0 R → (b = 0 ∧ R = R1 ∧ P ∧ (∀ x', 8 ≤ x' → x' < x → ¬ ntB (j % 14) = 0 → 0 < TJ j → f x' % 2 = 1 → 0 < TJ (14 * TJ j + x') → sub (R (14 * TJ j + x')) (R j)) ∨ b = 1 ∧ sumN R1 (14 * S) < sumN R (14 * S)) →
      Wx m_Model_reads 139 [some (.ref 56), some (.int (nI b)), some (.int (nI j)), some (.int (nI (TJ j))), some (.int (nI x)), none] [] (94, g, i1, q, RT t) (0, 0) Q := by
  have hTj := (hT j hj).2
  intro d
  induction d with
  | zero =>
    intro x b i1 R hx h8 hf hV h128 h0 hl hh
    have e : x = 14 := hx
    subst e
    refine ex_iload dX10_reads_139 rfl ?_
    refine ex_bipush (v := nI 14) dX10_reads_141 (by decide) ?_
    refine ex_icmp_geN (tgt := 233) dX10_reads_143 (by decide) (by decide) (by decide) (fun h143 => ?_) (fun h143 => by exact absurd h143 (by decide))
    exact ex_less (L' := [some (.ref 56), some (.int (nI b)), some (.int (nI j)), none, none, none]) (by simp [xSub]) (hk b i1 R hf hV h128 h0 hl hh)
  | succ d ih =>
    intro x b i1 R hx h8 hf hV h128 h0 hl hh
    have hb01 : b < 2 := by rcases hh with h | h <;> omega
    have OUT : ntB (j % 14) = 0 ∨ TJ j = 0 → Wx m_Model_reads 233 [some (.ref 56), some (.int (nI b)), some (.int (nI j)), none, none, none] [] (94, g, i1, q, RT t) (0, 0) Q := fun ho =>
      hk b i1 R hf hV h128 h0 hl (hh.imp (fun h => ⟨h.1, h.2.1, h.2.2.1, fun x' _ _ n1 n2 _ _ => by rcases ho with z | z; exact absurd z n1; omega⟩) id)
    by_cases nt : ntB (j % 14) = 0
    ·
      refine ex_iload dX10_reads_139 rfl ?_
      refine ex_bipush (v := nI 14) dX10_reads_141 (by decide) ?_
      refine ex_icmp_geN (tgt := 233) dX10_reads_143 (by decide) (by omega) (by omega) (fun h143 => by omega) (fun h143 => ?_)
      refine ex_iload_n (i := 2) dX10_reads_146 rfl rfl ?_
      refine ex_bipush (v := nI 14) dX10_reads_147 (by decide) ?_
      refine ex_iremN dX10_reads_149 (by omega) (by decide) (by decide) ?_
      refine ex_cS (ν := m_Model_nonterminal) (as := [.int (nI (j % 14))]) dX10_reads_150 ln_Model_135 mf_Model_nonterminal np_Model_nonterminal rfl rfl ⟨(Nat.le_of_ble_eq_true rfl), (Nat.le_of_ble_eq_true rfl), (Nat.le_of_ble_eq_true rfl), (Nat.le_of_ble_eq_true rfl)⟩ (by decide) ?_
      refine sp_Model_nonterminal_N (by omega) ?_
      refine ⟨_, rfl, ?_⟩
      refine ex_if_eqN (tgt := 233) dX10_reads_153 (by decide) (ntB_b _) (fun h153 => ?_) (fun h153 => by exact absurd nt h153)
      exact ex_less (L' := [some (.ref 56), some (.int (nI b)), some (.int (nI j)), none, none, none]) (by simp [xSub]) (OUT (Or.inl nt))
    · by_cases tz : TJ j = 0
      ·
        refine ex_iload dX10_reads_139 rfl ?_
        refine ex_bipush (v := nI 14) dX10_reads_141 (by decide) ?_
        refine ex_icmp_geN (tgt := 233) dX10_reads_143 (by decide) (by omega) (by omega) (fun h143 => by omega) (fun h143 => ?_)
        refine ex_iload_n (i := 2) dX10_reads_146 rfl rfl ?_
        refine ex_bipush (v := nI 14) dX10_reads_147 (by decide) ?_
        refine ex_iremN dX10_reads_149 (by omega) (by decide) (by decide) ?_
        refine ex_cS (ν := m_Model_nonterminal) (as := [.int (nI (j % 14))]) dX10_reads_150 ln_Model_135 mf_Model_nonterminal np_Model_nonterminal rfl rfl ⟨(Nat.le_of_ble_eq_true rfl), (Nat.le_of_ble_eq_true rfl), (Nat.le_of_ble_eq_true rfl), (Nat.le_of_ble_eq_true rfl)⟩ (by decide) ?_
        refine sp_Model_nonterminal_N (by omega) ?_
        refine ⟨_, rfl, ?_⟩
        refine ex_if_eqN (tgt := 233) dX10_reads_153 (by decide) (ntB_b _) (fun h153 => by exact absurd h153 nt) (fun h153 => ?_)
        refine ex_iload_n (i := 3) dX10_reads_156 rfl rfl ?_
        refine ex_if_leN (tgt := 233) dX10_reads_157 (by decide) (by omega) (fun h157 => ?_) (fun h157 => by omega)
        exact ex_less (L' := [some (.ref 56), some (.int (nI b)), some (.int (nI j)), none, none, none]) (by simp [xSub]) (OUT (Or.inr tz))
      · have e68 : i1 68 x = nI (f x % 2) := by
          rw [hf.1 68 (by decide) (by decide), (hB x (by omega)).2]
          unfold fsT; rw [if_neg (by omega)]
        have hTx := hT (14 * TJ j + x) (by omega)
        have e67 : i1 67 (14 * TJ j + x) = nI (TJ (14 * TJ j + x)) := by rw [hf.1 67 (by decide) (by decide)]; exact hTx.1
        have hRx := h128 (14 * TJ j + x)
        have hRj := h128 j
        have SKIP : (f x % 2 = 0 ∨ TJ (14 * TJ j + x) = 0) → Wx m_Model_reads 139 [some (.ref 56), some (.int (nI b)), some (.int (nI j)), some (.int (nI (TJ j))), some (.int (nI (x + 1))), none] [] (94, g, i1, q, RT t) (0, 0) Q := fun ho =>
          ih (x + 1) b i1 R (by omega) (by omega) hf hV h128 h0 hl (hh.imp (fun h => ⟨h.1, h.2.1, h.2.2.1, fun x' a1 a2 a3 a4 a5 a6 => by
            by_cases e : x' = x
            · rw [e] at a5 a6; rcases ho with z | z <;> omega
            · exact h.2.2.2 x' a1 (by omega) a3 a4 a5 a6⟩) id)
        by_cases em : f x % 2 = 0
        ·
          refine ex_iload dX10_reads_139 rfl ?_
          refine ex_bipush (v := nI 14) dX10_reads_141 (by decide) ?_
          refine ex_icmp_geN (tgt := 233) dX10_reads_143 (by decide) (by omega) (by omega) (fun h143 => by omega) (fun h143 => ?_)
          refine ex_iload_n (i := 2) dX10_reads_146 rfl rfl ?_
          refine ex_bipush (v := nI 14) dX10_reads_147 (by decide) ?_
          refine ex_iremN dX10_reads_149 (by omega) (by decide) (by decide) ?_
          refine ex_cS (ν := m_Model_nonterminal) (as := [.int (nI (j % 14))]) dX10_reads_150 ln_Model_135 mf_Model_nonterminal np_Model_nonterminal rfl rfl ⟨(Nat.le_of_ble_eq_true rfl), (Nat.le_of_ble_eq_true rfl), (Nat.le_of_ble_eq_true rfl), (Nat.le_of_ble_eq_true rfl)⟩ (by decide) ?_
          refine sp_Model_nonterminal_N (by omega) ?_
          refine ⟨_, rfl, ?_⟩
          refine ex_if_eqN (tgt := 233) dX10_reads_153 (by decide) (ntB_b _) (fun h153 => by exact absurd h153 nt) (fun h153 => ?_)
          refine ex_iload_n (i := 3) dX10_reads_156 rfl rfl ?_
          refine ex_if_leN (tgt := 233) dX10_reads_157 (by decide) (by omega) (fun h157 => by omega) (fun h157 => ?_)
          refine ex_aload_n (i := 0) dX10_reads_160 rfl rfl ?_
          refine ex_getR (v := .ref (68)) dX10_reads_161 fl_Model_44 rfl rfl (by decide) rfl ?_
          refine ex_iload dX10_reads_164 rfl ?_
          refine ex_baldN dX10_reads_166 rfl (by decide) (by omega) rfl ?_
          refine ex_asN (a := f x % 2) e68 ?_
          refine ex_if_eqN (tgt := 227) dX10_reads_167 (by decide) (by omega) (fun h167 => ?_) (fun h167 => by omega)
          refine ex_iincN (L' := [some (.ref (56)), some (.int (nI (b))), some (.int (nI (j))), some (.int (nI (TJ j))), some (.int (nI (x + 1))), none]) dX10_reads_227 rfl rfl (by decide) rfl ?_
          refine ex_goto (tgt := 139) dX10_reads_230 (by decide) ?_
          exact SKIP (Or.inl em)
        · by_cases tx : TJ (14 * TJ j + x) = 0
          ·
            refine ex_iload dX10_reads_139 rfl ?_
            refine ex_bipush (v := nI 14) dX10_reads_141 (by decide) ?_
            refine ex_icmp_geN (tgt := 233) dX10_reads_143 (by decide) (by omega) (by omega) (fun h143 => by omega) (fun h143 => ?_)
            refine ex_iload_n (i := 2) dX10_reads_146 rfl rfl ?_
            refine ex_bipush (v := nI 14) dX10_reads_147 (by decide) ?_
            refine ex_iremN dX10_reads_149 (by omega) (by decide) (by decide) ?_
            refine ex_cS (ν := m_Model_nonterminal) (as := [.int (nI (j % 14))]) dX10_reads_150 ln_Model_135 mf_Model_nonterminal np_Model_nonterminal rfl rfl ⟨(Nat.le_of_ble_eq_true rfl), (Nat.le_of_ble_eq_true rfl), (Nat.le_of_ble_eq_true rfl), (Nat.le_of_ble_eq_true rfl)⟩ (by decide) ?_
            refine sp_Model_nonterminal_N (by omega) ?_
            refine ⟨_, rfl, ?_⟩
            refine ex_if_eqN (tgt := 233) dX10_reads_153 (by decide) (ntB_b _) (fun h153 => by exact absurd h153 nt) (fun h153 => ?_)
            refine ex_iload_n (i := 3) dX10_reads_156 rfl rfl ?_
            refine ex_if_leN (tgt := 233) dX10_reads_157 (by decide) (by omega) (fun h157 => by omega) (fun h157 => ?_)
            refine ex_aload_n (i := 0) dX10_reads_160 rfl rfl ?_
            refine ex_getR (v := .ref (68)) dX10_reads_161 fl_Model_44 rfl rfl (by decide) rfl ?_
            refine ex_iload dX10_reads_164 rfl ?_
            refine ex_baldN dX10_reads_166 rfl (by decide) (by omega) rfl ?_
            refine ex_asN (a := f x % 2) e68 ?_
            refine ex_if_eqN (tgt := 227) dX10_reads_167 (by decide) (by omega) (fun h167 => by omega) (fun h167 => ?_)
            refine ex_aload_n (i := 0) dX10_reads_170 rfl rfl ?_
            refine ex_getR (v := .ref (67)) dX10_reads_171 fl_Model_41 rfl rfl (by decide) rfl ?_
            refine ex_bipush (v := nI 14) dX10_reads_174 (by decide) ?_
            refine ex_iload_n (i := 3) dX10_reads_176 rfl rfl ?_
            refine ex_imulN dX10_reads_177 ?_
            refine ex_iload dX10_reads_178 rfl ?_
            refine ex_iaddN dX10_reads_180 ?_
            refine ex_ialdN dX10_reads_181 rfl (by decide) (by omega) rfl ?_
            refine ex_asN (a := TJ (14 * TJ j + x)) e67 ?_
            refine ex_if_leN (tgt := 227) dX10_reads_182 (by decide) (by omega) (fun h182 => ?_) (fun h182 => by omega)
            refine ex_iincN (L' := [some (.ref (56)), some (.int (nI (b))), some (.int (nI (j))), some (.int (nI (TJ j))), some (.int (nI (x + 1))), none]) dX10_reads_227 rfl rfl (by decide) rfl ?_
            refine ex_goto (tgt := 139) dX10_reads_230 (by decide) ?_
            exact SKIP (Or.inr tx)
          · have hor : R j ||| R (14 * TJ j + x) < 128 := or_lt hRj hRx
            have NX : ∀ i2 b2, i2 = xU i1 70 j (nI (R j ||| R (14 * TJ j + x))) → (b2 = 1 ∧ R j ||| R (14 * TJ j + x) ≠ R j ∨ b2 = b ∧ R j ||| R (14 * TJ j + x) = R j) → Wx m_Model_reads 139 [some (.ref 56), some (.int (nI b2)), some (.int (nI j)), some (.int (nI (TJ j))), some (.int (nI (x + 1))), none] [] (94, g, i2, q, RT t) (0, 0) Q := by
              intro i2 b2 hi2 hb2
              refine ih (x + 1) b2 i2 (upN R j (R j ||| R (14 * TJ j + x))) (by omega) (by omega) (by rw [hi2]; exact hf.U (by decide) (by decide)) (by rw [hi2]; exact hV.U) (fun k => ?_) (fun k hk => ?_) (fun G hG k hk => ?_) ?_
              · unfold upN; split
                · exact hor
                · exact h128 k
              · unfold upN; split
                · rename_i e; rw [e]; exact sub_tr (h0 j hj) sub_l
                · exact h0 k hk
              · unfold upN; split
                · rename_i e
                  rw [e]
                  exact sub_or (hl G hG j hj) (sub_tr (hl G hG _ (by omega)) (hG.2 j x hj nt (by omega) h8 (by omega) (by omega) (by omega)))
                · exact hl G hG k hk
              · rcases hb2 with ⟨e1, e2⟩ | ⟨e1, e2⟩
                · have hgr := upN_grow hj or_ge e2
                  refine Or.inr ⟨e1, ?_⟩
                  rcases hh with h | h
                  · rw [← h.2.1]; exact hgr
                  · omega
                · have hsame : upN R j (R j ||| R (14 * TJ j + x)) = R := by
                    funext k; unfold upN; split
                    · rename_i e; rw [e, e2]
                    · rfl
                  rw [hsame, e1]
                  refine hh.imp (fun h => ⟨h.1, h.2.1, h.2.2.1, fun x' a1 a2 a3 a4 a5 a6 => ?_⟩) id
                  by_cases e : x' = x
                  · rw [e]; exact sub_of_or e2
                  · exact h.2.2.2 x' a1 (by omega) a3 a4 a5 a6
            refine ex_iload dX10_reads_139 rfl ?_
            refine ex_bipush (v := nI 14) dX10_reads_141 (by decide) ?_
            refine ex_icmp_geN (tgt := 233) dX10_reads_143 (by decide) (by omega) (by omega) (fun h143 => by omega) (fun h143 => ?_)
            refine ex_iload_n (i := 2) dX10_reads_146 rfl rfl ?_
            refine ex_bipush (v := nI 14) dX10_reads_147 (by decide) ?_
            refine ex_iremN dX10_reads_149 (by omega) (by decide) (by decide) ?_
            refine ex_cS (ν := m_Model_nonterminal) (as := [.int (nI (j % 14))]) dX10_reads_150 ln_Model_135 mf_Model_nonterminal np_Model_nonterminal rfl rfl ⟨(Nat.le_of_ble_eq_true rfl), (Nat.le_of_ble_eq_true rfl), (Nat.le_of_ble_eq_true rfl), (Nat.le_of_ble_eq_true rfl)⟩ (by decide) ?_
            refine sp_Model_nonterminal_N (by omega) ?_
            refine ⟨_, rfl, ?_⟩
            refine ex_if_eqN (tgt := 233) dX10_reads_153 (by decide) (ntB_b _) (fun h153 => by exact absurd h153 nt) (fun h153 => ?_)
            refine ex_iload_n (i := 3) dX10_reads_156 rfl rfl ?_
            refine ex_if_leN (tgt := 233) dX10_reads_157 (by decide) (by omega) (fun h157 => by omega) (fun h157 => ?_)
            refine ex_aload_n (i := 0) dX10_reads_160 rfl rfl ?_
            refine ex_getR (v := .ref (68)) dX10_reads_161 fl_Model_44 rfl rfl (by decide) rfl ?_
            refine ex_iload dX10_reads_164 rfl ?_
            refine ex_baldN dX10_reads_166 rfl (by decide) (by omega) rfl ?_
            refine ex_asN (a := f x % 2) e68 ?_
            refine ex_if_eqN (tgt := 227) dX10_reads_167 (by decide) (by omega) (fun h167 => by omega) (fun h167 => ?_)
            refine ex_aload_n (i := 0) dX10_reads_170 rfl rfl ?_
            refine ex_getR (v := .ref (67)) dX10_reads_171 fl_Model_41 rfl rfl (by decide) rfl ?_
            refine ex_bipush (v := nI 14) dX10_reads_174 (by decide) ?_
            refine ex_iload_n (i := 3) dX10_reads_176 rfl rfl ?_
            refine ex_imulN dX10_reads_177 ?_
            refine ex_iload dX10_reads_178 rfl ?_
            refine ex_iaddN dX10_reads_180 ?_
            refine ex_ialdN dX10_reads_181 rfl (by decide) (by omega) rfl ?_
            refine ex_asN (a := TJ (14 * TJ j + x)) e67 ?_
            refine ex_if_leN (tgt := 227) dX10_reads_182 (by decide) (by omega) (fun h182 => by omega) (fun h182 => ?_)
            refine ex_aload_n (i := 0) dX10_reads_185 rfl rfl ?_
            refine ex_getR (v := .ref (70)) dX10_reads_186 fl_Model_50 rfl rfl (by decide) rfl ?_
            refine ex_iload_n (i := 2) dX10_reads_189 rfl rfl ?_
            refine ex_ialdN dX10_reads_190 rfl (by decide) (by omega) rfl ?_
            refine ex_asN (a := R j) (hV j hj) ?_
            refine ex_aload_n (i := 0) dX10_reads_191 rfl rfl ?_
            refine ex_getR (v := .ref (70)) dX10_reads_192 fl_Model_50 rfl rfl (by decide) rfl ?_
            refine ex_bipush (v := nI 14) dX10_reads_195 (by decide) ?_
            refine ex_iload_n (i := 3) dX10_reads_197 rfl rfl ?_
            refine ex_imulN dX10_reads_198 ?_
            refine ex_iload dX10_reads_199 rfl ?_
            refine ex_iaddN dX10_reads_201 ?_
            refine ex_ialdN dX10_reads_202 rfl (by decide) (by omega) rfl ?_
            refine ex_asN (a := R (14 * TJ j + x)) (hV _ (by omega)) ?_
            refine ex_iorN dX10_reads_203 ?_
            refine ex_istore (L' := [some (.ref (56)), some (.int (nI (b))), some (.int (nI (j))), some (.int (nI (TJ j))), some (.int (nI (x))), some (.int (nI ((R j) ||| (R (14 * TJ j + x)))))]) dX10_reads_204 (by decide) rfl ?_
            refine ex_iload dX10_reads_206 rfl ?_
            refine ex_aload_n (i := 0) dX10_reads_208 rfl rfl ?_
            refine ex_getR (v := .ref (70)) dX10_reads_209 fl_Model_50 rfl rfl (by decide) rfl ?_
            refine ex_iload_n (i := 2) dX10_reads_212 rfl rfl ?_
            refine ex_ialdN dX10_reads_213 rfl (by decide) (by omega) rfl ?_
            refine ex_asN (a := R j) (hV j hj) ?_
            refine ex_icmp_eqN (tgt := 219) dX10_reads_214 (by decide) (by first | omega | exact Nat.lt_trans hor (by decide)) (by first | omega | exact Nat.lt_trans hor (by decide)) (fun h214 => ?_) (fun h214 => ?_)
            · refine ex_aload_n (i := 0) dX10_reads_219 rfl rfl ?_
              refine ex_getR (v := .ref (70)) dX10_reads_220 fl_Model_50 rfl rfl (by decide) rfl ?_
              refine ex_iload_n (i := 2) dX10_reads_223 rfl rfl ?_
              refine ex_iload dX10_reads_224 rfl ?_
              refine ex_iastN dX10_reads_226 rfl (by decide) (by omega) ?_
              refine ex_iincN (L' := [some (.ref (56)), some (.int (nI (b))), some (.int (nI (j))), some (.int (nI (TJ j))), some (.int (nI (x + 1))), some (.int (nI ((R j) ||| (R (14 * TJ j + x)))))]) dX10_reads_227 rfl rfl (by decide) rfl ?_
              refine ex_goto (tgt := 139) dX10_reads_230 (by decide) ?_
              first | exact ex_less (L' := [some (.ref 56), some (.int (nI b)), some (.int (nI j)), some (.int (nI (TJ j))), some (.int (nI (x + 1))), none]) (by simp [xSub]) (NX _ b rfl (Or.inr ⟨rfl, h214⟩)) | exact ex_less (L' := [some (.ref 56), some (.int (nI 1)), some (.int (nI j)), some (.int (nI (TJ j))), some (.int (nI (x + 1))), none]) (by simp [xSub]) (NX _ 1 rfl (Or.inl ⟨rfl, h214⟩))
            · refine ex_iconst (v := nI 1) dX10_reads_217 (by decide) ?_
              refine ex_istore_n (L' := [some (.ref (56)), some (.int (nI (1))), some (.int (nI (j))), some (.int (nI (TJ j))), some (.int (nI (x))), some (.int (nI ((R j) ||| (R (14 * TJ j + x)))))]) dX10_reads_218 (i := 1) rfl (by decide) rfl ?_
              refine ex_aload_n (i := 0) dX10_reads_219 rfl rfl ?_
              refine ex_getR (v := .ref (70)) dX10_reads_220 fl_Model_50 rfl rfl (by decide) rfl ?_
              refine ex_iload_n (i := 2) dX10_reads_223 rfl rfl ?_
              refine ex_iload dX10_reads_224 rfl ?_
              refine ex_iastN dX10_reads_226 rfl (by decide) (by omega) ?_
              refine ex_iincN (L' := [some (.ref (56)), some (.int (nI (1))), some (.int (nI (j))), some (.int (nI (TJ j))), some (.int (nI (x + 1))), some (.int (nI ((R j) ||| (R (14 * TJ j + x)))))]) dX10_reads_227 rfl rfl (by decide) rfl ?_
              refine ex_goto (tgt := 139) dX10_reads_230 (by decide) ?_
              first | exact ex_less (L' := [some (.ref 56), some (.int (nI b)), some (.int (nI j)), some (.int (nI (TJ j))), some (.int (nI (x + 1))), none]) (by simp [xSub]) (NX _ b rfl (Or.inr ⟨rfl, h214⟩)) | exact ex_less (L' := [some (.ref 56), some (.int (nI 1)), some (.int (nI j)), some (.int (nI (TJ j))), some (.int (nI (x + 1))), none]) (by simp [xSub]) (NX _ 1 rfl (Or.inl ⟨rfl, h214⟩))
theorem lp_Model_reads_j {R1 : Nat → Nat} (hS : S ≤ 50) (h11 : i 56 11 = nI S) (hT : ∀ j, j < 14 * S → i 67 j = nI (TJ j) ∧ TJ j < S) (hB : BG i f)
    (hk : ∀ b i1 R, Fm [70] [] i i1 → Vw i1 70 (14 * S) R → (∀ k, R k < 128) → (∀ j, j < 14 * S → sub (rd0 TJ L0 j) (R j)) → leR TJ f S L0 R → (b = 0 ∧ R = R1 ∧ clR TJ f S L0 R ∨ b = 1 ∧ sumN R1 (14 * S) < sumN R (14 * S)) → Wx m_Model_reads 109 [some (.ref 56), some (.int (nI b)), none, none, none, none] [] (94, g, i1, q, RT t) (0, 0) Q) :
    ∀ d j b i1 R, j + d = 14 * S → Fm [70] [] i i1 → Vw i1 70 (14 * S) R → (∀ k, R k < 128) → (∀ j, j < 14 * S → sub (rd0 TJ L0 j) (R j)) → leR TJ f S L0 R → (b = 0 ∧ R = R1 ∧ (∀ j' x, j' < j → ¬ ntB (j' % 14) = 0 → 0 < TJ j' → 8 ≤ x → x < 14 → f x % 2 = 1 → 0 < TJ (14 * TJ j' + x) → sub (R (14 * TJ j' + x)) (R j')) ∨ b = 1 ∧ sumN R1 (14 * S) < sumN R (14 * S)) →
      Wx m_Model_reads 117 [some (.ref 56), some (.int (nI b)), some (.int (nI j)), none, none, none] [] (94, g, i1, q, RT t) (0, 0) Q := by
  intro d
  induction d with
  | zero =>
    intro j b i1 R hj hf hV h128 h0 hl hh
    have e : j = 14 * S := hj
    subst e
    have e11 : i1 56 11 = nI S := by rw [hf.2 11 (by decide)]; exact h11
    refine ex_iload_n (i := 2) dX10_reads_117 rfl rfl ?_
    refine ex_bipush (v := nI 14) dX10_reads_118 (by decide) ?_
    refine ex_aload_n (i := 0) dX10_reads_120 rfl rfl ?_
    refine ex_getI dX10_reads_121 fl_Model_170 rfl rfl (by decide) ?_
    refine ex_asN (a := S) e11 ?_
    refine ex_imulN dX10_reads_124 ?_
    refine ex_icmp_geN (tgt := 239) dX10_reads_125 (by decide) (by omega) (by omega) (fun h125 => ?_) (fun h125 => by omega)
    refine ex_goto (tgt := 109) dX10_reads_239 (by decide) ?_
    exact ex_less (L' := [some (.ref 56), some (.int (nI b)), none, none, none, none]) (by simp [xSub]) (hk b i1 R hf hV h128 h0 hl (hh.imp (fun h => ⟨h.1, h.2.1, h0, fun j x a1 a2 a3 a4 a5 a6 a7 => h.2.2 j x a1 a2 a3 a4 a5 a6 a7⟩) id))
  | succ d ih =>
    intro j b i1 R hj hf hV h128 h0 hl hh
    have hjl : j < 14 * S := by omega
    have e11 : i1 56 11 = nI S := by rw [hf.2 11 (by decide)]; exact h11
    have hTj := hT j hjl
    have e67 : i1 67 j = nI (TJ j) := by rw [hf.1 67 (by decide) (by decide)]; exact hTj.1
    have CONT : ∀ b2 i2 R2, Fm [70] [] i i2 → Vw i2 70 (14 * S) R2 → (∀ k, R2 k < 128) → (∀ j, j < 14 * S → sub (rd0 TJ L0 j) (R2 j)) → leR TJ f S L0 R2 → (b2 = 0 ∧ R2 = R1 ∧ (∀ j' x, j' < j → ¬ ntB (j' % 14) = 0 → 0 < TJ j' → 8 ≤ x → x < 14 → f x % 2 = 1 → 0 < TJ (14 * TJ j' + x) → sub (R1 (14 * TJ j' + x)) (R1 j')) ∧ (∀ x, 8 ≤ x → x < 14 → ¬ ntB (j % 14) = 0 → 0 < TJ j → f x % 2 = 1 → 0 < TJ (14 * TJ j + x) → sub (R2 (14 * TJ j + x)) (R2 j)) ∨ b2 = 1 ∧ sumN R1 (14 * S) < sumN R2 (14 * S)) → Wx m_Model_reads 233 [some (.ref 56), some (.int (nI b2)), some (.int (nI j)), none, none, none] [] (94, g, i2, q, RT t) (0, 0) Q := by
      intro b2 i2 R2 a1 a2 a3 a4 a5 a6
      refine ex_iincN (L' := [some (.ref (56)), some (.int (nI (b2))), some (.int (nI (j + 1))), none, none, none]) dX10_reads_233 rfl rfl (by decide) rfl ?_
      refine ex_goto (tgt := 117) dX10_reads_236 (by decide) ?_
      refine ih (j + 1) b2 i2 R2 (by omega) a1 a2 a3 a4 a5 (a6.imp (fun h => ⟨h.1, h.2.1, fun j' x c1 c2 c3 c4 c5 c6 c7 => ?_⟩) id)
      by_cases e : j' = j
      · rw [e] at c2 c3 c7 ⊢; exact h.2.2.2 x c4 c5 c2 c3 c6 c7
      · rw [h.2.1]; exact h.2.2.1 j' x (by omega) c2 c3 c4 c5 c6 c7
    have X := lp_Model_reads_x (R1 := R1) (L0 := L0) (g := g) (q := q) (t := t) (Q := Q) hS hjl h11 hT hB CONT 6 8 b i1 R rfl (by decide) hf hV h128 h0 hl (hh.imp (fun h => ⟨h.1, h.2.1, by rw [← h.2.1]; exact h.2.2, fun x' _ _ => by omega⟩) id)
    refine ex_iload_n (i := 2) dX10_reads_117 rfl rfl ?_
    refine ex_bipush (v := nI 14) dX10_reads_118 (by decide) ?_
    refine ex_aload_n (i := 0) dX10_reads_120 rfl rfl ?_
    refine ex_getI dX10_reads_121 fl_Model_170 rfl rfl (by decide) ?_
    refine ex_asN (a := S) e11 ?_
    refine ex_imulN dX10_reads_124 ?_
    refine ex_icmp_geN (tgt := 239) dX10_reads_125 (by decide) (by omega) (by omega) (fun h125 => by omega) (fun h125 => ?_)
    refine ex_aload_n (i := 0) dX10_reads_128 rfl rfl ?_
    refine ex_getR (v := .ref (67)) dX10_reads_129 fl_Model_41 rfl rfl (by decide) rfl ?_
    refine ex_iload_n (i := 2) dX10_reads_132 rfl rfl ?_
    refine ex_ialdN dX10_reads_133 rfl (by decide) (by omega) rfl ?_
    refine ex_asN (a := TJ j) e67 ?_
    refine ex_istore_n (L' := [some (.ref (56)), some (.int (nI (b))), some (.int (nI (j))), some (.int (nI (TJ j))), none, none]) dX10_reads_134 (i := 3) rfl (by decide) rfl ?_
    refine ex_bipush (v := nI 8) dX10_reads_135 (by decide) ?_
    refine ex_istore (L' := [some (.ref (56)), some (.int (nI (b))), some (.int (nI (j))), some (.int (nI (TJ j))), some (.int (nI (8))), none]) dX10_reads_137 (by decide) rfl ?_
    exact X
theorem sp_Model_reads (hS : S ≤ 50) (hL0 : L0 < 14) (h11 : i 56 11 = nI S) (hT : ∀ j, j < 14 * S → i 67 j = nI (TJ j) ∧ TJ j < S) (hB : BG i f) (h57 : i 57 0 = nI L0)
    (hQ : ∀ i1 R, Fm [70] [] i i1 → Vw i1 70 (14 * S) R → (∀ k, R k < 128) → clR TJ f S L0 R → leR TJ f S L0 R → Q (.ok none) (94, g, i1, q, RT t)) :
    Wx m_Model_reads 0 [some (.ref 56), none, none, none, none, none] [] (94, g, i, q, RT t) (0, 0) Q := by
  have EXIT : ∀ i1 R, Fm [70] [] i i1 → Vw i1 70 (14 * S) R → (∀ k, R k < 128) → clR TJ f S L0 R → leR TJ f S L0 R → Wx m_Model_reads 109 [some (.ref 56), some (.int (nI 0)), none, none, none, none] [] (94, g, i1, q, RT t) (0, 0) Q := by
    intro i1 R a1 a2 a3 a4 a5
    refine ex_iload_n (i := 1) dX10_reads_109 rfl rfl ?_
    refine ex_if_eqN (tgt := 242) dX10_reads_110 (by decide) (by omega) (fun h110 => ?_) (fun h110 => by exact absurd h110 (by decide))
    refine ex_ret dX10_reads_242 rfl ?_
    exact hQ i1 R a1 a2 a3 a4 a5
  have OUT : ∀ m i1 R, 14 * S * 128 < sumN R (14 * S) + m → Fm [70] [] i i1 → Vw i1 70 (14 * S) R → (∀ k, R k < 128) → (∀ j, j < 14 * S → sub (rd0 TJ L0 j) (R j)) → leR TJ f S L0 R → Wx m_Model_reads 109 [some (.ref 56), some (.int (nI 1)), none, none, none, none] [] (94, g, i1, q, RT t) (0, 0) Q := by
    intro m
    induction m with
    | zero =>
      intro i1 R hm _ _ hb _ _
      have := sumN_le (F := R) (B := 128) (N := 14 * S) (fun j _ => Nat.le_of_lt (hb j))
      omega
    | succ m ih =>
      intro i1 R hm hf hV h128 h0 hl
      have J := lp_Model_reads_j (R1 := R) (L0 := L0) (g := g) (q := q) (t := t) (Q := Q) hS h11 hT hB (fun b i2 R2 a1 a2 a3 a4 a5 a6 => by
        rcases a6 with ⟨rfl, rfl, hc⟩ | ⟨rfl, hlt⟩
        · exact EXIT i2 _ a1 a2 a3 hc a5
        · exact ih i2 R2 (by omega) a1 a2 a3 a4 a5) (14 * S) 0 0 i1 R (by omega) hf hV h128 h0 hl (Or.inl ⟨rfl, rfl, fun j' x h => by omega⟩)
      refine ex_iload_n (i := 1) dX10_reads_109 rfl rfl ?_
      refine ex_if_eqN (tgt := 242) dX10_reads_110 (by decide) (by omega) (fun h110 => by exact absurd h110 (by decide)) (fun h110 => ?_)
      refine ex_iconst (v := nI 0) dX10_reads_113 (by decide) ?_
      refine ex_istore_n (L' := [some (.ref (56)), some (.int (nI (0))), none, none, none, none]) dX10_reads_114 (i := 1) rfl (by decide) rfl ?_
      refine ex_iconst (v := nI 0) dX10_reads_115 (by decide) ?_
      refine ex_istore_n (L' := [some (.ref (56)), some (.int (nI (0))), some (.int (nI (0))), none, none, none]) dX10_reads_116 (i := 2) rfl (by decide) rfl ?_
      exact J
  have NEXT : ∀ d j i1, j + d = 14 * S → Fm [70] [] i i1 → (∀ j', j' < j → i1 70 j' = nI (rd0 TJ L0 j')) → Wx m_Model_reads 2 [some (.ref 56), some (.int (nI j)), none, none, none, none] [] (94, g, i1, q, RT t) (0, 0) Q := by
    intro d
    induction d with
    | zero =>
      intro j i1 hj hf h
      have e : j = 14 * S := hj
      subst e
      have e11 : i1 56 11 = nI S := by rw [hf.2 11 (by decide)]; exact h11
      refine ex_iload_n (i := 1) dX10_reads_2 rfl rfl ?_
      refine ex_bipush (v := nI 14) dX10_reads_3 (by decide) ?_
      refine ex_aload_n (i := 0) dX10_reads_5 rfl rfl ?_
      refine ex_getI dX10_reads_6 fl_Model_170 rfl rfl (by decide) ?_
      refine ex_asN (a := S) e11 ?_
      refine ex_imulN dX10_reads_9 ?_
      refine ex_icmp_geN (tgt := 107) dX10_reads_10 (by decide) (by omega) (by omega) (fun h10 => ?_) (fun h10 => by omega)
      refine ex_iconst (v := nI 1) dX10_reads_107 (by decide) ?_
      refine ex_istore_n (L' := [some (.ref (56)), some (.int (nI (1))), none, none, none, none]) dX10_reads_108 (i := 1) rfl (by decide) rfl ?_
      exact ex_less (L' := [some (.ref 56), some (.int (nI 1)), none, none, none, none]) (by simp [xSub]) (OUT (14 * S * 128 + 1) i1 (rd0 TJ L0) (by omega) hf h (fun k => rd0_lt) (fun j _ => sub_rf) (fun G hG j hj => hG.1 j hj))
    | succ d ih =>
      intro j i1 hj hf h
      have hjl : j < 14 * S := by omega
      have e11 : i1 56 11 = nI S := by rw [hf.2 11 (by decide)]; exact h11
      have hTj := hT j hjl
      have e67 : i1 67 j = nI (TJ j) := by rw [hf.1 67 (by decide) (by decide)]; exact hTj.1
      have AFT : ∀ i2, Fm [70] [] i i2 → (∀ j', j' < j → i2 70 j' = nI (rd0 TJ L0 j')) → i2 70 j = nI (rd0 TJ L0 j) → Wx m_Model_reads 101 [some (.ref 56), some (.int (nI j)), none, none, none, none] [] (94, g, i2, q, RT t) (0, 0) Q := by
        intro i2 a1 a2 a3
        refine ex_iincN (L' := [some (.ref (56)), some (.int (nI (j + 1))), none, none, none, none]) dX10_reads_101 rfl rfl (by decide) rfl ?_
        refine ex_goto (tgt := 2) dX10_reads_104 (by decide) ?_
        refine ih (j + 1) i2 (by omega) a1 (fun j' hj' => ?_)
        by_cases e : j' = j
        · rw [e]; exact a3
        · exact a2 j' (by omega)
      have hz : rd0 TJ L0 j = if ntB (j % 14) = 0 ∨ TJ j = 0 then 0 else if j = L0 then drN TJ (TJ j) 6 ||| 1 else drN TJ (TJ j) 6 := rfl
      have hf2 : Fm [70] [] i (xU i1 70 j (nI 0)) := hf.U (by decide) (by decide)
      have h2 : ∀ j', j' < j → xU i1 70 j (nI 0) 70 j' = nI (rd0 TJ L0 j') := fun j' hj' => by rw [xU_at]; unfold upd; rw [if_neg (by omega)]; exact h j' hj'
      have h2j : xU i1 70 j (nI 0) 70 j = nI 0 := by rw [xU_at]; simp [upd]
      by_cases nt : ntB (j % 14) = 0
      · rw [if_pos (Or.inl nt)] at hz
        refine ex_iload_n (i := 1) dX10_reads_2 rfl rfl ?_
        refine ex_bipush (v := nI 14) dX10_reads_3 (by decide) ?_
        refine ex_aload_n (i := 0) dX10_reads_5 rfl rfl ?_
        refine ex_getI dX10_reads_6 fl_Model_170 rfl rfl (by decide) ?_
        refine ex_asN (a := S) e11 ?_
        refine ex_imulN dX10_reads_9 ?_
        refine ex_icmp_geN (tgt := 107) dX10_reads_10 (by decide) (by omega) (by omega) (fun h10 => by omega) (fun h10 => ?_)
        refine ex_aload_n (i := 0) dX10_reads_13 rfl rfl ?_
        refine ex_getR (v := .ref (70)) dX10_reads_14 fl_Model_50 rfl rfl (by decide) rfl ?_
        refine ex_iload_n (i := 1) dX10_reads_17 rfl rfl ?_
        refine ex_iconst (v := nI 0) dX10_reads_18 (by decide) ?_
        refine ex_iastN dX10_reads_19 rfl (by decide) (by omega) ?_
        refine ex_aload_n (i := 0) dX10_reads_20 rfl rfl ?_
        refine ex_getR (v := .ref (67)) dX10_reads_21 fl_Model_41 rfl rfl (by decide) rfl ?_
        refine ex_iload_n (i := 1) dX10_reads_24 rfl rfl ?_
        refine ex_ialdN dX10_reads_25 rfl (by decide) (by omega) rfl ?_
        refine ex_asN (a := TJ j) e67 ?_
        refine ex_istore_n (L' := [some (.ref (56)), some (.int (nI (j))), some (.int (nI (TJ j))), none, none, none]) dX10_reads_26 (i := 2) rfl (by decide) rfl ?_
        refine ex_iload_n (i := 1) dX10_reads_27 rfl rfl ?_
        refine ex_bipush (v := nI 14) dX10_reads_28 (by decide) ?_
        refine ex_iremN dX10_reads_30 (by omega) (by decide) (by decide) ?_
        refine ex_cS (ν := m_Model_nonterminal) (as := [.int (nI (j % 14))]) dX10_reads_31 ln_Model_135 mf_Model_nonterminal np_Model_nonterminal rfl rfl ⟨(Nat.le_of_ble_eq_true rfl), (Nat.le_of_ble_eq_true rfl), (Nat.le_of_ble_eq_true rfl), (Nat.le_of_ble_eq_true rfl)⟩ (by decide) ?_
        refine sp_Model_nonterminal_N (by omega) ?_
        refine ⟨_, rfl, ?_⟩
        refine ex_if_eqN (tgt := 101) dX10_reads_34 (by decide) (ntB_b _) (fun h34 => ?_) (fun h34 => by exact absurd nt h34)
        exact ex_less (L' := [some (.ref 56), some (.int (nI j)), none, none, none, none]) (by simp [xSub]) (AFT _ hf2 h2 (by rw [hz]; exact h2j))
      · by_cases tz : TJ j = 0
        · rw [if_pos (Or.inr tz)] at hz
          refine ex_iload_n (i := 1) dX10_reads_2 rfl rfl ?_
          refine ex_bipush (v := nI 14) dX10_reads_3 (by decide) ?_
          refine ex_aload_n (i := 0) dX10_reads_5 rfl rfl ?_
          refine ex_getI dX10_reads_6 fl_Model_170 rfl rfl (by decide) ?_
          refine ex_asN (a := S) e11 ?_
          refine ex_imulN dX10_reads_9 ?_
          refine ex_icmp_geN (tgt := 107) dX10_reads_10 (by decide) (by omega) (by omega) (fun h10 => by omega) (fun h10 => ?_)
          refine ex_aload_n (i := 0) dX10_reads_13 rfl rfl ?_
          refine ex_getR (v := .ref (70)) dX10_reads_14 fl_Model_50 rfl rfl (by decide) rfl ?_
          refine ex_iload_n (i := 1) dX10_reads_17 rfl rfl ?_
          refine ex_iconst (v := nI 0) dX10_reads_18 (by decide) ?_
          refine ex_iastN dX10_reads_19 rfl (by decide) (by omega) ?_
          refine ex_aload_n (i := 0) dX10_reads_20 rfl rfl ?_
          refine ex_getR (v := .ref (67)) dX10_reads_21 fl_Model_41 rfl rfl (by decide) rfl ?_
          refine ex_iload_n (i := 1) dX10_reads_24 rfl rfl ?_
          refine ex_ialdN dX10_reads_25 rfl (by decide) (by omega) rfl ?_
          refine ex_asN (a := TJ j) e67 ?_
          refine ex_istore_n (L' := [some (.ref (56)), some (.int (nI (j))), some (.int (nI (TJ j))), none, none, none]) dX10_reads_26 (i := 2) rfl (by decide) rfl ?_
          refine ex_iload_n (i := 1) dX10_reads_27 rfl rfl ?_
          refine ex_bipush (v := nI 14) dX10_reads_28 (by decide) ?_
          refine ex_iremN dX10_reads_30 (by omega) (by decide) (by decide) ?_
          refine ex_cS (ν := m_Model_nonterminal) (as := [.int (nI (j % 14))]) dX10_reads_31 ln_Model_135 mf_Model_nonterminal np_Model_nonterminal rfl rfl ⟨(Nat.le_of_ble_eq_true rfl), (Nat.le_of_ble_eq_true rfl), (Nat.le_of_ble_eq_true rfl), (Nat.le_of_ble_eq_true rfl)⟩ (by decide) ?_
          refine sp_Model_nonterminal_N (by omega) ?_
          refine ⟨_, rfl, ?_⟩
          refine ex_if_eqN (tgt := 101) dX10_reads_34 (by decide) (ntB_b _) (fun h34 => by exact absurd h34 nt) (fun h34 => ?_)
          refine ex_iload_n (i := 2) dX10_reads_37 rfl rfl ?_
          refine ex_if_leN (tgt := 101) dX10_reads_38 (by decide) (by omega) (fun h38 => ?_) (fun h38 => by omega)
          exact ex_less (L' := [some (.ref 56), some (.int (nI j)), none, none, none, none]) (by simp [xSub]) (AFT _ hf2 h2 (by rw [hz]; exact h2j))
        · rw [if_neg (fun z => z.elim nt tz)] at hz
          have TL : ∀ d k i2, k + d = 6 → Fm [70] [] i i2 → (∀ j', j' < j → i2 70 j' = nI (rd0 TJ L0 j')) → i2 70 j = nI (drN TJ (TJ j) k) → Wx m_Model_reads 43 [some (.ref 56), some (.int (nI j)), some (.int (nI (TJ j))), some (.int (nI (k + 1))), none, none] [] (94, g, i2, q, RT t) (0, 0) Q := by
            intro d
            induction d with
            | zero =>
              intro k i2 hk a1 a2 a3
              have e : k = 6 := hk
              subst e
              have e570 : i2 57 0 = nI L0 := by rw [a1.1 57 (by decide) (by decide)]; exact h57
              by_cases c : j = L0
              · rw [if_pos c] at hz
                refine ex_iload_n (i := 3) dX10_reads_43 rfl rfl ?_
                refine ex_bipush (v := nI 7) dX10_reads_44 (by decide) ?_
                refine ex_icmp_geN (tgt := 81) dX10_reads_46 (by decide) (by decide) (by decide) (fun h46 => ?_) (fun h46 => by exact absurd h46 (by decide))
                refine ex_iload_n (i := 1) dX10_reads_81 rfl rfl ?_
                refine ex_aload_n (i := 0) dX10_reads_82 rfl rfl ?_
                refine ex_getR (v := .ref (57)) dX10_reads_83 fl_Model_7 rfl rfl (by decide) rfl ?_
                refine ex_iconst (v := nI 0) dX10_reads_86 (by decide) ?_
                refine ex_ialdN dX10_reads_87 rfl (by decide) (by omega) rfl ?_
                refine ex_asN (a := L0) e570 ?_
                refine ex_icmp_neN (tgt := 101) dX10_reads_88 (by decide) (by omega) (by omega) (fun h88 => by exact absurd c h88) (fun h88 => ?_)
                refine ex_aload_n (i := 0) dX10_reads_91 rfl rfl ?_
                refine ex_getR (v := .ref (70)) dX10_reads_92 fl_Model_50 rfl rfl (by decide) rfl ?_
                refine ex_iload_n (i := 1) dX10_reads_95 rfl rfl ?_
                refine ex_dup2 dX10_reads_96 rfl rfl ?_
                refine ex_ialdN dX10_reads_97 rfl (by decide) (by omega) rfl ?_
                refine ex_asN (a := drN TJ (TJ j) 6) a3 ?_
                refine ex_iconst (v := nI 1) dX10_reads_98 (by decide) ?_
                refine ex_iorN dX10_reads_99 ?_
                refine ex_iastN dX10_reads_100 rfl (by decide) (by omega) ?_
                refine ex_less (L' := [some (.ref 56), some (.int (nI j)), none, none, none, none]) (by simp [xSub]) (AFT _ (a1.U (by decide) (by decide)) (fun j' hj' => ?_) ?_)
                · rw [xU_at]; unfold upd; rw [if_neg (by omega)]; exact a2 j' hj'
                · rw [xU_at, hz]; simp [upd]
              · rw [if_neg c] at hz
                refine ex_iload_n (i := 3) dX10_reads_43 rfl rfl ?_
                refine ex_bipush (v := nI 7) dX10_reads_44 (by decide) ?_
                refine ex_icmp_geN (tgt := 81) dX10_reads_46 (by decide) (by decide) (by decide) (fun h46 => ?_) (fun h46 => by exact absurd h46 (by decide))
                refine ex_iload_n (i := 1) dX10_reads_81 rfl rfl ?_
                refine ex_aload_n (i := 0) dX10_reads_82 rfl rfl ?_
                refine ex_getR (v := .ref (57)) dX10_reads_83 fl_Model_7 rfl rfl (by decide) rfl ?_
                refine ex_iconst (v := nI 0) dX10_reads_86 (by decide) ?_
                refine ex_ialdN dX10_reads_87 rfl (by decide) (by omega) rfl ?_
                refine ex_asN (a := L0) e570 ?_
                refine ex_icmp_neN (tgt := 101) dX10_reads_88 (by decide) (by omega) (by omega) (fun h88 => ?_) (fun h88 => by exact absurd h88 c)
                exact ex_less (L' := [some (.ref 56), some (.int (nI j)), none, none, none, none]) (by simp [xSub]) (AFT i2 a1 a2 (by rw [hz]; exact a3))
            | succ d ih3 =>
              intro k i2 hk a1 a2 a3
              have hTt := hT (14 * TJ j + (k + 1)) (by omega)
              have e67b : i2 67 (14 * TJ j + (k + 1)) = nI (TJ (14 * TJ j + (k + 1))) := by rw [a1.1 67 (by decide) (by decide)]; exact hTt.1
              have hd : drN TJ (TJ j) (k + 1) = if 0 < TJ (14 * TJ j + (k + 1)) then drN TJ (TJ j) k ||| 1 * 2 ^ (k + 1) else drN TJ (TJ j) k := rfl
              have e3 : 1 * 2 ^ (k + 1) < 2 ^ 32 := by rcases (show k = 0 ∨ k = 1 ∨ k = 2 ∨ k = 3 ∨ k = 4 ∨ k = 5 by omega) with rfl | rfl | rfl | rfl | rfl | rfl <;> decide
              by_cases c : 0 < TJ (14 * TJ j + (k + 1))
              · rw [if_pos c] at hd
                refine ex_iload_n (i := 3) dX10_reads_43 rfl rfl ?_
                refine ex_bipush (v := nI 7) dX10_reads_44 (by decide) ?_
                refine ex_icmp_geN (tgt := 81) dX10_reads_46 (by decide) (by omega) (by omega) (fun h46 => by omega) (fun h46 => ?_)
                refine ex_aload_n (i := 0) dX10_reads_49 rfl rfl ?_
                refine ex_getR (v := .ref (67)) dX10_reads_50 fl_Model_41 rfl rfl (by decide) rfl ?_
                refine ex_bipush (v := nI 14) dX10_reads_53 (by decide) ?_
                refine ex_iload_n (i := 2) dX10_reads_55 rfl rfl ?_
                refine ex_imulN dX10_reads_56 ?_
                refine ex_iload_n (i := 3) dX10_reads_57 rfl rfl ?_
                refine ex_iaddN dX10_reads_58 ?_
                refine ex_ialdN dX10_reads_59 rfl (by decide) (by omega) rfl ?_
                refine ex_asN (a := TJ (14 * TJ j + (k + 1))) e67b ?_
                refine ex_if_leN (tgt := 75) dX10_reads_60 (by decide) (by omega) (fun h60 => by omega) (fun h60 => ?_)
                refine ex_aload_n (i := 0) dX10_reads_63 rfl rfl ?_
                refine ex_getR (v := .ref (70)) dX10_reads_64 fl_Model_50 rfl rfl (by decide) rfl ?_
                refine ex_iload_n (i := 1) dX10_reads_67 rfl rfl ?_
                refine ex_dup2 dX10_reads_68 rfl rfl ?_
                refine ex_ialdN dX10_reads_69 rfl (by decide) (by omega) rfl ?_
                refine ex_asN (a := drN TJ (TJ j) k) a3 ?_
                refine ex_iconst (v := nI 1) dX10_reads_70 (by decide) ?_
                refine ex_iload_n (i := 3) dX10_reads_71 rfl rfl ?_
                refine ex_ishlN dX10_reads_72 (by first | omega | exact e3) (by first | omega | exact e3) ?_
                refine ex_iorN dX10_reads_73 ?_
                refine ex_iastN dX10_reads_74 rfl (by decide) (by omega) ?_
                refine ex_iincN (L' := [some (.ref (56)), some (.int (nI (j))), some (.int (nI (TJ j))), some (.int (nI (k + 1 + 1))), none, none]) dX10_reads_75 rfl rfl (by decide) rfl ?_
                refine ex_goto (tgt := 43) dX10_reads_78 (by decide) ?_
                refine ih3 (k + 1) _ (by omega) (a1.U (by decide) (by decide)) (fun j' hj' => ?_) ?_
                · rw [xU_at]; unfold upd; rw [if_neg (by omega)]; exact a2 j' hj'
                · rw [xU_at, hd]; simp [upd]
              · rw [if_neg c] at hd
                refine ex_iload_n (i := 3) dX10_reads_43 rfl rfl ?_
                refine ex_bipush (v := nI 7) dX10_reads_44 (by decide) ?_
                refine ex_icmp_geN (tgt := 81) dX10_reads_46 (by decide) (by omega) (by omega) (fun h46 => by omega) (fun h46 => ?_)
                refine ex_aload_n (i := 0) dX10_reads_49 rfl rfl ?_
                refine ex_getR (v := .ref (67)) dX10_reads_50 fl_Model_41 rfl rfl (by decide) rfl ?_
                refine ex_bipush (v := nI 14) dX10_reads_53 (by decide) ?_
                refine ex_iload_n (i := 2) dX10_reads_55 rfl rfl ?_
                refine ex_imulN dX10_reads_56 ?_
                refine ex_iload_n (i := 3) dX10_reads_57 rfl rfl ?_
                refine ex_iaddN dX10_reads_58 ?_
                refine ex_ialdN dX10_reads_59 rfl (by decide) (by omega) rfl ?_
                refine ex_asN (a := TJ (14 * TJ j + (k + 1))) e67b ?_
                refine ex_if_leN (tgt := 75) dX10_reads_60 (by decide) (by omega) (fun h60 => ?_) (fun h60 => by omega)
                refine ex_iincN (L' := [some (.ref (56)), some (.int (nI (j))), some (.int (nI (TJ j))), some (.int (nI (k + 1 + 1))), none, none]) dX10_reads_75 rfl rfl (by decide) rfl ?_
                refine ex_goto (tgt := 43) dX10_reads_78 (by decide) ?_
                exact ih3 (k + 1) i2 (by omega) a1 a2 (by rw [hd]; exact a3)
          have TL0 := TL 6 0 (xU i1 70 j (nI 0)) rfl hf2 h2 h2j
          refine ex_iload_n (i := 1) dX10_reads_2 rfl rfl ?_
          refine ex_bipush (v := nI 14) dX10_reads_3 (by decide) ?_
          refine ex_aload_n (i := 0) dX10_reads_5 rfl rfl ?_
          refine ex_getI dX10_reads_6 fl_Model_170 rfl rfl (by decide) ?_
          refine ex_asN (a := S) e11 ?_
          refine ex_imulN dX10_reads_9 ?_
          refine ex_icmp_geN (tgt := 107) dX10_reads_10 (by decide) (by omega) (by omega) (fun h10 => by omega) (fun h10 => ?_)
          refine ex_aload_n (i := 0) dX10_reads_13 rfl rfl ?_
          refine ex_getR (v := .ref (70)) dX10_reads_14 fl_Model_50 rfl rfl (by decide) rfl ?_
          refine ex_iload_n (i := 1) dX10_reads_17 rfl rfl ?_
          refine ex_iconst (v := nI 0) dX10_reads_18 (by decide) ?_
          refine ex_iastN dX10_reads_19 rfl (by decide) (by omega) ?_
          refine ex_aload_n (i := 0) dX10_reads_20 rfl rfl ?_
          refine ex_getR (v := .ref (67)) dX10_reads_21 fl_Model_41 rfl rfl (by decide) rfl ?_
          refine ex_iload_n (i := 1) dX10_reads_24 rfl rfl ?_
          refine ex_ialdN dX10_reads_25 rfl (by decide) (by omega) rfl ?_
          refine ex_asN (a := TJ j) e67 ?_
          refine ex_istore_n (L' := [some (.ref (56)), some (.int (nI (j))), some (.int (nI (TJ j))), none, none, none]) dX10_reads_26 (i := 2) rfl (by decide) rfl ?_
          refine ex_iload_n (i := 1) dX10_reads_27 rfl rfl ?_
          refine ex_bipush (v := nI 14) dX10_reads_28 (by decide) ?_
          refine ex_iremN dX10_reads_30 (by omega) (by decide) (by decide) ?_
          refine ex_cS (ν := m_Model_nonterminal) (as := [.int (nI (j % 14))]) dX10_reads_31 ln_Model_135 mf_Model_nonterminal np_Model_nonterminal rfl rfl ⟨(Nat.le_of_ble_eq_true rfl), (Nat.le_of_ble_eq_true rfl), (Nat.le_of_ble_eq_true rfl), (Nat.le_of_ble_eq_true rfl)⟩ (by decide) ?_
          refine sp_Model_nonterminal_N (by omega) ?_
          refine ⟨_, rfl, ?_⟩
          refine ex_if_eqN (tgt := 101) dX10_reads_34 (by decide) (ntB_b _) (fun h34 => by exact absurd h34 nt) (fun h34 => ?_)
          refine ex_iload_n (i := 2) dX10_reads_37 rfl rfl ?_
          refine ex_if_leN (tgt := 101) dX10_reads_38 (by decide) (by omega) (fun h38 => by omega) (fun h38 => ?_)
          refine ex_iconst (v := nI 1) dX10_reads_41 (by decide) ?_
          refine ex_istore_n (L' := [some (.ref (56)), some (.int (nI (j))), some (.int (nI (TJ j))), some (.int (nI (1))), none, none]) dX10_reads_42 (i := 3) rfl (by decide) rfl ?_
          exact TL0
  refine ex_iconst (v := nI 0) dX10_reads_0 (by decide) ?_
  refine ex_istore_n (L' := [some (.ref (56)), some (.int (nI (0))), none, none, none, none]) dX10_reads_1 (i := 1) rfl (by decide) rfl ?_
  exact NEXT (14 * S) 0 i (by omega) Fm.rf (fun j h => by omega)
end S69
