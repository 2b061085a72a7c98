/-! ===== the reference: follows, lookback ===== -/
section S71
variable {g : Nat} {i : Nat → Nat → Int32} {q : Nat → Nat → Int64} {t : Bool} {Q : xRes → xMem → Prop} {n : Nat} {sy : Nat → Nat → Nat} {TJ f RD : Nat → Nat} {S : Nat}
/-- closed under rule r in state s -/
def clWr (TJ f : Nat → Nat) (n : Nat) (sy : Nat → Nat → Nat) (W : Nat → Nat) (s r : Nat) : Prop := ∀ k, 0 < TJ (14 * s + sy r 0) → k < lnR sy r → ¬ ntB (sy r (k + 1)) = 0 → restE f sy r (k + 1) → sub (W (14 * s + sy r 0)) (W (14 * pth TJ sy r s k + sy r (k + 1)))
theorem lp_Model_follows_r {W1 : Nat → Nat} {s : Nat} {P : Prop} (rg : RG i n sy) (hB : BG i f) (hS : S ≤ 50) (hs : s < S) (hT : ∀ j, j < 14 * S → i 67 j = nI (TJ j) ∧ TJ j < S)
    (hk : ∀ b i1 W, fwI TJ f S n sy RD i i1 W → (b = 0 ∧ W = W1 ∧ P ∧ (∀ r, r < n → clWr TJ f n sy W s r) ∨ b = 1 ∧ sumN W1 (14 * S) < sumN W (14 * S)) → Wx m_Model_follows 211 [some (.ref 56), some (.int (nI b)), some (.int (nI s)), none, none, none, none, none, none] [] (94, g, i1, q, RT t) (0, 0) Q) :
    ∀ d r b i1 W, r + d = n → fwI TJ f S n sy RD i i1 W → (b = 0 ∧ W = W1 ∧ P ∧ (∀ r', r' < r → clWr TJ f n sy W s r') ∨ b = 1 ∧ sumN W1 (14 * S) < sumN W (14 * S)) →
      Wx m_Model_follows 51 [some (.ref 56), some (.int (nI b)), some (.int (nI s)), some (.int (nI r)), none, none, none, none, none] [] (94, g, i1, q, RT t) (0, 0) Q := by
  have gw := rg.2.2.2.2
  have hn := gw.1
  intro d
  induction d with
  | zero =>
    intro r b i1 W hr hw hh
    have e : r = n := by omega
    subst e
    have rg1 := rg.fm hw.1 (by decide) (by decide) (by decide) (by decide)
    refine ex_iload_n (i := 3) dX10_follows_51 rfl rfl ?_
    refine ex_aload_n (i := 0) dX10_follows_52 rfl rfl ?_
    refine ex_getI dX10_follows_53 fl_Model_145 rfl rfl (by decide) ?_
    refine ex_asN (a := r) rg1.1 ?_
    refine ex_icmp_geN (tgt := 211) dX10_follows_56 (by decide) (by omega) (by omega) (fun h56 => ?_) (fun h56 => by omega)
    exact ex_less (L' := [some (.ref 56), some (.int (nI b)), some (.int (nI s)), none, none, none, none, none, none]) (by simp [xSub]) (hk b i1 W hw hh)
  | succ d ih =>
    intro r b i1 W hr hw hh
    have hrn : r < n := by omega
    have hlf := gw.2.2.1 r hrn
    have rg1 := rg.fm hw.1 (by decide) (by decide) (by decide) (by decide)
    have e57 := rg1.2.1 r hrn
    have e71 := hw.2.1 (14 * s + sy r 0) (by omega)
    have CONT : ∀ b2 i2 W2, fwI TJ f S n sy RD i i2 W2 → (b2 = 0 ∧ W2 = W1 ∧ (P ∧ W = W1 ∧ (∀ r', r' < r → clWr TJ f n sy W1 s r')) ∧ (∀ k, 0 < TJ (14 * s + sy r 0) → k < lnR sy r → ¬ ntB (sy r (k + 1)) = 0 → restE f sy r (k + 1) → sub (W (14 * s + sy r 0)) (W2 (14 * pth TJ sy r s k + sy r (k + 1)))) ∨ b2 = 1 ∧ sumN W1 (14 * S) < sumN W2 (14 * S)) → Wx m_Model_follows 205 [some (.ref 56), some (.int (nI b2)), some (.int (nI s)), some (.int (nI r)), none, none, none, none, none] [] (94, g, i2, q, RT t) (0, 0) Q := by
      intro b2 i2 W2 a1 a2
      refine ex_iincN (L' := [some (.ref (56)), some (.int (nI (b2))), some (.int (nI (s))), some (.int (nI (r + 1))), none, none, none, none, none]) dX10_follows_205 rfl rfl (by decide) rfl ?_
      refine ex_goto (tgt := 51) dX10_follows_208 (by decide) ?_
      refine ih (r + 1) b2 i2 W2 (by omega) a1 (a2.imp (fun h => ⟨h.1, h.2.1, h.2.2.1.1, fun r' hr' => ?_⟩) id)
      by_cases e : r' = r
      · rw [e]
        intro k k1 k2 k3 k4
        have := h.2.2.2 k k1 k2 k3 k4
        rw [h.2.2.1.2.1, ← h.2.1] at this; exact this
      · rw [h.2.1]; exact h.2.2.1.2.2 r' (by omega)
    have K := lp_Model_follows_k (RD := RD) (W1 := W1) (v := W (14 * s + sy r 0)) (g := g) (q := q) (t := t) (Q := Q) rg hB hS hs hrn hT (hw.2.2.1 _) (fun G hG => hw.2.2.2.2 G hG _ (by omega)) CONT 5 0 s b i1 W rfl rfl hw (hh.imp (fun h => ⟨h.1, h.2.1, ⟨h.2.2.1, h.2.1, by rw [← h.2.1]; exact h.2.2.2⟩, fun k' a => by omega⟩) id)
    refine ex_iload_n (i := 3) dX10_follows_51 rfl rfl ?_
    refine ex_aload_n (i := 0) dX10_follows_52 rfl rfl ?_
    refine ex_getI dX10_follows_53 fl_Model_145 rfl rfl (by decide) ?_
    refine ex_asN (a := n) rg1.1 ?_
    refine ex_icmp_geN (tgt := 211) dX10_follows_56 (by decide) (by omega) (by omega) (fun h56 => by omega) (fun h56 => ?_)
    refine ex_aload_n (i := 0) dX10_follows_59 rfl rfl ?_
    refine ex_getR (v := .ref (71)) dX10_follows_60 fl_Model_53 rfl rfl (by decide) rfl ?_
    refine ex_bipush (v := nI 14) dX10_follows_63 (by decide) ?_
    refine ex_iload_n (i := 2) dX10_follows_65 rfl rfl ?_
    refine ex_imulN dX10_follows_66 ?_
    refine ex_aload_n (i := 0) dX10_follows_67 rfl rfl ?_
    refine ex_getR (v := .ref (57)) dX10_follows_68 fl_Model_7 rfl rfl (by decide) rfl ?_
    refine ex_iload_n (i := 3) dX10_follows_71 rfl rfl ?_
    refine ex_ialdN dX10_follows_72 rfl (by decide) (by omega) rfl ?_
    refine ex_asN (a := sy r 0) e57 ?_
    refine ex_iaddN dX10_follows_73 ?_
    refine ex_ialdN dX10_follows_74 rfl (by decide) (by omega) rfl ?_
    refine ex_asN (a := W (14 * s + sy r 0)) e71 ?_
    refine ex_istore (L' := [some (.ref (56)), some (.int (nI (b))), some (.int (nI (s))), some (.int (nI (r))), some (.int (nI (W (14 * s + sy r 0)))), none, none, none, none]) dX10_follows_75 (by decide) rfl ?_
    refine ex_iload_n (i := 2) dX10_follows_77 rfl rfl ?_
    refine ex_istore (L' := [some (.ref (56)), some (.int (nI (b))), some (.int (nI (s))), some (.int (nI (r))), some (.int (nI (W (14 * s + sy r 0)))), some (.int (nI (s))), none, none, none]) dX10_follows_78 (by decide) rfl ?_
    refine ex_iconst (v := nI 0) dX10_follows_80 (by decide) ?_
    refine ex_istore (L' := [some (.ref (56)), some (.int (nI (b))), some (.int (nI (s))), some (.int (nI (r))), some (.int (nI (W (14 * s + sy r 0)))), some (.int (nI (s))), some (.int (nI (0))), none, none]) dX10_follows_81 (by decide) rfl ?_
    exact K
theorem lp_Model_follows_s {W1 : Nat → Nat} (rg : RG i n sy) (hB : BG i f) (hS : S ≤ 50) (h11 : i 56 11 = nI S) (hT : ∀ j, j < 14 * S → i 67 j = nI (TJ j) ∧ TJ j < S)
    (hk : ∀ b i1 W, fwI TJ f S n sy RD i i1 W → (b = 0 ∧ W = W1 ∧ (∀ s r, s < S → r < n → clWr TJ f n sy W s r) ∨ b = 1 ∧ sumN W1 (14 * S) < sumN W (14 * S)) → Wx m_Model_follows 33 [some (.ref 56), some (.int (nI b)), none, none, none, none, none, none, none] [] (94, g, i1, q, RT t) (0, 0) Q) :
    ∀ d s b i1 W, s + d = S → fwI TJ f S n sy RD i i1 W → (b = 0 ∧ W = W1 ∧ (∀ s' r, s' < s → r < n → clWr TJ f n sy W s' r) ∨ b = 1 ∧ sumN W1 (14 * S) < sumN W (14 * S)) →
      Wx m_Model_follows 41 [some (.ref 56), some (.int (nI b)), some (.int (nI s)), none, none, none, none, none, none] [] (94, g, i1, q, RT t) (0, 0) Q := by
  intro d
  induction d with
  | zero =>
    intro s b i1 W hs hw hh
    have e : s = S := by omega
    subst e
    have e11 : i1 56 11 = nI s := by rw [hw.1.2 11 (by decide)]; exact h11
    refine ex_iload_n (i := 2) dX10_follows_41 rfl rfl ?_
    refine ex_aload_n (i := 0) dX10_follows_42 rfl rfl ?_
    refine ex_getI dX10_follows_43 fl_Model_170 rfl rfl (by decide) ?_
    refine ex_asN (a := s) e11 ?_
    refine ex_icmp_geN (tgt := 217) dX10_follows_46 (by decide) (by omega) (by omega) (fun h46 => ?_) (fun h46 => by omega)
    refine ex_goto (tgt := 33) dX10_follows_217 (by decide) ?_
    exact ex_less (L' := [some (.ref 56), some (.int (nI b)), none, none, none, none, none, none, none]) (by simp [xSub]) (hk b i1 W hw hh)
  | succ d ih =>
    intro s b i1 W hs hw hh
    have e11 : i1 56 11 = nI S := by rw [hw.1.2 11 (by decide)]; exact h11
    have CONT : ∀ b2 i2 W2, fwI TJ f S n sy RD i i2 W2 → (b2 = 0 ∧ W2 = W1 ∧ (∀ s' r, s' < s → r < n → clWr TJ f n sy W1 s' r) ∧ (∀ r, r < n → clWr TJ f n sy W2 s r) ∨ b2 = 1 ∧ sumN W1 (14 * S) < sumN W2 (14 * S)) → Wx m_Model_follows 211 [some (.ref 56), some (.int (nI b2)), some (.int (nI s)), none, none, none, none, none, none] [] (94, g, i2, q, RT t) (0, 0) Q := by
      intro b2 i2 W2 a1 a2
      refine ex_iincN (L' := [some (.ref (56)), some (.int (nI (b2))), some (.int (nI (s + 1))), none, none, none, none, none, none]) dX10_follows_211 rfl rfl (by decide) rfl ?_
      refine ex_goto (tgt := 41) dX10_follows_214 (by decide) ?_
      refine ih (s + 1) b2 i2 W2 (by omega) a1 (a2.imp (fun h => ⟨h.1, h.2.1, fun s' r hs' hr => ?_⟩) id)
      by_cases e : s' = s
      · rw [e]; exact h.2.2.2 r hr
      · rw [h.2.1]; exact h.2.2.1 s' r (by omega) hr
    have R := lp_Model_follows_r (RD := RD) (W1 := W1) (g := g) (q := q) (t := t) (Q := Q) rg hB hS (by omega) hT CONT n 0 b i1 W (by omega) hw (hh.imp (fun h => ⟨h.1, h.2.1, by rw [← h.2.1]; exact h.2.2, fun r' a => by omega⟩) id)
    refine ex_iload_n (i := 2) dX10_follows_41 rfl rfl ?_
    refine ex_aload_n (i := 0) dX10_follows_42 rfl rfl ?_
    refine ex_getI dX10_follows_43 fl_Model_170 rfl rfl (by decide) ?_
    refine ex_asN (a := S) e11 ?_
    refine ex_icmp_geN (tgt := 217) dX10_follows_46 (by decide) (by omega) (by omega) (fun h46 => by omega) (fun h46 => ?_)
    refine ex_iconst (v := nI 0) dX10_follows_49 (by decide) ?_
    refine ex_istore_n (L' := [some (.ref (56)), some (.int (nI (b))), some (.int (nI (s))), some (.int (nI (0))), none, none, none, none, none]) dX10_follows_50 (i := 3) rfl (by decide) rfl ?_
    exact R
theorem sp_Model_follows (rg : RG i n sy) (hB : BG i f) (hS : S ≤ 50) (h11 : i 56 11 = nI S) (hT : ∀ j, j < 14 * S → i 67 j = nI (TJ j) ∧ TJ j < S) (hR : Vw i 70 (14 * S) RD) (hR2 : ∀ k, RD k < 128)
    (hQ : ∀ i1 W, Fm [71] [] i i1 → Vw i1 71 (14 * S) W → (∀ k, W k < 128) → clW TJ f S n sy RD W → leW TJ f S n sy RD W → Q (.ok none) (94, g, i1, q, RT t)) :
    Wx m_Model_follows 0 [some (.ref 56), none, none, none, none, none, none, none, none] [] (94, g, i, q, RT t) (0, 0) Q := by
  have EXIT : ∀ i1 W, fwI TJ f S n sy RD i i1 W → (∀ s r, s < S → r < n → clWr TJ f n sy W s r) → Wx m_Model_follows 33 [some (.ref 56), some (.int (nI 0)), none, none, none, none, none, none, none] [] (94, g, i1, q, RT t) (0, 0) Q := by
    intro i1 W hw hc
    refine ex_iload_n (i := 1) dX10_follows_33 rfl rfl ?_
    refine ex_if_eqN (tgt := 220) dX10_follows_34 (by decide) (by omega) (fun h34 => ?_) (fun h34 => by exact absurd h34 (by decide))
    refine ex_ret dX10_follows_220 rfl ?_
    exact hQ i1 W hw.1 hw.2.1 hw.2.2.1 ⟨hw.2.2.2.1, fun s r k a1 a2 a3 a4 a5 a6 => hc s r a1 a2 k a3 a4 a5 a6⟩ hw.2.2.2.2
  have OUT : ∀ m i1 W, 14 * S * 128 < sumN W (14 * S) + m → fwI TJ f S n sy RD i i1 W → Wx m_Model_follows 33 [some (.ref 56), some (.int (nI 1)), none, none, none, none, none, none, none] [] (94, g, i1, q, RT t) (0, 0) Q := by
    intro m
    induction m with
    | zero =>
      intro i1 W hm hw
      have := sumN_le (F := W) (B := 128) (N := 14 * S) (fun j _ => Nat.le_of_lt (hw.2.2.1 j))
      omega
    | succ m ih =>
      intro i1 W hm hw
      have J := lp_Model_follows_s (RD := RD) (W1 := W) (g := g) (q := q) (t := t) (Q := Q) rg hB hS h11 hT (fun b i2 W2 a1 a2 => by
        rcases a2 with ⟨rfl, rfl, hc⟩ | ⟨rfl, hlt⟩
        · exact EXIT i2 _ a1 hc
        · exact ih i2 W2 (by omega) a1) S 0 0 i1 W (by omega) hw (Or.inl ⟨rfl, rfl, fun s' r h => by omega⟩)
      refine ex_iload_n (i := 1) dX10_follows_33 rfl rfl ?_
      refine ex_if_eqN (tgt := 220) dX10_follows_34 (by decide) (by omega) (fun h34 => by exact absurd h34 (by decide)) (fun h34 => ?_)
      refine ex_iconst (v := nI 0) dX10_follows_37 (by decide) ?_
      refine ex_istore_n (L' := [some (.ref (56)), some (.int (nI (0))), none, none, none, none, none, none, none]) dX10_follows_38 (i := 1) rfl (by decide) rfl ?_
      refine ex_iconst (v := nI 0) dX10_follows_39 (by decide) ?_
      refine ex_istore_n (L' := [some (.ref (56)), some (.int (nI (0))), some (.int (nI (0))), none, none, none, none, none, none]) dX10_follows_40 (i := 2) rfl (by decide) rfl ?_
      exact J
  have CP : ∀ d j i1, j + d = 14 * S → Fm [71] [] i i1 → (∀ j', j' < j → i1 71 j' = nI (RD j')) → Wx m_Model_follows 2 [some (.ref 56), some (.int (nI j)), none, none, none, none, none, none, none] [] (94, g, i1, q, RT t) (0, 0) Q := by
    intro d
    induction d with
    | zero =>
      intro j i1 hj hf h
      have e : j = 14 * S := hj
      subst e
      have e11 : i1 56 11 = nI S := by rw [hf.2 11 (by decide)]; exact h11
      refine ex_iload_n (i := 1) dX10_follows_2 rfl rfl ?_
      refine ex_bipush (v := nI 14) dX10_follows_3 (by decide) ?_
      refine ex_aload_n (i := 0) dX10_follows_5 rfl rfl ?_
      refine ex_getI dX10_follows_6 fl_Model_170 rfl rfl (by decide) ?_
      refine ex_asN (a := S) e11 ?_
      refine ex_imulN dX10_follows_9 ?_
      refine ex_icmp_geN (tgt := 31) dX10_follows_10 (by decide) (by omega) (by omega) (fun h10 => ?_) (fun h10 => by omega)
      refine ex_iconst (v := nI 1) dX10_follows_31 (by decide) ?_
      refine ex_istore_n (L' := [some (.ref (56)), some (.int (nI (1))), none, none, none, none, none, none, none]) dX10_follows_32 (i := 1) rfl (by decide) rfl ?_
      exact OUT (14 * S * 128 + 1) i1 RD (by omega) ⟨hf, h, hR2, fun j _ => sub_rf, fun G hG j hj => hG.1 j hj⟩
    | succ d ih =>
      intro j i1 hj hf h
      have e11 : i1 56 11 = nI S := by rw [hf.2 11 (by decide)]; exact h11
      have e70 : i1 70 j = nI (RD j) := by rw [hf.1 70 (by decide) (by decide)]; exact hR j (by omega)
      refine ex_iload_n (i := 1) dX10_follows_2 rfl rfl ?_
      refine ex_bipush (v := nI 14) dX10_follows_3 (by decide) ?_
      refine ex_aload_n (i := 0) dX10_follows_5 rfl rfl ?_
      refine ex_getI dX10_follows_6 fl_Model_170 rfl rfl (by decide) ?_
      refine ex_asN (a := S) e11 ?_
      refine ex_imulN dX10_follows_9 ?_
      refine ex_icmp_geN (tgt := 31) dX10_follows_10 (by decide) (by omega) (by omega) (fun h10 => by omega) (fun h10 => ?_)
      refine ex_aload_n (i := 0) dX10_follows_13 rfl rfl ?_
      refine ex_getR (v := .ref (71)) dX10_follows_14 fl_Model_53 rfl rfl (by decide) rfl ?_
      refine ex_iload_n (i := 1) dX10_follows_17 rfl rfl ?_
      refine ex_aload_n (i := 0) dX10_follows_18 rfl rfl ?_
      refine ex_getR (v := .ref (70)) dX10_follows_19 fl_Model_50 rfl rfl (by decide) rfl ?_
      refine ex_iload_n (i := 1) dX10_follows_22 rfl rfl ?_
      refine ex_ialdN dX10_follows_23 rfl (by decide) (by omega) rfl ?_
      refine ex_asN (a := RD j) e70 ?_
      refine ex_iastN dX10_follows_24 rfl (by decide) (by omega) ?_
      refine ex_iincN (L' := [some (.ref (56)), some (.int (nI (j + 1))), none, none, none, none, none, none, none]) dX10_follows_25 rfl rfl (by decide) rfl ?_
      refine ex_goto (tgt := 2) dX10_follows_28 (by decide) ?_
      refine ih (j + 1) _ (by omega) (hf.U (by decide) (by decide)) (fun j' hj' => ?_)
      rw [xU_at]; unfold upd
      by_cases e : j' = j
      · rw [if_pos e, e]
      · rw [if_neg e]; exact h j' (by omega)
  refine ex_iconst (v := nI 0) dX10_follows_0 (by decide) ?_
  refine ex_istore_n (L' := [some (.ref (56)), some (.int (nI (0))), none, none, none, none, none, none, none]) dX10_follows_1 (i := 1) rfl (by decide) rfl ?_
  exact CP (14 * S) 0 i (by omega) Fm.rf (fun j h => by omega)
/-- the lookaheads of end items, told by the ways -/
def lbP (TJ : Nat → Nat) (n : Nat) (sy : Nat → Nat → Nat) (W : Nat → Nat) (ok : Nat → Nat → Prop) (A : Nat → Nat) (S : Nat) : Prop := ∀ j b, j < 14 * S → ((A j).testBit b = true ↔ ∃ s r, ok s r ∧ r < n ∧ 0 < TJ (14 * s + sy r 0) ∧ j = 14 * pth TJ sy r s (lnR sy r) + r ∧ (W (14 * s + sy r 0)).testBit b = true)
theorem sp_Model_lookback {W : Nat → Nat} (rg : RG i n sy) (hS : S ≤ 50) (h11 : i 56 11 = nI S) (hT : ∀ j, j < 14 * S → i 67 j = nI (TJ j) ∧ TJ j < S) (hW : Vw i 71 (14 * S) W) (hW2 : ∀ k, W k < 128)
    (hQ : ∀ i1 A, Fm [72] [] i i1 → Vw i1 72 (14 * S) A → (∀ k, A k < 128) → lbP TJ n sy W (fun s _ => s < S) A S → Q (.ok none) (94, g, i1, q, RT t)) :
    Wx m_Model_lookback 0 [some (.ref 56), none, none, none, none] [] (94, g, i, q, RT t) (0, 0) Q := by
  have gw := rg.2.2.2.2
  have hn := gw.1
  have SL : ∀ d s i1 A, s + d = S → Fm [72] [] i i1 → Vw i1 72 (14 * S) A → (∀ k, A k < 128) → lbP TJ n sy W (fun s' _ => s' < s) A S → Wx m_Model_lookback 28 [some (.ref 56), some (.int (nI s)), none, none, none] [] (94, g, i1, q, RT t) (0, 0) Q := by
    intro d
    induction d with
    | zero =>
      intro s i1 A hs hf hV h128 hl
      have e : s = S := by omega
      subst e
      have e11 : i1 56 11 = nI s := by rw [hf.2 11 (by decide)]; exact h11
      refine ex_iload_n (i := 1) dX10_lookback_28 rfl rfl ?_
      refine ex_aload_n (i := 0) dX10_lookback_29 rfl rfl ?_
      refine ex_getI dX10_lookback_30 fl_Model_170 rfl rfl (by decide) ?_
      refine ex_asN (a := s) e11 ?_
      refine ex_icmp_geN (tgt := 151) dX10_lookback_33 (by decide) (by omega) (by omega) (fun h33 => ?_) (fun h33 => by omega)
      refine ex_ret dX10_lookback_151 rfl ?_
      exact hQ i1 A hf hV h128 hl
    | succ d ih =>
      intro s i1 A hs hf hV h128 hl
      have hsS : s < S := by omega
      have e11 : i1 56 11 = nI S := by rw [hf.2 11 (by decide)]; exact h11
      have RL : ∀ d r i2 A2, r + d = n → Fm [72] [] i i2 → Vw i2 72 (14 * S) A2 → (∀ k, A2 k < 128) → lbP TJ n sy W (fun s' r' => s' < s ∨ s' = s ∧ r' < r) A2 S → Wx m_Model_lookback 38 [some (.ref 56), some (.int (nI s)), some (.int (nI r)), none, none] [] (94, g, i2, q, RT t) (0, 0) Q := by
        intro d2
        induction d2 with
        | zero =>
          intro r i2 A2 hr a1 a2 a3 a4
          have e : r = n := by omega
          subst e
          have rg1 := rg.fm a1 (by decide) (by decide) (by decide) (by decide)
          refine ex_iload_n (i := 2) dX10_lookback_38 rfl rfl ?_
          refine ex_aload_n (i := 0) dX10_lookback_39 rfl rfl ?_
          refine ex_getI dX10_lookback_40 fl_Model_145 rfl rfl (by decide) ?_
          refine ex_asN (a := r) rg1.1 ?_
          refine ex_icmp_geN (tgt := 145) dX10_lookback_43 (by decide) (by omega) (by omega) (fun h43 => ?_) (fun h43 => by omega)
          refine ex_iincN (L' := [some (.ref (56)), some (.int (nI (s + 1))), some (.int (nI (r))), none, none]) dX10_lookback_145 rfl rfl (by decide) rfl ?_
          refine ex_goto (tgt := 28) dX10_lookback_148 (by decide) ?_
          refine ex_less (L' := [some (.ref 56), some (.int (nI (s + 1))), none, none, none]) (by simp [xSub]) (ih (s + 1) i2 A2 (by omega) a1 a2 a3 (fun j b hj => (a4 j b hj).trans ⟨fun ⟨s', r', c1, c2⟩ => ⟨s', r', by show s' < s + 1; omega, c2⟩, fun ⟨s', r', c1, c2⟩ => ⟨s', r', ?_, c2⟩⟩))
          have c1 : s' < s + 1 := c1
          have := c2.1
          show s' < s ∨ s' = s ∧ r' < r
          omega
        | succ d2 ih2 =>
          intro r i2 A2 hr a1 a2 a3 a4
          have hrn : r < n := by omega
          have hl4 := lnR_le sy r
          have hlf := gw.2.2.1 r hrn
          have rg1 := rg.fm a1 (by decide) (by decide) (by decide) (by decide)
          have e57 := rg1.2.1 r hrn
          have e59 := rg1.2.2.2.1 r hrn
          have hTl := hT (14 * s + sy r 0) (by omega)
          have e67l : i2 67 (14 * s + sy r 0) = nI (TJ (14 * s + sy r 0)) := by rw [a1.1 67 (by decide) (by decide)]; exact hTl.1
          by_cases c2 : TJ (14 * s + sy r 0) = 0
          ·
            refine ex_iload_n (i := 2) dX10_lookback_38 rfl rfl ?_
            refine ex_aload_n (i := 0) dX10_lookback_39 rfl rfl ?_
            refine ex_getI dX10_lookback_40 fl_Model_145 rfl rfl (by decide) ?_
            refine ex_asN (a := n) rg1.1 ?_
            refine ex_icmp_geN (tgt := 145) dX10_lookback_43 (by decide) (by omega) (by omega) (fun h43 => by omega) (fun h43 => ?_)
            refine ex_aload_n (i := 0) dX10_lookback_46 rfl rfl ?_
            refine ex_getR (v := .ref (67)) dX10_lookback_47 fl_Model_41 rfl rfl (by decide) rfl ?_
            refine ex_bipush (v := nI 14) dX10_lookback_50 (by decide) ?_
            refine ex_iload_n (i := 1) dX10_lookback_52 rfl rfl ?_
            refine ex_imulN dX10_lookback_53 ?_
            refine ex_aload_n (i := 0) dX10_lookback_54 rfl rfl ?_
            refine ex_getR (v := .ref (57)) dX10_lookback_55 fl_Model_7 rfl rfl (by decide) rfl ?_
            refine ex_iload_n (i := 2) dX10_lookback_58 rfl rfl ?_
            refine ex_ialdN dX10_lookback_59 rfl (by decide) (by omega) rfl ?_
            refine ex_asN (a := sy r 0) e57 ?_
            refine ex_iaddN dX10_lookback_60 ?_
            refine ex_ialdN dX10_lookback_61 rfl (by decide) (by omega) rfl ?_
            refine ex_asN (a := TJ (14 * s + sy r 0)) e67l ?_
            refine ex_if_leN (tgt := 139) dX10_lookback_62 (by decide) (by omega) (fun h62 => ?_) (fun h62 => by omega)
            refine ex_iincN (L' := [some (.ref (56)), some (.int (nI (s))), some (.int (nI (r + 1))), none, none]) dX10_lookback_139 rfl rfl (by decide) rfl ?_
            refine ex_goto (tgt := 38) dX10_lookback_142 (by decide) ?_
            refine ih2 (r + 1) i2 A2 (by omega) a1 a2 a3 (fun j b hj => (a4 j b hj).trans ⟨fun ⟨s', r', c1, c3⟩ => ⟨s', r', by show s' < s ∨ s' = s ∧ r' < r + 1; have c1 : s' < s ∨ s' = s ∧ r' < r := c1; omega, c3⟩, fun ⟨s', r', c1, c3⟩ => ⟨s', r', ?_, c3⟩⟩)
            have c1 : s' < s ∨ s' = s ∧ r' < r + 1 := c1
            show s' < s ∨ s' = s ∧ r' < r
            by_cases e : s' = s ∧ r' = r
            · have := c3.2.1; rw [e.1, e.2] at this; omega
            · omega
          · have hpe := pth_lt gw hT hsS (show r < 15 by omega) (lnR sy r) hl4
            obtain ⟨j0, hj0⟩ : ∃ j0, j0 = 14 * pth TJ sy r s (lnR sy r) + r := ⟨_, rfl⟩
            have hj0S : j0 < 14 * S := by omega
            have e71 : i2 71 (14 * s + sy r 0) = nI (W (14 * s + sy r 0)) := by rw [a1.1 71 (by decide) (by decide)]; exact hW _ (by omega)
            have hor := or_lt (a3 j0) (hW2 (14 * s + sy r 0))
            have FIN : Wx m_Model_lookback 38 [some (.ref 56), some (.int (nI s)), some (.int (nI (r + 1))), none, none] [] (94, g, xU i2 72 j0 (nI (A2 j0 ||| W (14 * s + sy r 0))), q, RT t) (0, 0) Q := by
              refine ih2 (r + 1) _ (upN A2 j0 (A2 j0 ||| W (14 * s + sy r 0))) (by omega) (a1.U (by decide) (by decide)) a2.U (fun k => ?_) (fun j b hj => ?_)
              · unfold upN; split
                · exact hor
                · exact a3 k
              · by_cases e : j = j0
                · rw [e, upN_at, Nat.testBit_or, Bool.or_eq_true, a4 j0 b hj0S]
                  constructor
                  · rintro (⟨s', r', c1, c3⟩ | h)
                    · have c1 : s' < s ∨ s' = s ∧ r' < r := c1
                      exact ⟨s', r', by show s' < s ∨ s' = s ∧ r' < r + 1; omega, c3⟩
                    · exact ⟨s, r, Or.inr ⟨rfl, by omega⟩, hrn, by omega, hj0, h⟩
                  · rintro ⟨s', r', c1, c3⟩
                    have c1 : s' < s ∨ s' = s ∧ r' < r + 1 := c1
                    by_cases e2 : s' = s ∧ r' = r
                    · have := c3.2.2.2; rw [e2.1, e2.2] at this; exact Or.inr this
                    · exact Or.inl ⟨s', r', by show s' < s ∨ s' = s ∧ r' < r; omega, c3⟩
                · rw [upN_ne _ _ e, a4 j b hj]
                  constructor
                  · rintro ⟨s', r', c1, c3⟩
                    have c1 : s' < s ∨ s' = s ∧ r' < r := c1
                    exact ⟨s', r', by show s' < s ∨ s' = s ∧ r' < r + 1; omega, c3⟩
                  · rintro ⟨s', r', c1, c3⟩
                    have c1 : s' < s ∨ s' = s ∧ r' < r + 1 := c1
                    refine ⟨s', r', ?_, c3⟩
                    show s' < s ∨ s' = s ∧ r' < r
                    by_cases e2 : s' = s ∧ r' = r
                    · have := c3.2.2.1; rw [e2.1, e2.2] at this; exact absurd (this.trans hj0.symm) e
                    · omega
            have e72 := a2 j0 hj0S
            have KL : ∀ d k p, k + d = lnR sy r → p = pth TJ sy r s k → Wx m_Model_lookback 70 [some (.ref 56), some (.int (nI s)), some (.int (nI r)), some (.int (nI p)), some (.int (nI k))] [] (94, g, i2, q, RT t) (0, 0) Q := by
              intro d3
              induction d3 with
              | zero =>
                intro k p hk hp
                have e : k = lnR sy r := by omega
                subst e
                have hpj : 14 * p + r = j0 := by rw [hp]; exact hj0.symm
                refine ex_iload dX10_lookback_70 rfl ?_
                refine ex_aload_n (i := 0) dX10_lookback_72 rfl rfl ?_
                refine ex_getR (v := .ref (59)) dX10_lookback_73 fl_Model_16 rfl rfl (by decide) rfl ?_
                refine ex_iload_n (i := 2) dX10_lookback_76 rfl rfl ?_
                refine ex_ialdN dX10_lookback_77 rfl (by decide) (by omega) rfl ?_
                refine ex_asN (a := lnR sy r) e59 ?_
                refine ex_icmp_geN (tgt := 109) dX10_lookback_78 (by decide) (by omega) (by omega) (fun h78 => ?_) (fun h78 => by omega)
                refine ex_aload_n (i := 0) dX10_lookback_109 rfl rfl ?_
                refine ex_getR (v := .ref (72)) dX10_lookback_110 fl_Model_56 rfl rfl (by decide) rfl ?_
                refine ex_bipush (v := nI 14) dX10_lookback_113 (by decide) ?_
                refine ex_iload_n (i := 3) dX10_lookback_115 rfl rfl ?_
                refine ex_imulN dX10_lookback_116 ?_
                refine ex_iload_n (i := 2) dX10_lookback_117 rfl rfl ?_
                refine ex_iaddN dX10_lookback_118 ?_
                refine ex_asN (a := j0) (by rw [hpj]) ?_
                refine ex_dup2 dX10_lookback_119 rfl rfl ?_
                refine ex_ialdN dX10_lookback_120 rfl (by decide) (by omega) rfl ?_
                refine ex_asN (a := A2 j0) e72 ?_
                refine ex_aload_n (i := 0) dX10_lookback_121 rfl rfl ?_
                refine ex_getR (v := .ref (71)) dX10_lookback_122 fl_Model_53 rfl rfl (by decide) rfl ?_
                refine ex_bipush (v := nI 14) dX10_lookback_125 (by decide) ?_
                refine ex_iload_n (i := 1) dX10_lookback_127 rfl rfl ?_
                refine ex_imulN dX10_lookback_128 ?_
                refine ex_aload_n (i := 0) dX10_lookback_129 rfl rfl ?_
                refine ex_getR (v := .ref (57)) dX10_lookback_130 fl_Model_7 rfl rfl (by decide) rfl ?_
                refine ex_iload_n (i := 2) dX10_lookback_133 rfl rfl ?_
                refine ex_ialdN dX10_lookback_134 rfl (by decide) (by omega) rfl ?_
                refine ex_asN (a := sy r 0) e57 ?_
                refine ex_iaddN dX10_lookback_135 ?_
                refine ex_ialdN dX10_lookback_136 rfl (by decide) (by omega) rfl ?_
                refine ex_asN (a := W (14 * s + sy r 0)) e71 ?_
                refine ex_iorN dX10_lookback_137 ?_
                refine ex_iastN dX10_lookback_138 rfl (by decide) (by omega) ?_
                refine ex_iincN (L' := [some (.ref (56)), some (.int (nI (s))), some (.int (nI (r + 1))), some (.int (nI (p))), some (.int (nI (lnR sy r)))]) dX10_lookback_139 rfl rfl (by decide) rfl ?_
                refine ex_goto (tgt := 38) dX10_lookback_142 (by decide) ?_
                exact ex_less (L' := [some (.ref 56), some (.int (nI s)), some (.int (nI (r + 1))), none, none]) (by simp [xSub]) FIN
              | succ d3 ih3 =>
                intro k p hk hp
                have hpS : p < S := by rw [hp]; exact pth_lt gw hT hsS (by omega) k (by omega)
                have h13 := gw.le (r := r) (k := k + 1) (by omega) (by omega)
                have hTp := hT (14 * p + sy r (k + 1)) (by omega)
                have e67p : i2 67 (14 * p + sy r (k + 1)) = nI (TJ (14 * p + sy r (k + 1))) := by rw [a1.1 67 (by decide) (by decide)]; exact hTp.1
                have e58 := rg1.2.2.1 r k hrn (by omega)
                refine ex_iload dX10_lookback_70 rfl ?_
                refine ex_aload_n (i := 0) dX10_lookback_72 rfl rfl ?_
                refine ex_getR (v := .ref (59)) dX10_lookback_73 fl_Model_16 rfl rfl (by decide) rfl ?_
                refine ex_iload_n (i := 2) dX10_lookback_76 rfl rfl ?_
                refine ex_ialdN dX10_lookback_77 rfl (by decide) (by omega) rfl ?_
                refine ex_asN (a := lnR sy r) e59 ?_
                refine ex_icmp_geN (tgt := 109) dX10_lookback_78 (by decide) (by omega) (by omega) (fun h78 => by omega) (fun h78 => ?_)
                refine ex_aload_n (i := 0) dX10_lookback_81 rfl rfl ?_
                refine ex_getR (v := .ref (67)) dX10_lookback_82 fl_Model_41 rfl rfl (by decide) rfl ?_
                refine ex_bipush (v := nI 14) dX10_lookback_85 (by decide) ?_
                refine ex_iload_n (i := 3) dX10_lookback_87 rfl rfl ?_
                refine ex_imulN dX10_lookback_88 ?_
                refine ex_aload_n (i := 0) dX10_lookback_89 rfl rfl ?_
                refine ex_getR (v := .ref (58)) dX10_lookback_90 fl_Model_13 rfl rfl (by decide) rfl ?_
                refine ex_iconst (v := nI 4) dX10_lookback_93 (by decide) ?_
                refine ex_iload_n (i := 2) dX10_lookback_94 rfl rfl ?_
                refine ex_imulN dX10_lookback_95 ?_
                refine ex_iload dX10_lookback_96 rfl ?_
                refine ex_iaddN dX10_lookback_98 ?_
                refine ex_ialdN dX10_lookback_99 rfl (by decide) (by omega) rfl ?_
                refine ex_asN (a := sy r (k + 1)) e58 ?_
                refine ex_iaddN dX10_lookback_100 ?_
                refine ex_ialdN dX10_lookback_101 rfl (by decide) (by omega) rfl ?_
                refine ex_asN (a := TJ (14 * p + sy r (k + 1))) e67p ?_
                refine ex_istore_n (L' := [some (.ref (56)), some (.int (nI (s))), some (.int (nI (r))), some (.int (nI (TJ (14 * p + sy r (k + 1))))), some (.int (nI (k)))]) dX10_lookback_102 (i := 3) rfl (by decide) rfl ?_
                refine ex_iincN (L' := [some (.ref (56)), some (.int (nI (s))), some (.int (nI (r))), some (.int (nI (TJ (14 * p + sy r (k + 1))))), some (.int (nI (k + 1)))]) dX10_lookback_103 rfl rfl (by decide) rfl ?_
                refine ex_goto (tgt := 70) dX10_lookback_106 (by decide) ?_
                exact ih3 (k + 1) _ (by omega) (by rw [hp]; rfl)
            have K0 := KL (lnR sy r) 0 s (by omega) rfl
            refine ex_iload_n (i := 2) dX10_lookback_38 rfl rfl ?_
            refine ex_aload_n (i := 0) dX10_lookback_39 rfl rfl ?_
            refine ex_getI dX10_lookback_40 fl_Model_145 rfl rfl (by decide) ?_
            refine ex_asN (a := n) rg1.1 ?_
            refine ex_icmp_geN (tgt := 145) dX10_lookback_43 (by decide) (by omega) (by omega) (fun h43 => by omega) (fun h43 => ?_)
            refine ex_aload_n (i := 0) dX10_lookback_46 rfl rfl ?_
            refine ex_getR (v := .ref (67)) dX10_lookback_47 fl_Model_41 rfl rfl (by decide) rfl ?_
            refine ex_bipush (v := nI 14) dX10_lookback_50 (by decide) ?_
            refine ex_iload_n (i := 1) dX10_lookback_52 rfl rfl ?_
            refine ex_imulN dX10_lookback_53 ?_
            refine ex_aload_n (i := 0) dX10_lookback_54 rfl rfl ?_
            refine ex_getR (v := .ref (57)) dX10_lookback_55 fl_Model_7 rfl rfl (by decide) rfl ?_
            refine ex_iload_n (i := 2) dX10_lookback_58 rfl rfl ?_
            refine ex_ialdN dX10_lookback_59 rfl (by decide) (by omega) rfl ?_
            refine ex_asN (a := sy r 0) e57 ?_
            refine ex_iaddN dX10_lookback_60 ?_
            refine ex_ialdN dX10_lookback_61 rfl (by decide) (by omega) rfl ?_
            refine ex_asN (a := TJ (14 * s + sy r 0)) e67l ?_
            refine ex_if_leN (tgt := 139) dX10_lookback_62 (by decide) (by omega) (fun h62 => by omega) (fun h62 => ?_)
            refine ex_iload_n (i := 1) dX10_lookback_65 rfl rfl ?_
            refine ex_istore_n (L' := [some (.ref (56)), some (.int (nI (s))), some (.int (nI (r))), some (.int (nI (s))), none]) dX10_lookback_66 (i := 3) rfl (by decide) rfl ?_
            refine ex_iconst (v := nI 0) dX10_lookback_67 (by decide) ?_
            refine ex_istore (L' := [some (.ref (56)), some (.int (nI (s))), some (.int (nI (r))), some (.int (nI (s))), some (.int (nI (0)))]) dX10_lookback_68 (by decide) rfl ?_
            exact K0
      have R0 := RL n 0 i1 A (by omega) hf hV h128 (fun j b hj => (hl j b hj).trans ⟨fun ⟨s', r', c1, c2⟩ => ⟨s', r', Or.inl c1, c2⟩, fun ⟨s', r', c1, c2⟩ => ⟨s', r', c1.resolve_right (fun z => by omega), c2⟩⟩)
      refine ex_iload_n (i := 1) dX10_lookback_28 rfl rfl ?_
      refine ex_aload_n (i := 0) dX10_lookback_29 rfl rfl ?_
      refine ex_getI dX10_lookback_30 fl_Model_170 rfl rfl (by decide) ?_
      refine ex_asN (a := S) e11 ?_
      refine ex_icmp_geN (tgt := 151) dX10_lookback_33 (by decide) (by omega) (by omega) (fun h33 => by omega) (fun h33 => ?_)
      refine ex_iconst (v := nI 0) dX10_lookback_36 (by decide) ?_
      refine ex_istore_n (L' := [some (.ref (56)), some (.int (nI (s))), some (.int (nI (0))), none, none]) dX10_lookback_37 (i := 2) rfl (by decide) rfl ?_
      exact R0
  have CL : ∀ d j i1, j + d = 14 * S → Fm [72] [] i i1 → (∀ j', j' < j → i1 72 j' = nI 0) → Wx m_Model_lookback 2 [some (.ref 56), some (.int (nI j)), none, none, none] [] (94, g, i1, q, RT t) (0, 0) Q := by
    intro d
    induction d with
    | zero =>
      intro j i1 hj hf h
      have e : j = 14 * S := hj
      subst e
      have e11 : i1 56 11 = nI S := by rw [hf.2 11 (by decide)]; exact h11
      refine ex_iload_n (i := 1) dX10_lookback_2 rfl rfl ?_
      refine ex_bipush (v := nI 14) dX10_lookback_3 (by decide) ?_
      refine ex_aload_n (i := 0) dX10_lookback_5 rfl rfl ?_
      refine ex_getI dX10_lookback_6 fl_Model_170 rfl rfl (by decide) ?_
      refine ex_asN (a := S) e11 ?_
      refine ex_imulN dX10_lookback_9 ?_
      refine ex_icmp_geN (tgt := 26) dX10_lookback_10 (by decide) (by omega) (by omega) (fun h10 => ?_) (fun h10 => by omega)
      refine ex_iconst (v := nI 0) dX10_lookback_26 (by decide) ?_
      refine ex_istore_n (L' := [some (.ref (56)), some (.int (nI (0))), none, none, none]) dX10_lookback_27 (i := 1) rfl (by decide) rfl ?_
      refine SL S 0 i1 (fun _ => 0) (by omega) hf h (fun k => by decide) (fun j b hj => ⟨fun z => ?_, fun ⟨s', r', c1, _⟩ => absurd c1 (by omega)⟩)
      rw [Nat.zero_testBit] at z; cases z
    | succ d ih =>
      intro j i1 hj hf h
      have e11 : i1 56 11 = nI S := by rw [hf.2 11 (by decide)]; exact h11
      refine ex_iload_n (i := 1) dX10_lookback_2 rfl rfl ?_
      refine ex_bipush (v := nI 14) dX10_lookback_3 (by decide) ?_
      refine ex_aload_n (i := 0) dX10_lookback_5 rfl rfl ?_
      refine ex_getI dX10_lookback_6 fl_Model_170 rfl rfl (by decide) ?_
      refine ex_asN (a := S) e11 ?_
      refine ex_imulN dX10_lookback_9 ?_
      refine ex_icmp_geN (tgt := 26) dX10_lookback_10 (by decide) (by omega) (by omega) (fun h10 => by omega) (fun h10 => ?_)
      refine ex_aload_n (i := 0) dX10_lookback_13 rfl rfl ?_
      refine ex_getR (v := .ref (72)) dX10_lookback_14 fl_Model_56 rfl rfl (by decide) rfl ?_
      refine ex_iload_n (i := 1) dX10_lookback_17 rfl rfl ?_
      refine ex_iconst (v := nI 0) dX10_lookback_18 (by decide) ?_
      refine ex_iastN dX10_lookback_19 rfl (by decide) (by omega) ?_
      refine ex_iincN (L' := [some (.ref (56)), some (.int (nI (j + 1))), none, none, none]) dX10_lookback_20 rfl rfl (by decide) rfl ?_
      refine ex_goto (tgt := 2) dX10_lookback_23 (by decide) ?_
      refine ih (j + 1) _ (by omega) (hf.U (by decide) (by decide)) (fun j' hj' => ?_)
      rw [xU_at]; unfold upd
      by_cases e : j' = j
      · rw [if_pos e]
      · rw [if_neg e]; exact h j' (by omega)
  refine ex_iconst (v := nI 0) dX10_lookback_0 (by decide) ?_
  refine ex_istore_n (L' := [some (.ref (56)), some (.int (nI (0))), none, none, none]) dX10_lookback_1 (i := 1) rfl (by decide) rfl ?_
  exact CL (14 * S) 0 i (by omega) Fm.rf (fun j h => by omega)
end S71
