/-! ===== the reference: restEmpty, follows ===== -/
def restE (f : Nat → Nat) (sy : Nat → Nat → Nat) (r k : Nat) : Prop := ∀ k', k ≤ k' → k' < lnR sy r → fsT f (sy r (k' + 1)) % 2 = 1
/-- the state to which one goes from s by the first k symbols of rule r -/
def pth (TJ : Nat → Nat) (sy : Nat → Nat → Nat) (r s : Nat) : Nat → Nat
  | 0 => s
  | k + 1 => TJ (14 * pth TJ sy r s k + sy r (k + 1))
def clW (TJ f : Nat → Nat) (S n : Nat) (sy : Nat → Nat → Nat) (RD G : Nat → Nat) : Prop := (∀ j, j < 14 * S → sub (RD j) (G j)) ∧ ∀ s r k, s < S → r < n → 0 < TJ (14 * s + sy r 0) → k < lnR sy r → ¬ ntB (sy r (k + 1)) = 0 → restE f sy r (k + 1) → sub (G (14 * s + sy r 0)) (G (14 * pth TJ sy r s k + sy r (k + 1)))
def leW (TJ f : Nat → Nat) (S n : Nat) (sy : Nat → Nat → Nat) (RD W : Nat → Nat) : Prop := ∀ G, clW TJ f S n sy RD G → ∀ j, j < 14 * S → sub (W j) (G j)
section S70
variable {g : Nat} {i : Nat → Nat → Int32} {q : Nat → Nat → Int64} {t : Bool} {Q : xRes → xMem → Prop} {n : Nat} {sy : Nat → Nat → Nat} {TJ f RD : Nat → Nat} {S : Nat}
theorem sp_Model_restEmpty {r k : Nat} (rg : RG i n sy) (hB : BG i f) (hr : r < n) (hk : k ≤ 4) (h1 : restE f sy r k → Q (.ok (some (.int (nI 1)))) (94, g, i, q, RT t)) (h0 : ¬ restE f sy r k → Q (.ok (some (.int (nI 0)))) (94, g, i, q, RT t)) :
    Wx m_Model_restEmpty 0 [some (.ref 56), some (.int (nI r)), some (.int (nI k)), none, none] [] (94, g, i, q, RT t) (0, 0) Q := by
  have gw := rg.2.2.2.2
  have hn := gw.1
  have hl := lnR_le sy r
  have e59 := rg.2.2.2.1 r hr
  have EX : ∀ a, (a = 1 ∧ restE f sy r k) ∨ (a = 0 ∧ ¬ restE f sy r k) → ∀ j, Wx m_Model_restEmpty 51 [some (.ref 56), some (.int (nI r)), some (.int (nI k)), some (.int (nI a)), some (.int (nI j))] [] (94, g, i, q, RT t) (0, 0) Q := by
    intro a ha j
    rcases ha with ⟨rfl, h⟩ | ⟨rfl, h⟩
    ·
      refine ex_iload_n (i := 3) dX10_restEmpty_51 rfl rfl ?_
      refine ex_iret dX10_restEmpty_52 rfl (by decide) ?_
      exact h1 h
    ·
      refine ex_iload_n (i := 3) dX10_restEmpty_51 rfl rfl ?_
      refine ex_iret dX10_restEmpty_52 rfl (by decide) ?_
      exact h0 h
  have LP : ∀ d j a, j + d = 5 → k ≤ j → a < 2 → (a = 1 ↔ ∀ k', k ≤ k' → k' < j → k' < lnR sy r → fsT f (sy r (k' + 1)) % 2 = 1) → Wx m_Model_restEmpty 5 [some (.ref 56), some (.int (nI r)), some (.int (nI k)), some (.int (nI a)), some (.int (nI j))] [] (94, g, i, q, RT t) (0, 0) Q := by
    intro d
    induction d with
    | zero =>
      intro j a hj hkj ha h
      have X := EX a (by
        by_cases c : a = 1
        · exact Or.inl ⟨c, fun k' b1 b2 => h.mp c k' b1 (by omega) b2⟩
        · exact Or.inr ⟨by omega, fun z => c (h.mpr (fun k' b1 _ b2 => z k' b1 b2))⟩) j
      refine ex_iload dX10_restEmpty_5 rfl ?_
      refine ex_aload_n (i := 0) dX10_restEmpty_7 rfl rfl ?_
      refine ex_getR (v := .ref (59)) dX10_restEmpty_8 fl_Model_16 rfl rfl (by decide) rfl ?_
      refine ex_iload_n (i := 1) dX10_restEmpty_11 rfl rfl ?_
      refine ex_ialdN dX10_restEmpty_12 rfl (by decide) (by omega) rfl ?_
      refine ex_asN (a := lnR sy r) e59 ?_
      refine ex_icmp_geN (tgt := 51) dX10_restEmpty_13 (by decide) (by omega) (by omega) (fun h13 => ?_) (fun h13 => by omega)
      exact X
    | succ d ih =>
      intro j a hj hkj ha h
      by_cases c1 : lnR sy r ≤ j
      · have X := EX a (by
          by_cases c : a = 1
          · exact Or.inl ⟨c, fun k' b1 b2 => h.mp c k' b1 (by omega) b2⟩
          · exact Or.inr ⟨by omega, fun z => c (h.mpr (fun k' b1 _ b2 => z k' b1 b2))⟩) j
        refine ex_iload dX10_restEmpty_5 rfl ?_
        refine ex_aload_n (i := 0) dX10_restEmpty_7 rfl rfl ?_
        refine ex_getR (v := .ref (59)) dX10_restEmpty_8 fl_Model_16 rfl rfl (by decide) rfl ?_
        refine ex_iload_n (i := 1) dX10_restEmpty_11 rfl rfl ?_
        refine ex_ialdN dX10_restEmpty_12 rfl (by decide) (by omega) rfl ?_
        refine ex_asN (a := lnR sy r) e59 ?_
        refine ex_icmp_geN (tgt := 51) dX10_restEmpty_13 (by decide) (by omega) (by omega) (fun h13 => ?_) (fun h13 => by omega)
        exact X
      · have e58 := rg.2.2.1 r j hr (by omega)
        have hs13 := gw.le (r := r) (k := j + 1) (by omega) (by omega)
        have e68 := (hB (sy r (j + 1)) (by omega)).2
        have NX : ∀ a2, a2 < 2 → (a2 = 1 ↔ a = 1 ∧ fsT f (sy r (j + 1)) % 2 = 1) → Wx m_Model_restEmpty 5 [some (.ref 56), some (.int (nI r)), some (.int (nI k)), some (.int (nI a2)), some (.int (nI (j + 1)))] [] (94, g, i, q, RT t) (0, 0) Q := fun a2 h2 h3 =>
          ih (j + 1) a2 (by omega) (by omega) h2 (h3.trans ⟨fun z k' b1 b2 b3 => by
            by_cases e : k' = j
            · rw [e]; exact z.2
            · exact h.mp z.1 k' b1 (by omega) b3, fun z => ⟨h.mpr (fun k' b1 b2 b3 => z k' b1 (by omega) b3), z j hkj (by omega) (by omega)⟩⟩)
        refine ex_iload dX10_restEmpty_5 rfl ?_
        refine ex_aload_n (i := 0) dX10_restEmpty_7 rfl rfl ?_
        refine ex_getR (v := .ref (59)) dX10_restEmpty_8 fl_Model_16 rfl rfl (by decide) rfl ?_
        refine ex_iload_n (i := 1) dX10_restEmpty_11 rfl rfl ?_
        refine ex_ialdN dX10_restEmpty_12 rfl (by decide) (by omega) rfl ?_
        refine ex_asN (a := lnR sy r) e59 ?_
        refine ex_icmp_geN (tgt := 51) dX10_restEmpty_13 (by decide) (by omega) (by omega) (fun h13 => by omega) (fun h13 => ?_)
        refine ex_iload_n (i := 3) dX10_restEmpty_16 rfl rfl ?_
        refine ex_if_eqN (tgt := 43) dX10_restEmpty_17 (by decide) (by omega) (fun h17 => ?_) (fun h17 => ?_)
        · refine ex_iconst (v := nI 0) dX10_restEmpty_43 (by decide) ?_
          refine ex_istore_n (L' := [some (.ref (56)), some (.int (nI (r))), some (.int (nI (k))), some (.int (nI (0))), some (.int (nI (j)))]) dX10_restEmpty_44 (i := 3) rfl (by decide) rfl ?_
          refine ex_iincN (L' := [some (.ref (56)), some (.int (nI (r))), some (.int (nI (k))), some (.int (nI (0))), some (.int (nI (j + 1)))]) dX10_restEmpty_45 rfl rfl (by decide) rfl ?_
          refine ex_goto (tgt := 5) dX10_restEmpty_48 (by decide) ?_
          first | exact NX 1 (by decide) (by omega) | exact NX 0 (by decide) (by omega)
        · refine ex_aload_n (i := 0) dX10_restEmpty_20 rfl rfl ?_
          refine ex_getR (v := .ref (68)) dX10_restEmpty_21 fl_Model_44 rfl rfl (by decide) rfl ?_
          refine ex_aload_n (i := 0) dX10_restEmpty_24 rfl rfl ?_
          refine ex_getR (v := .ref (58)) dX10_restEmpty_25 fl_Model_13 rfl rfl (by decide) rfl ?_
          refine ex_iconst (v := nI 4) dX10_restEmpty_28 (by decide) ?_
          refine ex_iload_n (i := 1) dX10_restEmpty_29 rfl rfl ?_
          refine ex_imulN dX10_restEmpty_30 ?_
          refine ex_iload dX10_restEmpty_31 rfl ?_
          refine ex_iaddN dX10_restEmpty_33 ?_
          refine ex_ialdN dX10_restEmpty_34 rfl (by decide) (by omega) rfl ?_
          refine ex_asN (a := sy r (j + 1)) e58 ?_
          refine ex_baldN dX10_restEmpty_35 rfl (by decide) (by omega) rfl ?_
          refine ex_asN (a := fsT f (sy r (j + 1)) % 2) e68 ?_
          refine ex_if_eqN (tgt := 43) dX10_restEmpty_36 (by decide) (by omega) (fun h36 => ?_) (fun h36 => ?_)
          · refine ex_iconst (v := nI 0) dX10_restEmpty_43 (by decide) ?_
            refine ex_istore_n (L' := [some (.ref (56)), some (.int (nI (r))), some (.int (nI (k))), some (.int (nI (0))), some (.int (nI (j)))]) dX10_restEmpty_44 (i := 3) rfl (by decide) rfl ?_
            refine ex_iincN (L' := [some (.ref (56)), some (.int (nI (r))), some (.int (nI (k))), some (.int (nI (0))), some (.int (nI (j + 1)))]) dX10_restEmpty_45 rfl rfl (by decide) rfl ?_
            refine ex_goto (tgt := 5) dX10_restEmpty_48 (by decide) ?_
            first | exact NX 1 (by decide) (by omega) | exact NX 0 (by decide) (by omega)
          · refine ex_iconst (v := nI 1) dX10_restEmpty_39 (by decide) ?_
            refine ex_goto (tgt := 44) dX10_restEmpty_40 (by decide) ?_
            refine ex_istore_n (L' := [some (.ref (56)), some (.int (nI (r))), some (.int (nI (k))), some (.int (nI (1))), some (.int (nI (j)))]) dX10_restEmpty_44 (i := 3) rfl (by decide) rfl ?_
            refine ex_iincN (L' := [some (.ref (56)), some (.int (nI (r))), some (.int (nI (k))), some (.int (nI (1))), some (.int (nI (j + 1)))]) dX10_restEmpty_45 rfl rfl (by decide) rfl ?_
            refine ex_goto (tgt := 5) dX10_restEmpty_48 (by decide) ?_
            first | exact NX 1 (by decide) (by omega) | exact NX 0 (by decide) (by omega)
  have L0 := LP (5 - k) k 1 (by omega) (Nat.le_refl _) (by decide) ⟨fun _ k' b1 b2 => by omega, fun _ => rfl⟩
  refine ex_iconst (v := nI 1) dX10_restEmpty_0 (by decide) ?_
  refine ex_istore_n (L' := [some (.ref (56)), some (.int (nI (r))), some (.int (nI (k))), some (.int (nI (1))), none]) dX10_restEmpty_1 (i := 3) rfl (by decide) rfl ?_
  refine ex_iload_n (i := 2) dX10_restEmpty_2 rfl rfl ?_
  refine ex_istore (L' := [some (.ref (56)), some (.int (nI (r))), some (.int (nI (k))), some (.int (nI (1))), some (.int (nI (k)))]) dX10_restEmpty_3 (by decide) rfl ?_
  exact L0
theorem pth_lt {s r : Nat} (gw : GW n sy) (hT : ∀ j, j < 14 * S → i 67 j = nI (TJ j) ∧ TJ j < S) (hs : s < S) (hr : r < 15) : ∀ k, k ≤ 4 → pth TJ sy r s k < S
  | 0, _ => hs
  | k + 1, hk => by
    have h := pth_lt gw hT hs hr k (by omega)
    have h13 := gw.le (r := r) (k := k + 1) hr (by omega)
    exact (hT _ (by omega)).2
/-- what holds in the midst of follows -/
def fwI (TJ f : Nat → Nat) (S n : Nat) (sy : Nat → Nat → Nat) (RD : Nat → Nat) (i i1 : Nat → Nat → Int32) (W : Nat → Nat) : Prop := Fm [71] [] i i1 ∧ Vw i1 71 (14 * S) W ∧ (∀ k, W k < 128) ∧ (∀ j, j < 14 * S → sub (RD j) (W j)) ∧ leW TJ f S n sy RD W
theorem lp_Model_follows_k {W1 : Nat → Nat} {s r v : Nat} {P : Prop} (rg : RG i n sy) (hB : BG i f) (hS : S ≤ 50) (hs : s < S) (hr : r < n) (hT : ∀ j, j < 14 * S → i 67 j = nI (TJ j) ∧ TJ j < S) (hv : v < 128) (hvG : ∀ G, clW TJ f S n sy RD G → sub v (G (14 * s + sy r 0)))
    (hk : ∀ b i1 W, fwI TJ f S n sy RD i i1 W → (b = 0 ∧ W = W1 ∧ P ∧ (∀ k, 0 < TJ (14 * s + sy r 0) → k < lnR sy r → ¬ ntB (sy r (k + 1)) = 0 → restE f sy r (k + 1) → sub v (W (14 * pth TJ sy r s k + sy r (k + 1)))) ∨ b = 1 ∧ sumN W1 (14 * S) < sumN W (14 * S)) → Wx m_Model_follows 205 [some (.ref 56), some (.int (nI b)), some (.int (nI s)), some (.int (nI r)), none, none, none, none, none] [] (94, g, i1, q, RT t) (0, 0) Q) :
    ∀ d k p b i1 W, k + d = 5 → p = pth TJ sy r s k → fwI TJ f S n sy RD i i1 W → (b = 0 ∧ W = W1 ∧ P ∧ (∀ k', k' < k → 0 < TJ (14 * s + sy r 0) → k' < lnR sy r → ¬ ntB (sy r (k' + 1)) = 0 → restE f sy r (k' + 1) → sub v (W (14 * pth TJ sy r s k' + sy r (k' + 1)))) ∨ b = 1 ∧ sumN W1 (14 * S) < sumN W (14 * S)) →
      Wx m_Model_follows 83 [some (.ref 56), some (.int (nI b)), some (.int (nI s)), some (.int (nI r)), some (.int (nI v)), some (.int (nI p)), some (.int (nI k)), none, none] [] (94, g, i1, q, RT t) (0, 0) Q := by
  have gw := rg.2.2.2.2
  have hn := gw.1
  have hl := lnR_le sy r
  have hlf := gw.2.2.1 r hr
  intro d
  induction d with
  | zero =>
    intro k p b i1 W hk2 hp hw hh
    have rg1 := rg.fm hw.1 (by decide) (by decide) (by decide) (by decide)
    have e59 := rg1.2.2.2.1 r hr
    refine ex_iload dX10_follows_83 rfl ?_
    refine ex_aload_n (i := 0) dX10_follows_85 rfl rfl ?_
    refine ex_getR (v := .ref (59)) dX10_follows_86 fl_Model_16 rfl rfl (by decide) rfl ?_
    refine ex_iload_n (i := 3) dX10_follows_89 rfl rfl ?_
    refine ex_ialdN dX10_follows_90 rfl (by decide) (by omega) rfl ?_
    refine ex_asN (a := lnR sy r) e59 ?_
    refine ex_icmp_geN (tgt := 205) dX10_follows_91 (by decide) (by omega) (by omega) (fun h91 => ?_) (fun h91 => by omega)
    exact ex_less (L' := [some (.ref 56), some (.int (nI b)), some (.int (nI s)), some (.int (nI r)), none, none, none, none, none]) (by simp [xSub]) (hk b i1 W hw (hh.imp (fun h => ⟨h.1, h.2.1, h.2.2.1, fun k' a1 a2 a3 a4 => h.2.2.2 k' (by omega) a1 a2 a3 a4⟩) id))
  | succ d ih =>
    intro k p b i1 W hk2 hp hw hh
    have rg1 := rg.fm hw.1 (by decide) (by decide) (by decide) (by decide)
    have hB1 := hB.fm hw.1 (by decide) (by decide)
    have e59 := rg1.2.2.2.1 r hr
    have e57 := rg1.2.1 r hr
    have hb01 : b < 2 := by rcases hh with h | h <;> omega
    have hTl := hT (14 * s + sy r 0) (by omega)
    have e67l : i1 67 (14 * s + sy r 0) = nI (TJ (14 * s + sy r 0)) := by rw [hw.1.1 67 (by decide) (by decide)]; exact hTl.1
    have DONE : (lnR sy r ≤ k ∨ TJ (14 * s + sy r 0) = 0) → Wx m_Model_follows 205 [some (.ref 56), some (.int (nI b)), some (.int (nI s)), some (.int (nI r)), none, none, none, none, none] [] (94, g, i1, q, RT t) (0, 0) Q := fun hd =>
      hk b i1 W hw (hh.imp (fun h => ⟨h.1, h.2.1, h.2.2.1, fun k' a1 a2 a3 a4 => h.2.2.2 k' (by omega) a1 a2 a3 a4⟩) id)
    by_cases c1 : lnR sy r ≤ k
    ·
      refine ex_iload dX10_follows_83 rfl ?_
      refine ex_aload_n (i := 0) dX10_follows_85 rfl rfl ?_
      refine ex_getR (v := .ref (59)) dX10_follows_86 fl_Model_16 rfl rfl (by decide) rfl ?_
      refine ex_iload_n (i := 3) dX10_follows_89 rfl rfl ?_
      refine ex_ialdN dX10_follows_90 rfl (by decide) (by omega) rfl ?_
      refine ex_asN (a := lnR sy r) e59 ?_
      refine ex_icmp_geN (tgt := 205) dX10_follows_91 (by decide) (by omega) (by omega) (fun h91 => ?_) (fun h91 => by omega)
      exact ex_less (L' := [some (.ref 56), some (.int (nI b)), some (.int (nI s)), some (.int (nI r)), none, none, none, none, none]) (by simp [xSub]) (DONE (Or.inl c1))
    · by_cases c2 : TJ (14 * s + sy r 0) = 0
      ·
        refine ex_iload dX10_follows_83 rfl ?_
        refine ex_aload_n (i := 0) dX10_follows_85 rfl rfl ?_
        refine ex_getR (v := .ref (59)) dX10_follows_86 fl_Model_16 rfl rfl (by decide) rfl ?_
        refine ex_iload_n (i := 3) dX10_follows_89 rfl rfl ?_
        refine ex_ialdN dX10_follows_90 rfl (by decide) (by omega) rfl ?_
        refine ex_asN (a := lnR sy r) e59 ?_
        refine ex_icmp_geN (tgt := 205) dX10_follows_91 (by decide) (by omega) (by omega) (fun h91 => by omega) (fun h91 => ?_)
        refine ex_aload_n (i := 0) dX10_follows_94 rfl rfl ?_
        refine ex_getR (v := .ref (67)) dX10_follows_95 fl_Model_41 rfl rfl (by decide) rfl ?_
        refine ex_bipush (v := nI 14) dX10_follows_98 (by decide) ?_
        refine ex_iload_n (i := 2) dX10_follows_100 rfl rfl ?_
        refine ex_imulN dX10_follows_101 ?_
        refine ex_aload_n (i := 0) dX10_follows_102 rfl rfl ?_
        refine ex_getR (v := .ref (57)) dX10_follows_103 fl_Model_7 rfl rfl (by decide) rfl ?_
        refine ex_iload_n (i := 3) dX10_follows_106 rfl rfl ?_
        refine ex_ialdN dX10_follows_107 rfl (by decide) (by omega) rfl ?_
        refine ex_asN (a := sy r 0) e57 ?_
        refine ex_iaddN dX10_follows_108 ?_
        refine ex_ialdN dX10_follows_109 rfl (by decide) (by omega) rfl ?_
        refine ex_asN (a := TJ (14 * s + sy r 0)) e67l ?_
        refine ex_if_leN (tgt := 205) dX10_follows_110 (by decide) (by omega) (fun h110 => ?_) (fun h110 => by omega)
        exact ex_less (L' := [some (.ref 56), some (.int (nI b)), some (.int (nI s)), some (.int (nI r)), none, none, none, none, none]) (by simp [xSub]) (DONE (Or.inr c2))
      · have hpS : p < S := by rw [hp]; exact pth_lt gw hT hs (by omega) k (by omega)
        have h13 := gw.le (r := r) (k := k + 1) (by omega) (by omega)
        have hTp := hT (14 * p + sy r (k + 1)) (by omega)
        have e67p : i1 67 (14 * p + sy r (k + 1)) = nI (TJ (14 * p + sy r (k + 1))) := by rw [hw.1.1 67 (by decide) (by decide)]; exact hTp.1
        have e58 := rg1.2.2.1 r k hr (by omega)
        have hpn : TJ (14 * p + sy r (k + 1)) = pth TJ sy r s (k + 1) := by rw [hp]; rfl
        have e71 := hw.2.1 (14 * p + sy r (k + 1)) (by omega)
        have hWp := hw.2.2.1 (14 * p + sy r (k + 1))
        have hor : W (14 * p + sy r (k + 1)) ||| v < 128 := or_lt hWp hv
        have NO : (ntB (sy r (k + 1)) = 0 ∨ ¬ restE f sy r (k + 1) ∨ W (14 * p + sy r (k + 1)) ||| v = W (14 * p + sy r (k + 1))) → Wx m_Model_follows 83 [some (.ref 56), some (.int (nI b)), some (.int (nI s)), some (.int (nI r)), some (.int (nI v)), some (.int (nI (TJ (14 * p + sy r (k + 1))))), some (.int (nI (k + 1))), none, none] [] (94, g, i1, q, RT t) (0, 0) Q := fun ho =>
          ih (k + 1) _ b i1 W (by omega) hpn hw (hh.imp (fun h => ⟨h.1, h.2.1, h.2.2.1, fun k' a0 a1 a2 a3 a4 => by
            by_cases e : k' = k
            · rw [e] at a3 a4 ⊢
              rw [← hp]
              rcases ho with z | z | z
              · exact absurd z a3
              · exact absurd a4 z
              · exact sub_of_or z
            · exact h.2.2.2 k' (by omega) a1 a2 a3 a4⟩) id)
        by_cases nt : ntB (sy r (k + 1)) = 0
        ·
          refine ex_iload dX10_follows_83 rfl ?_
          refine ex_aload_n (i := 0) dX10_follows_85 rfl rfl ?_
          refine ex_getR (v := .ref (59)) dX10_follows_86 fl_Model_16 rfl rfl (by decide) rfl ?_
          refine ex_iload_n (i := 3) dX10_follows_89 rfl rfl ?_
          refine ex_ialdN dX10_follows_90 rfl (by decide) (by omega) rfl ?_
          refine ex_asN (a := lnR sy r) e59 ?_
          refine ex_icmp_geN (tgt := 205) dX10_follows_91 (by decide) (by omega) (by omega) (fun h91 => by omega) (fun h91 => ?_)
          refine ex_aload_n (i := 0) dX10_follows_94 rfl rfl ?_
          refine ex_getR (v := .ref (67)) dX10_follows_95 fl_Model_41 rfl rfl (by decide) rfl ?_
          refine ex_bipush (v := nI 14) dX10_follows_98 (by decide) ?_
          refine ex_iload_n (i := 2) dX10_follows_100 rfl rfl ?_
          refine ex_imulN dX10_follows_101 ?_
          refine ex_aload_n (i := 0) dX10_follows_102 rfl rfl ?_
          refine ex_getR (v := .ref (57)) dX10_follows_103 fl_Model_7 rfl rfl (by decide) rfl ?_
          refine ex_iload_n (i := 3) dX10_follows_106 rfl rfl ?_
          refine ex_ialdN dX10_follows_107 rfl (by decide) (by omega) rfl ?_
          refine ex_asN (a := sy r 0) e57 ?_
          refine ex_iaddN dX10_follows_108 ?_
          refine ex_ialdN dX10_follows_109 rfl (by decide) (by omega) rfl ?_
          refine ex_asN (a := TJ (14 * s + sy r 0)) e67l ?_
          refine ex_if_leN (tgt := 205) dX10_follows_110 (by decide) (by omega) (fun h110 => by omega) (fun h110 => ?_)
          refine ex_aload_n (i := 0) dX10_follows_113 rfl rfl ?_
          refine ex_getR (v := .ref (58)) dX10_follows_114 fl_Model_13 rfl rfl (by decide) rfl ?_
          refine ex_iconst (v := nI 4) dX10_follows_117 (by decide) ?_
          refine ex_iload_n (i := 3) dX10_follows_118 rfl rfl ?_
          refine ex_imulN dX10_follows_119 ?_
          refine ex_iload dX10_follows_120 rfl ?_
          refine ex_iaddN dX10_follows_122 ?_
          refine ex_ialdN dX10_follows_123 rfl (by decide) (by omega) rfl ?_
          refine ex_asN (a := sy r (k + 1)) e58 ?_
          refine ex_istore (L' := [some (.ref (56)), some (.int (nI (b))), some (.int (nI (s))), some (.int (nI (r))), some (.int (nI (v))), some (.int (nI (p))), some (.int (nI (k))), some (.int (nI (sy r (k + 1)))), none]) dX10_follows_124 (by decide) rfl ?_
          refine ex_bipush (v := nI 14) dX10_follows_126 (by decide) ?_
          refine ex_iload dX10_follows_128 rfl ?_
          refine ex_imulN dX10_follows_130 ?_
          refine ex_iload dX10_follows_131 rfl ?_
          refine ex_iaddN dX10_follows_133 ?_
          refine ex_istore (L' := [some (.ref (56)), some (.int (nI (b))), some (.int (nI (s))), some (.int (nI (r))), some (.int (nI (v))), some (.int (nI (p))), some (.int (nI (k))), some (.int (nI (sy r (k + 1)))), some (.int (nI ((14 * p) + (sy r (k + 1)))))]) dX10_follows_134 (by decide) rfl ?_
          refine ex_iload dX10_follows_136 rfl ?_
          refine ex_cS (ν := m_Model_nonterminal) (as := [.int (nI (sy r (k + 1)))]) dX10_follows_138 ln_Model_135 mf_Model_nonterminal np_Model_nonterminal rfl rfl ⟨(Nat.le_of_ble_eq_true rfl), (Nat.le_of_ble_eq_true rfl), (Nat.le_of_ble_eq_true rfl), (Nat.le_of_ble_eq_true rfl)⟩ (by decide) ?_
          refine sp_Model_nonterminal_N (by omega) ?_
          refine ⟨_, rfl, ?_⟩
          refine ex_if_eqN (tgt := 190) dX10_follows_141 (by decide) (ntB_b _) (fun h141 => ?_) (fun h141 => by exact absurd nt h141)
          refine ex_aload_n (i := 0) dX10_follows_190 rfl rfl ?_
          refine ex_getR (v := .ref (67)) dX10_follows_191 fl_Model_41 rfl rfl (by decide) rfl ?_
          refine ex_iload dX10_follows_194 rfl ?_
          refine ex_ialdN dX10_follows_196 rfl (by decide) (by omega) rfl ?_
          refine ex_asN (a := TJ (14 * p + sy r (k + 1))) e67p ?_
          refine ex_istore (L' := [some (.ref (56)), some (.int (nI (b))), some (.int (nI (s))), some (.int (nI (r))), some (.int (nI (v))), some (.int (nI (TJ (14 * p + sy r (k + 1))))), some (.int (nI (k))), some (.int (nI (sy r (k + 1)))), some (.int (nI ((14 * p) + (sy r (k + 1)))))]) dX10_follows_197 (by decide) rfl ?_
          refine ex_iincN (L' := [some (.ref (56)), some (.int (nI (b))), some (.int (nI (s))), some (.int (nI (r))), some (.int (nI (v))), some (.int (nI (TJ (14 * p + sy r (k + 1))))), some (.int (nI (k + 1))), some (.int (nI (sy r (k + 1)))), some (.int (nI ((14 * p) + (sy r (k + 1)))))]) dX10_follows_199 rfl rfl (by decide) rfl ?_
          refine ex_goto (tgt := 83) dX10_follows_202 (by decide) ?_
          exact ex_less (L' := [some (.ref 56), some (.int (nI b)), some (.int (nI s)), some (.int (nI r)), some (.int (nI v)), some (.int (nI (TJ (14 * p + sy r (k + 1))))), some (.int (nI (k + 1))), none, none]) (by simp [xSub]) (NO (Or.inl nt))
        · have H153 : ∀ a, (a = 1 ∧ restE f sy r (k + 1)) ∨ (a = 0 ∧ ¬ restE f sy r (k + 1)) → Wx m_Model_follows 153 [some (.ref 56), some (.int (nI b)), some (.int (nI s)), some (.int (nI r)), some (.int (nI v)), some (.int (nI p)), some (.int (nI k)), some (.int (nI (sy r (k + 1)))), some (.int (nI (14 * p + sy r (k + 1))))] [.int (nI a)] (94, g, i1, q, RT t) (0, 0) Q := by
            intro a ha
            rcases ha with ⟨rfl, hre⟩ | ⟨rfl, hre⟩
            · by_cases hs1 : W (14 * p + sy r (k + 1)) ||| v = W (14 * p + sy r (k + 1))
              ·
                refine ex_if_eqN (tgt := 190) dX10_follows_153 (by decide) (by omega) (fun h153 => by exact absurd h153 (by decide)) (fun h153 => ?_)
                refine ex_aload_n (i := 0) dX10_follows_156 rfl rfl ?_
                refine ex_getR (v := .ref (71)) dX10_follows_157 fl_Model_53 rfl rfl (by decide) rfl ?_
                refine ex_iload dX10_follows_160 rfl ?_
                refine ex_ialdN dX10_follows_162 rfl (by decide) (by omega) rfl ?_
                refine ex_asN (a := W (14 * p + sy r (k + 1))) e71 ?_
                refine ex_iload dX10_follows_163 rfl ?_
                refine ex_iorN dX10_follows_165 ?_
                refine ex_aload_n (i := 0) dX10_follows_166 rfl rfl ?_
                refine ex_getR (v := .ref (71)) dX10_follows_167 fl_Model_53 rfl rfl (by decide) rfl ?_
                refine ex_iload dX10_follows_170 rfl ?_
                refine ex_ialdN dX10_follows_172 rfl (by decide) (by omega) rfl ?_
                refine ex_asN (a := W (14 * p + sy r (k + 1))) e71 ?_
                refine ex_icmp_eqN (tgt := 190) dX10_follows_173 (by decide) (by first | omega | exact Nat.lt_trans hor (by decide)) (by first | omega | exact Nat.lt_trans hor (by decide)) (fun h173 => ?_) (fun h173 => by exact absurd hs1 h173)
                refine ex_aload_n (i := 0) dX10_follows_190 rfl rfl ?_
                refine ex_getR (v := .ref (67)) dX10_follows_191 fl_Model_41 rfl rfl (by decide) rfl ?_
                refine ex_iload dX10_follows_194 rfl ?_
                refine ex_ialdN dX10_follows_196 rfl (by decide) (by omega) rfl ?_
                refine ex_asN (a := TJ (14 * p + sy r (k + 1))) e67p ?_
                refine ex_istore (L' := [some (.ref (56)), some (.int (nI (b))), some (.int (nI (s))), some (.int (nI (r))), some (.int (nI (v))), some (.int (nI (TJ (14 * p + sy r (k + 1))))), some (.int (nI (k))), some (.int (nI (sy r (k + 1)))), some (.int (nI ((14 * p) + (sy r (k + 1)))))]) dX10_follows_197 (by decide) rfl ?_
                refine ex_iincN (L' := [some (.ref (56)), some (.int (nI (b))), some (.int (nI (s))), some (.int (nI (r))), some (.int (nI (v))), some (.int (nI (TJ (14 * p + sy r (k + 1))))), some (.int (nI (k + 1))), some (.int (nI (sy r (k + 1)))), some (.int (nI ((14 * p) + (sy r (k + 1)))))]) dX10_follows_199 rfl rfl (by decide) rfl ?_
                refine ex_goto (tgt := 83) dX10_follows_202 (by decide) ?_
                exact ex_less (L' := [some (.ref 56), some (.int (nI b)), some (.int (nI s)), some (.int (nI r)), some (.int (nI v)), some (.int (nI (TJ (14 * p + sy r (k + 1))))), some (.int (nI (k + 1))), none, none]) (by simp [xSub]) (NO (Or.inr (Or.inr hs1)))
              · have hgr := upN_grow (F := W) (N := 14 * S) (show 14 * p + sy r (k + 1) < 14 * S by omega) or_ge hs1
                have NX : ∀ i2, i2 = xU i1 71 (14 * p + sy r (k + 1)) (nI (W (14 * p + sy r (k + 1)) ||| v)) → Wx m_Model_follows 83 [some (.ref 56), some (.int (nI 1)), some (.int (nI s)), some (.int (nI r)), some (.int (nI v)), some (.int (nI (TJ (14 * p + sy r (k + 1))))), some (.int (nI (k + 1))), none, none] [] (94, g, i2, q, RT t) (0, 0) Q := by
                  intro i2 hi2
                  refine ih (k + 1) _ 1 i2 (upN W (14 * p + sy r (k + 1)) (W (14 * p + sy r (k + 1)) ||| v)) (by omega) hpn ⟨by rw [hi2]; exact hw.1.U (by decide) (by decide), by rw [hi2]; exact hw.2.1.U, fun k => ?_, fun j hj => ?_, fun G hG j hj => ?_⟩ (Or.inr ⟨rfl, ?_⟩)
                  · unfold upN; split
                    · exact hor
                    · exact hw.2.2.1 k
                  · unfold upN; split
                    · rename_i e; rw [e]; exact sub_tr (hw.2.2.2.1 _ (by omega)) sub_l
                    · exact hw.2.2.2.1 j hj
                  · unfold upN; split
                    · rename_i e
                      rw [e]
                      refine sub_or (hw.2.2.2.2 G hG _ (by omega)) (sub_tr (hvG G hG) ?_)
                      have := hG.2 s r k hs hr (by omega) (by omega) nt hre
                      rw [← hp] at this; exact this
                    · exact hw.2.2.2.2 G hG j hj
                  · rcases hh with h | h
                    · rw [← h.2.1]; exact hgr
                    · omega
                refine ex_if_eqN (tgt := 190) dX10_follows_153 (by decide) (by omega) (fun h153 => by exact absurd h153 (by decide)) (fun h153 => ?_)
                refine ex_aload_n (i := 0) dX10_follows_156 rfl rfl ?_
                refine ex_getR (v := .ref (71)) dX10_follows_157 fl_Model_53 rfl rfl (by decide) rfl ?_
                refine ex_iload dX10_follows_160 rfl ?_
                refine ex_ialdN dX10_follows_162 rfl (by decide) (by omega) rfl ?_
                refine ex_asN (a := W (14 * p + sy r (k + 1))) e71 ?_
                refine ex_iload dX10_follows_163 rfl ?_
                refine ex_iorN dX10_follows_165 ?_
                refine ex_aload_n (i := 0) dX10_follows_166 rfl rfl ?_
                refine ex_getR (v := .ref (71)) dX10_follows_167 fl_Model_53 rfl rfl (by decide) rfl ?_
                refine ex_iload dX10_follows_170 rfl ?_
                refine ex_ialdN dX10_follows_172 rfl (by decide) (by omega) rfl ?_
                refine ex_asN (a := W (14 * p + sy r (k + 1))) e71 ?_
                refine ex_icmp_eqN (tgt := 190) dX10_follows_173 (by decide) (by first | omega | exact Nat.lt_trans hor (by decide)) (by first | omega | exact Nat.lt_trans hor (by decide)) (fun h173 => by exact absurd h173 hs1) (fun h173 => ?_)
                refine ex_aload_n (i := 0) dX10_follows_176 rfl rfl ?_
                refine ex_getR (v := .ref (71)) dX10_follows_177 fl_Model_53 rfl rfl (by decide) rfl ?_
                refine ex_iload dX10_follows_180 rfl ?_
                refine ex_dup2 dX10_follows_182 rfl rfl ?_
                refine ex_ialdN dX10_follows_183 rfl (by decide) (by omega) rfl ?_
                refine ex_asN (a := W (14 * p + sy r (k + 1))) e71 ?_
                refine ex_iload dX10_follows_184 rfl ?_
                refine ex_iorN dX10_follows_186 ?_
                refine ex_iastN dX10_follows_187 rfl (by decide) (by omega) ?_
                refine ex_iconst (v := nI 1) dX10_follows_188 (by decide) ?_
                refine ex_istore_n (L' := [some (.ref (56)), some (.int (nI (1))), some (.int (nI (s))), some (.int (nI (r))), some (.int (nI (v))), some (.int (nI (p))), some (.int (nI (k))), some (.int (nI (sy r (k + 1)))), some (.int (nI ((14 * p) + (sy r (k + 1)))))]) dX10_follows_189 (i := 1) rfl (by decide) rfl ?_
                refine ex_aload_n (i := 0) dX10_follows_190 rfl rfl ?_
                refine ex_getR (v := .ref (67)) dX10_follows_191 fl_Model_41 rfl rfl (by decide) rfl ?_
                refine ex_iload dX10_follows_194 rfl ?_
                refine ex_ialdN dX10_follows_196 rfl (by decide) (by omega) rfl ?_
                refine ex_asN (a := TJ (14 * p + sy r (k + 1))) e67p ?_
                refine ex_istore (L' := [some (.ref (56)), some (.int (nI (1))), some (.int (nI (s))), some (.int (nI (r))), some (.int (nI (v))), some (.int (nI (TJ (14 * p + sy r (k + 1))))), some (.int (nI (k))), some (.int (nI (sy r (k + 1)))), some (.int (nI ((14 * p) + (sy r (k + 1)))))]) dX10_follows_197 (by decide) rfl ?_
                refine ex_iincN (L' := [some (.ref (56)), some (.int (nI (1))), some (.int (nI (s))), some (.int (nI (r))), some (.int (nI (v))), some (.int (nI (TJ (14 * p + sy r (k + 1))))), some (.int (nI (k + 1))), some (.int (nI (sy r (k + 1)))), some (.int (nI ((14 * p) + (sy r (k + 1)))))]) dX10_follows_199 rfl rfl (by decide) rfl ?_
                refine ex_goto (tgt := 83) dX10_follows_202 (by decide) ?_
                exact ex_less (L' := [some (.ref 56), some (.int (nI 1)), some (.int (nI s)), some (.int (nI r)), some (.int (nI v)), some (.int (nI (TJ (14 * p + sy r (k + 1))))), some (.int (nI (k + 1))), none, none]) (by simp [xSub]) (NX _ rfl)
            ·
              refine ex_if_eqN (tgt := 190) dX10_follows_153 (by decide) (by omega) (fun h153 => ?_) (fun h153 => by exact absurd h153 (by decide))
              refine ex_aload_n (i := 0) dX10_follows_190 rfl rfl ?_
              refine ex_getR (v := .ref (67)) dX10_follows_191 fl_Model_41 rfl rfl (by decide) rfl ?_
              refine ex_iload dX10_follows_194 rfl ?_
              refine ex_ialdN dX10_follows_196 rfl (by decide) (by omega) rfl ?_
              refine ex_asN (a := TJ (14 * p + sy r (k + 1))) e67p ?_
              refine ex_istore (L' := [some (.ref (56)), some (.int (nI (b))), some (.int (nI (s))), some (.int (nI (r))), some (.int (nI (v))), some (.int (nI (TJ (14 * p + sy r (k + 1))))), some (.int (nI (k))), some (.int (nI (sy r (k + 1)))), some (.int (nI ((14 * p) + (sy r (k + 1)))))]) dX10_follows_197 (by decide) rfl ?_
              refine ex_iincN (L' := [some (.ref (56)), some (.int (nI (b))), some (.int (nI (s))), some (.int (nI (r))), some (.int (nI (v))), some (.int (nI (TJ (14 * p + sy r (k + 1))))), some (.int (nI (k + 1))), some (.int (nI (sy r (k + 1)))), some (.int (nI ((14 * p) + (sy r (k + 1)))))]) dX10_follows_199 rfl rfl (by decide) rfl ?_
              refine ex_goto (tgt := 83) dX10_follows_202 (by decide) ?_
              exact ex_less (L' := [some (.ref 56), some (.int (nI b)), some (.int (nI s)), some (.int (nI r)), some (.int (nI v)), some (.int (nI (TJ (14 * p + sy r (k + 1))))), some (.int (nI (k + 1))), none, none]) (by simp [xSub]) (NO (Or.inr (Or.inl hre)))
          refine ex_iload dX10_follows_83 rfl ?_
          refine ex_aload_n (i := 0) dX10_follows_85 rfl rfl ?_
          refine ex_getR (v := .ref (59)) dX10_follows_86 fl_Model_16 rfl rfl (by decide) rfl ?_
          refine ex_iload_n (i := 3) dX10_follows_89 rfl rfl ?_
          refine ex_ialdN dX10_follows_90 rfl (by decide) (by omega) rfl ?_
          refine ex_asN (a := lnR sy r) e59 ?_
          refine ex_icmp_geN (tgt := 205) dX10_follows_91 (by decide) (by omega) (by omega) (fun h91 => by omega) (fun h91 => ?_)
          refine ex_aload_n (i := 0) dX10_follows_94 rfl rfl ?_
          refine ex_getR (v := .ref (67)) dX10_follows_95 fl_Model_41 rfl rfl (by decide) rfl ?_
          refine ex_bipush (v := nI 14) dX10_follows_98 (by decide) ?_
          refine ex_iload_n (i := 2) dX10_follows_100 rfl rfl ?_
          refine ex_imulN dX10_follows_101 ?_
          refine ex_aload_n (i := 0) dX10_follows_102 rfl rfl ?_
          refine ex_getR (v := .ref (57)) dX10_follows_103 fl_Model_7 rfl rfl (by decide) rfl ?_
          refine ex_iload_n (i := 3) dX10_follows_106 rfl rfl ?_
          refine ex_ialdN dX10_follows_107 rfl (by decide) (by omega) rfl ?_
          refine ex_asN (a := sy r 0) e57 ?_
          refine ex_iaddN dX10_follows_108 ?_
          refine ex_ialdN dX10_follows_109 rfl (by decide) (by omega) rfl ?_
          refine ex_asN (a := TJ (14 * s + sy r 0)) e67l ?_
          refine ex_if_leN (tgt := 205) dX10_follows_110 (by decide) (by omega) (fun h110 => by omega) (fun h110 => ?_)
          refine ex_aload_n (i := 0) dX10_follows_113 rfl rfl ?_
          refine ex_getR (v := .ref (58)) dX10_follows_114 fl_Model_13 rfl rfl (by decide) rfl ?_
          refine ex_iconst (v := nI 4) dX10_follows_117 (by decide) ?_
          refine ex_iload_n (i := 3) dX10_follows_118 rfl rfl ?_
          refine ex_imulN dX10_follows_119 ?_
          refine ex_iload dX10_follows_120 rfl ?_
          refine ex_iaddN dX10_follows_122 ?_
          refine ex_ialdN dX10_follows_123 rfl (by decide) (by omega) rfl ?_
          refine ex_asN (a := sy r (k + 1)) e58 ?_
          refine ex_istore (L' := [some (.ref (56)), some (.int (nI (b))), some (.int (nI (s))), some (.int (nI (r))), some (.int (nI (v))), some (.int (nI (p))), some (.int (nI (k))), some (.int (nI (sy r (k + 1)))), none]) dX10_follows_124 (by decide) rfl ?_
          refine ex_bipush (v := nI 14) dX10_follows_126 (by decide) ?_
          refine ex_iload dX10_follows_128 rfl ?_
          refine ex_imulN dX10_follows_130 ?_
          refine ex_iload dX10_follows_131 rfl ?_
          refine ex_iaddN dX10_follows_133 ?_
          refine ex_istore (L' := [some (.ref (56)), some (.int (nI (b))), some (.int (nI (s))), some (.int (nI (r))), some (.int (nI (v))), some (.int (nI (p))), some (.int (nI (k))), some (.int (nI (sy r (k + 1)))), some (.int (nI ((14 * p) + (sy r (k + 1)))))]) dX10_follows_134 (by decide) rfl ?_
          refine ex_iload dX10_follows_136 rfl ?_
          refine ex_cS (ν := m_Model_nonterminal) (as := [.int (nI (sy r (k + 1)))]) dX10_follows_138 ln_Model_135 mf_Model_nonterminal np_Model_nonterminal rfl rfl ⟨(Nat.le_of_ble_eq_true rfl), (Nat.le_of_ble_eq_true rfl), (Nat.le_of_ble_eq_true rfl), (Nat.le_of_ble_eq_true rfl)⟩ (by decide) ?_
          refine sp_Model_nonterminal_N (by omega) ?_
          refine ⟨_, rfl, ?_⟩
          refine ex_if_eqN (tgt := 190) dX10_follows_141 (by decide) (ntB_b _) (fun h141 => by exact absurd h141 nt) (fun h141 => ?_)
          refine ex_aload_n (i := 0) dX10_follows_144 rfl rfl ?_
          refine ex_iload_n (i := 3) dX10_follows_145 rfl rfl ?_
          refine ex_iload dX10_follows_146 rfl ?_
          refine ex_iconst (v := nI 1) dX10_follows_148 (by decide) ?_
          refine ex_iaddN dX10_follows_149 ?_
          refine ex_cV (ν := m_Model_restEmpty) (a := 56) (ci := 10) (as := [.int (nI (r)), .int (nI (k + 1))]) dX10_follows_150 ln_Model_183 mf_Model_restEmpty rfl (Nat.le_of_ble_eq_true rfl) rfl rfl np_Model_restEmpty rfl rfl ⟨(Nat.le_of_ble_eq_true rfl), (Nat.le_of_ble_eq_true rfl), (Nat.le_of_ble_eq_true rfl), (Nat.le_of_ble_eq_true rfl)⟩ (by decide) ?_
          refine sp_Model_restEmpty rg1 hB1 hr (by omega) (fun hre => ⟨_, rfl, H153 1 (Or.inl ⟨rfl, hre⟩)⟩) (fun hre => ⟨_, rfl, H153 0 (Or.inr ⟨rfl, hre⟩)⟩)
          skip
end S70
