/-! ===== the reference: makeStates ===== -/
/-- the reference's states found so far: kernels ks -/
def MFI (n : Nat) (sy : Nat → Nat → Nat) (ks : List Nat) (i1 : Nat → Nat → Int32) (E : Nat → Nat) : Prop :=
  (i1 56 11 = nI ks.length ∧ 1 ≤ ks.length ∧ ks.length ≤ 50 ∧ ks.getD 0 0 = 0) ∧ (∀ j, 0 < j → j < ks.length → ks.getD j 0 ≠ 0) ∧ (∀ j, ks.getD j 0 < 2 ^ 60 ∧ okK n (ks.getD j 0)) ∧ (∀ j, j < 75 * ks.length → i1 65 j = nI (E j) ∧ E j < 2) ∧
  ∀ j it, j < ks.length → it < 75 → (E (75 * j + it) ≠ 0 ↔ clP n sy (kst (ks.getD j 0)) it)
/-- its targets found so far -/
def MTI (n : Nat) (sy : Nat → Nat → Nat) (ks : List Nat) (i1 : Nat → Nat → Int32) (s x : Nat) : Prop :=
  ∀ s' x', s' < ks.length → x' < 14 → ((1 ≤ x' ∧ (s' < s ∨ s' = s ∧ x' < x)) → (nx n sy (ks.getD s' 0) x' = 0 ∨ nx n sy (ks.getD s' 0) x' ∈ ks) ∧ i1 67 (14 * s' + x') = nI (tg n sy ks s' x')) ∧ (¬ (1 ≤ x' ∧ (s' < s ∨ s' = s ∧ x' < x)) → i1 67 (14 * s' + x') = nI 0)
theorem MTI.T {n : Nat} {sy : Nat → Nat → Nat} {ks : List Nat} {i1 : Nat → Nat → Int32} {s x : Nat} (h : MTI n sy ks i1 s x) (h1 : 1 ≤ x) (hx : x < 14) (hm : nx n sy (ks.getD s 0) x = 0 ∨ nx n sy (ks.getD s 0) x ∈ ks) : MTI n sy ks (xU i1 67 (14 * s + x) (nI (tg n sy ks s x))) s (x + 1) := by
  intro s' x' hs' hx'
  rw [xU_at]; unfold upd
  by_cases e : s' = s ∧ x' = x
  · obtain ⟨rfl, rfl⟩ := e
    rw [if_pos rfl]
    exact ⟨fun _ => ⟨hm, rfl⟩, fun z => absurd ⟨h1, Or.inr ⟨rfl, by omega⟩⟩ z⟩
  · rw [if_neg (by omega)]
    obtain ⟨a, b⟩ := h s' x' hs' hx'
    exact ⟨fun z => a (by omega), fun z => b (by omega)⟩
theorem MTI.T0 {n : Nat} {sy : Nat → Nat → Nat} {ks : List Nat} {i1 : Nat → Nat → Int32} {s x : Nat} (h : MTI n sy ks i1 s x) (h1 : 1 ≤ x) (hx : x < 14) (hm : nx n sy (ks.getD s 0) x = 0) : MTI n sy ks i1 s (x + 1) := by
  intro s' x' hs' hx'
  obtain ⟨a, b⟩ := h s' x' hs' hx'
  by_cases e : s' = s ∧ x' = x
  · obtain ⟨rfl, rfl⟩ := e
    refine ⟨fun _ => ⟨Or.inl hm, ?_⟩, fun z => absurd ⟨h1, Or.inr ⟨rfl, by omega⟩⟩ z⟩
    have : tg n sy ks s' x' = 0 := by unfold tg; rw [if_pos hm]
    rw [this]; exact b (by omega)
  · exact ⟨fun z => a (by omega), fun z => b (by omega)⟩
theorem MTI.fr {n : Nat} {sy : Nat → Nat → Nat} {ks : List Nat} {i1 i2 : Nat → Nat → Int32} {s x : Nat} (h : MTI n sy ks i1 s x) (e : ∀ j, j < 14 * ks.length → i2 67 j = i1 67 j) : MTI n sy ks i2 s x := fun s' x' hs' hx' => by
  rw [e _ (by omega)]; exact h s' x' hs' hx'
theorem MTI.app {n : Nat} {sy : Nat → Nat → Nat} {ks : List Nat} {K : Nat} {i1 : Nat → Nat → Int32} {s x : Nat} (h : MTI n sy ks i1 s x) (hs : s < ks.length) (h0 : ∀ x', x' < 14 → i1 67 (14 * ks.length + x') = nI 0) : MTI n sy (ks ++ [K]) i1 s x := by
  have hp : ks <+: ks ++ [K] := List.prefix_append _ _
  intro s' x' hs' hx'
  by_cases e : s' < ks.length
  · obtain ⟨a, b⟩ := h s' x' e hx'
    refine ⟨fun z => ?_, b⟩
    obtain ⟨b1, b2⟩ := a z
    refine ⟨?_, by rw [tg_pre hp e b1]; exact b2⟩
    rw [pre_getD hp e]
    exact b1.imp id (fun z => hp.subset z)
  · have e2 : s' = ks.length := by rw [List.length_append] at hs'; simp at hs'; omega
    rw [e2]
    exact ⟨fun z => by omega, fun _ => h0 x' hx'⟩
theorem MFI.T {n : Nat} {sy : Nat → Nat → Nat} {ks : List Nat} {i1 i2 : Nat → Nat → Int32} {E : Nat → Nat} (h : MFI n sy ks i1 E) (e1 : i2 56 11 = i1 56 11) (e2 : i2 65 = i1 65) : MFI n sy ks i2 E := by
  obtain ⟨⟨a, b⟩, c, d, e, f⟩ := h
  exact ⟨⟨by rw [e1]; exact a, b⟩, c, d, by rw [e2]; exact e, f⟩
theorem MFI.app {n : Nat} {sy : Nat → Nat → Nat} {ks : List Nat} {i1 i2 : Nat → Nat → Int32} {E F : Nat → Nat} {K : Nat} (h : MFI n sy ks i1 E) (hl : ks.length < 50) (hK : K < 2 ^ 60) (hK0 : K ≠ 0) (hok : okK n K) (e11 : i2 56 11 = nI (ks.length + 1)) (e65 : ∀ j, ¬ (75 * ks.length ≤ j ∧ j < 75 * ks.length + 75) → i2 65 j = i1 65 j) (eF : ∀ it, it < 75 → i2 65 (75 * ks.length + it) = nI (F it)) (hF : ∀ it, it < 75 → F it < 2 ∧ (F it ≠ 0 ↔ clP n sy (kst K) it)) :
    MFI n sy (ks ++ [K]) i2 (fun j => if j < 75 * ks.length then E j else F (j - 75 * ks.length)) := by
  obtain ⟨⟨a1, a2, a3, a4⟩, b, c, d, e⟩ := h
  have hlen : (ks ++ [K]).length = ks.length + 1 := by simp
  have hg1 : ∀ j, j < ks.length → (ks ++ [K]).getD j 0 = ks.getD j 0 := fun j hj => pre_getD (List.prefix_append _ _) hj
  have hg2 : (ks ++ [K]).getD ks.length 0 = K := by simp [List.getD_eq_getElem?_getD]
  refine ⟨⟨by rw [hlen]; exact e11, by omega, by omega, by rw [hg1 0 (by omega)]; exact a4⟩, fun j h0 hj => ?_, fun j => ?_, fun j hj => ?_, fun j it hj hit => ?_⟩
  · by_cases z : j = ks.length
    · rw [z, hg2]; exact hK0
    · rw [hg1 j (by omega)]; exact b j h0 (by omega)
  · by_cases z : j = ks.length
    · rw [z, hg2]; exact ⟨hK, hok⟩
    · by_cases z2 : j < ks.length
      · rw [hg1 j z2]; exact c j
      · have : (ks ++ [K]).getD j 0 = 0 := by rw [List.getD_eq_getElem?_getD, List.getElem?_eq_none (by rw [hlen]; omega)]; rfl
        rw [this]; exact ⟨Nat.two_pow_pos 60, okK_0⟩
  · rw [hlen] at hj
    by_cases z : j < 75 * ks.length
    · simp only [if_pos z]; rw [e65 j (by omega)]; exact d j z
    · simp only [if_neg z]
      have := eF (j - 75 * ks.length) (by omega)
      rw [show 75 * ks.length + (j - 75 * ks.length) = j by omega] at this
      exact ⟨this, (hF _ (by omega)).1⟩
  · by_cases z : j = ks.length
    · subst z
      rw [hg2]
      simp only [if_neg (show ¬ 75 * ks.length + it < 75 * ks.length by omega), show 75 * ks.length + it - 75 * ks.length = it by omega]
      exact (hF it hit).2
    · have hj2 : j < ks.length := by rw [hlen] at hj; omega
      rw [hg1 j hj2]
      simp only [if_pos (show 75 * j + it < 75 * ks.length by omega)]
      exact e j it hj2 hit
section S67
variable {g : Nat} {i : Nat → Nat → Int32} {q : Nat → Nat → Int64} {t : Bool} {Q : xRes → xMem → Prop} {n : Nat} {sy : Nat → Nat → Nat} {op xp yp : Nat → Nat}
theorem lp_Model_mark {E : Nat → Nat} {s x : Nat} (rg : RG i n sy) (h14 : RG14 i sy) (hs : s < 50) (hx : 1 ≤ x ∧ x < 14) (hE : ∀ it, it < 75 → i 65 (75 * s + it) = nI (E (75 * s + it)) ∧ E (75 * s + it) < 2 ∧ (E (75 * s + it) ≠ 0 → it / 5 < n ∨ it / 5 = 14))
    (hk : ∀ any i1 F0, Fm [66] [] i i1 → Vw i1 66 75 F0 → (∀ j, j < 75 → F0 j < 2) → (∀ it, it < 75 → (F0 it ≠ 0 ↔ ∃ j, it = j + 1 ∧ E (75 * s + j) ≠ 0 ∧ bh sy j = x)) → any < 2 → (any = 1 ↔ ∃ j, j < 75 ∧ E (75 * s + j) ≠ 0 ∧ bh sy j = x) → Wx m_Model_makeStates 141 [some (.ref 56), some (.int (nI s)), some (.int (nI x)), some (.int (nI any)), none] [] (94, g, i1, q, RT t) (0, 0) Q) :
    Wx m_Model_makeStates 62 [some (.ref 56), some (.int (nI s)), some (.int (nI x)), none, none] [] (94, g, i, q, RT t) (0, 0) Q := by
  have gw := rg.2.2.2.2
  have MK : ∀ d k any i1 F0, k + d = 75 → Fm [66] [] i i1 → Vw i1 66 75 F0 → (∀ j, j < 75 → F0 j < 2) → (∀ it, it < 75 → (F0 it ≠ 0 ↔ ∃ j, it = j + 1 ∧ j < k ∧ E (75 * s + j) ≠ 0 ∧ bh sy j = x)) → any < 2 → (any = 1 ↔ ∃ j, j < k ∧ E (75 * s + j) ≠ 0 ∧ bh sy j = x) →
      Wx m_Model_makeStates 91 [some (.ref 56), some (.int (nI s)), some (.int (nI x)), some (.int (nI any)), some (.int (nI k))] [] (94, g, i1, q, RT t) (0, 0) Q := by
    intro d
    induction d with
    | zero =>
      intro k any i1 F0 hk2 hf hV h01 hF ha han
      have e : k = 75 := hk2
      subst e
      refine ex_iload dX10_makeStates_91 rfl ?_
      refine ex_bipush (v := nI 75) dX10_makeStates_93 (by decide) ?_
      refine ex_icmp_geN (tgt := 141) dX10_makeStates_95 (by decide) (by decide) (by decide) (fun h95 => ?_) (fun h95 => by exact absurd h95 (by decide))
      exact ex_less (L' := [some (.ref 56), some (.int (nI s)), some (.int (nI x)), some (.int (nI any)), none]) (by simp [xSub]) (hk any i1 F0 hf hV h01 (fun it hit => (hF it hit).trans ⟨fun ⟨j, a, _, b⟩ => ⟨j, a, b⟩, fun ⟨j, a, b⟩ => ⟨j, a, by omega, b⟩⟩) ha han)
    | succ d ih =>
      intro k any i1 F0 hk2 hf hV h01 hF ha han
      have hk75 : k < 75 := by omega
      have rg1 := rg.fm hf (by decide) (by decide) (by decide) (by decide)
      have h141 := h14.fm hf (by decide) (by decide)
      obtain ⟨e65, hE2, hEr⟩ := hE k hk75
      have e65 : i1 65 (75 * s + k) = nI (E (75 * s + k)) := by rw [hf.1 65 (by decide) (by decide)]; exact e65
      have hbh : bh sy k < 2 ^ 31 := by
        unfold bh; split
        · have := gw.le (r := k / 5) (k := k % 5 + 1) (by omega) (by omega); omega
        · decide
      have NO : ¬ (E (75 * s + k) ≠ 0 ∧ bh sy k = x) → Wx m_Model_makeStates 91 [some (.ref 56), some (.int (nI s)), some (.int (nI x)), some (.int (nI any)), some (.int (nI (k + 1)))] [] (94, g, i1, q, RT t) (0, 0) Q := fun hno =>
        ih (k + 1) any i1 F0 (by omega) hf hV h01 (fun it hit => (hF it hit).trans ⟨fun ⟨j, a, b, c⟩ => ⟨j, a, by omega, c⟩, fun ⟨j, a, b, c⟩ => ⟨j, a, by
          by_cases e : j = k
          · rw [e] at c; exact absurd c hno
          · omega, c⟩⟩) ha (han.trans ⟨fun ⟨j, b, c⟩ => ⟨j, by omega, c⟩, fun ⟨j, b, c⟩ => ⟨j, by
          by_cases e : j = k
          · rw [e] at c; exact absurd c hno
          · omega, c⟩⟩)
      by_cases z : E (75 * s + k) = 0
      ·
        refine ex_iload dX10_makeStates_91 rfl ?_
        refine ex_bipush (v := nI 75) dX10_makeStates_93 (by decide) ?_
        refine ex_icmp_geN (tgt := 141) dX10_makeStates_95 (by decide) (by omega) (by omega) (fun h95 => by omega) (fun h95 => ?_)
        refine ex_aload_n (i := 0) dX10_makeStates_98 rfl rfl ?_
        refine ex_getR (v := .ref (65)) dX10_makeStates_99 fl_Model_34 rfl rfl (by decide) rfl ?_
        refine ex_bipush (v := nI 75) dX10_makeStates_102 (by decide) ?_
        refine ex_iload_n (i := 1) dX10_makeStates_104 rfl rfl ?_
        refine ex_imulN dX10_makeStates_105 ?_
        refine ex_iload dX10_makeStates_106 rfl ?_
        refine ex_iaddN dX10_makeStates_108 ?_
        refine ex_baldN dX10_makeStates_109 rfl (by decide) (by omega) rfl ?_
        refine ex_asN (a := E (75 * s + k)) e65 ?_
        refine ex_if_eqN (tgt := 135) dX10_makeStates_110 (by decide) (by omega) (fun h110 => ?_) (fun h110 => by exact absurd z h110)
        refine ex_iincN (L' := [some (.ref (56)), some (.int (nI (s))), some (.int (nI (x))), some (.int (nI (any))), some (.int (nI (k + 1)))]) dX10_makeStates_135 rfl rfl (by decide) rfl ?_
        refine ex_goto (tgt := 91) dX10_makeStates_138 (by decide) ?_
        exact NO (fun c => c.1 z)
      · by_cases hb : bh sy k = x
        · have hk4 := bh_dot (sy := sy) (it := k) (by omega)
          refine ex_iload dX10_makeStates_91 rfl ?_
          refine ex_bipush (v := nI 75) dX10_makeStates_93 (by decide) ?_
          refine ex_icmp_geN (tgt := 141) dX10_makeStates_95 (by decide) (by omega) (by omega) (fun h95 => by omega) (fun h95 => ?_)
          refine ex_aload_n (i := 0) dX10_makeStates_98 rfl rfl ?_
          refine ex_getR (v := .ref (65)) dX10_makeStates_99 fl_Model_34 rfl rfl (by decide) rfl ?_
          refine ex_bipush (v := nI 75) dX10_makeStates_102 (by decide) ?_
          refine ex_iload_n (i := 1) dX10_makeStates_104 rfl rfl ?_
          refine ex_imulN dX10_makeStates_105 ?_
          refine ex_iload dX10_makeStates_106 rfl ?_
          refine ex_iaddN dX10_makeStates_108 ?_
          refine ex_baldN dX10_makeStates_109 rfl (by decide) (by omega) rfl ?_
          refine ex_asN (a := E (75 * s + k)) e65 ?_
          refine ex_if_eqN (tgt := 135) dX10_makeStates_110 (by decide) (by omega) (fun h110 => by exact absurd h110 z) (fun h110 => ?_)
          refine ex_aload_n (i := 0) dX10_makeStates_113 rfl rfl ?_
          refine ex_iload dX10_makeStates_114 rfl ?_
          refine ex_cV (ν := m_Model_behind) (a := 56) (ci := 10) (as := [.int (nI (k))]) dX10_makeStates_116 ln_Model_166 mf_Model_behind rfl (Nat.le_of_ble_eq_true rfl) rfl rfl np_Model_behind rfl rfl ⟨(Nat.le_of_ble_eq_true rfl), (Nat.le_of_ble_eq_true rfl), (Nat.le_of_ble_eq_true rfl), (Nat.le_of_ble_eq_true rfl)⟩ (by decide) ?_
          refine sp_Model_behind rg1 h141 hk75 (hEr z) ?_
          refine ⟨_, rfl, ?_⟩
          refine ex_iload_n (i := 2) dX10_makeStates_119 rfl rfl ?_
          refine ex_icmp_neN (tgt := 135) dX10_makeStates_120 (by decide) (by omega) (by omega) (fun h120 => by exact absurd hb h120) (fun h120 => ?_)
          refine ex_aload_n (i := 0) dX10_makeStates_123 rfl rfl ?_
          refine ex_getR (v := .ref (66)) dX10_makeStates_124 fl_Model_38 rfl rfl (by decide) rfl ?_
          refine ex_iload dX10_makeStates_127 rfl ?_
          refine ex_iconst (v := nI 1) dX10_makeStates_129 (by decide) ?_
          refine ex_iaddN dX10_makeStates_130 ?_
          refine ex_iconst (v := nI 1) dX10_makeStates_131 (by decide) ?_
          refine ex_bastN dX10_makeStates_132 rfl (by decide) (by decide) (by omega) ?_
          refine ex_iconst (v := nI 1) dX10_makeStates_133 (by decide) ?_
          refine ex_istore_n (L' := [some (.ref (56)), some (.int (nI (s))), some (.int (nI (x))), some (.int (nI (1))), some (.int (nI (k)))]) dX10_makeStates_134 (i := 3) rfl (by decide) rfl ?_
          refine ex_iincN (L' := [some (.ref (56)), some (.int (nI (s))), some (.int (nI (x))), some (.int (nI (1))), some (.int (nI (k + 1)))]) dX10_makeStates_135 rfl rfl (by decide) rfl ?_
          refine ex_goto (tgt := 91) dX10_makeStates_138 (by decide) ?_
          refine ih (k + 1) 1 _ (upN F0 (k + 1) 1) (by omega) (hf.U (by decide) (by decide)) (by have := hV.U (k := k + 1) (v := 1); exact this) (fun j hj => ?_) (fun it hit => ?_) (by decide) ⟨fun _ => ⟨k, by omega, z, hb⟩, fun _ => rfl⟩
          · unfold upN; split
            · decide
            · exact h01 j hj
          · by_cases e : it = k + 1
            · rw [e, upN_at]; exact ⟨fun _ => ⟨k, rfl, by omega, z, hb⟩, fun _ => by decide⟩
            · rw [upN_ne _ _ e]
              exact (hF it hit).trans ⟨fun ⟨j, a, b, c⟩ => ⟨j, a, by omega, c⟩, fun ⟨j, a, b, c⟩ => ⟨j, a, by omega, c⟩⟩
        ·
          refine ex_iload dX10_makeStates_91 rfl ?_
          refine ex_bipush (v := nI 75) dX10_makeStates_93 (by decide) ?_
          refine ex_icmp_geN (tgt := 141) dX10_makeStates_95 (by decide) (by omega) (by omega) (fun h95 => by omega) (fun h95 => ?_)
          refine ex_aload_n (i := 0) dX10_makeStates_98 rfl rfl ?_
          refine ex_getR (v := .ref (65)) dX10_makeStates_99 fl_Model_34 rfl rfl (by decide) rfl ?_
          refine ex_bipush (v := nI 75) dX10_makeStates_102 (by decide) ?_
          refine ex_iload_n (i := 1) dX10_makeStates_104 rfl rfl ?_
          refine ex_imulN dX10_makeStates_105 ?_
          refine ex_iload dX10_makeStates_106 rfl ?_
          refine ex_iaddN dX10_makeStates_108 ?_
          refine ex_baldN dX10_makeStates_109 rfl (by decide) (by omega) rfl ?_
          refine ex_asN (a := E (75 * s + k)) e65 ?_
          refine ex_if_eqN (tgt := 135) dX10_makeStates_110 (by decide) (by omega) (fun h110 => by exact absurd h110 z) (fun h110 => ?_)
          refine ex_aload_n (i := 0) dX10_makeStates_113 rfl rfl ?_
          refine ex_iload dX10_makeStates_114 rfl ?_
          refine ex_cV (ν := m_Model_behind) (a := 56) (ci := 10) (as := [.int (nI (k))]) dX10_makeStates_116 ln_Model_166 mf_Model_behind rfl (Nat.le_of_ble_eq_true rfl) rfl rfl np_Model_behind rfl rfl ⟨(Nat.le_of_ble_eq_true rfl), (Nat.le_of_ble_eq_true rfl), (Nat.le_of_ble_eq_true rfl), (Nat.le_of_ble_eq_true rfl)⟩ (by decide) ?_
          refine sp_Model_behind rg1 h141 hk75 (hEr z) ?_
          refine ⟨_, rfl, ?_⟩
          refine ex_iload_n (i := 2) dX10_makeStates_119 rfl rfl ?_
          refine ex_icmp_neN (tgt := 135) dX10_makeStates_120 (by decide) (by omega) (by omega) (fun h120 => ?_) (fun h120 => by exact absurd h120 hb)
          refine ex_iincN (L' := [some (.ref (56)), some (.int (nI (s))), some (.int (nI (x))), some (.int (nI (any))), some (.int (nI (k + 1)))]) dX10_makeStates_135 rfl rfl (by decide) rfl ?_
          refine ex_goto (tgt := 91) dX10_makeStates_138 (by decide) ?_
          exact NO (fun c => hb c.2)
  have CLR : ∀ d k i1, k + d = 75 → Fm [66] [] i i1 → (∀ j, j < k → i1 66 j = nI 0) → Wx m_Model_makeStates 67 [some (.ref 56), some (.int (nI s)), some (.int (nI x)), some (.int (nI 0)), some (.int (nI k))] [] (94, g, i1, q, RT t) (0, 0) Q := by
    intro d
    induction d with
    | zero =>
      intro k i1 hk2 hf h0
      have e : k = 75 := hk2
      subst e
      refine ex_iload dX10_makeStates_67 rfl ?_
      refine ex_bipush (v := nI 75) dX10_makeStates_69 (by decide) ?_
      refine ex_icmp_geN (tgt := 88) dX10_makeStates_71 (by decide) (by decide) (by decide) (fun h71 => ?_) (fun h71 => by exact absurd h71 (by decide))
      refine ex_iconst (v := nI 0) dX10_makeStates_88 (by decide) ?_
      refine ex_istore (L' := [some (.ref (56)), some (.int (nI (s))), some (.int (nI (x))), some (.int (nI (0))), some (.int (nI (0)))]) dX10_makeStates_89 (by decide) rfl ?_
      exact MK 75 0 0 i1 (fun _ => 0) rfl hf h0 (fun _ _ => by decide) (fun it _ => ⟨fun h => absurd rfl h, fun ⟨j, _, b, _⟩ => by omega⟩) (by decide) ⟨fun h => absurd h (by decide), fun ⟨j, b, _⟩ => by omega⟩
    | succ d ih =>
      intro k i1 hk2 hf h0
      refine ex_iload dX10_makeStates_67 rfl ?_
      refine ex_bipush (v := nI 75) dX10_makeStates_69 (by decide) ?_
      refine ex_icmp_geN (tgt := 88) dX10_makeStates_71 (by decide) (by omega) (by omega) (fun h71 => by omega) (fun h71 => ?_)
      refine ex_aload_n (i := 0) dX10_makeStates_74 rfl rfl ?_
      refine ex_getR (v := .ref (66)) dX10_makeStates_75 fl_Model_38 rfl rfl (by decide) rfl ?_
      refine ex_iload dX10_makeStates_78 rfl ?_
      refine ex_iconst (v := nI 0) dX10_makeStates_80 (by decide) ?_
      refine ex_bastN dX10_makeStates_81 rfl (by decide) (by decide) (by omega) ?_
      refine ex_iincN (L' := [some (.ref (56)), some (.int (nI (s))), some (.int (nI (x))), some (.int (nI (0))), some (.int (nI (k + 1)))]) dX10_makeStates_82 rfl rfl (by decide) rfl ?_
      refine ex_goto (tgt := 67) dX10_makeStates_85 (by decide) ?_
      refine ih (k + 1) _ (by omega) (hf.U (by decide) (by decide)) (fun j hj => ?_)
      rw [xU_at]; unfold upd
      by_cases e : j = k
      · rw [if_pos e]
      · rw [if_neg e]; exact h0 j (by omega)
  refine ex_iconst (v := nI 0) dX10_makeStates_62 (by decide) ?_
  refine ex_istore_n (L' := [some (.ref (56)), some (.int (nI (s))), some (.int (nI (x))), some (.int (nI (0))), none]) dX10_makeStates_63 (i := 3) rfl (by decide) rfl ?_
  refine ex_iconst (v := nI 0) dX10_makeStates_64 (by decide) ?_
  refine ex_istore (L' := [some (.ref (56)), some (.int (nI (s))), some (.int (nI (x))), some (.int (nI (0))), some (.int (nI (0)))]) dX10_makeStates_65 (by decide) rfl ?_
  exact CLR 75 0 i rfl Fm.rf (fun j h => by omega)
theorem same_iff {n : Nat} {sy : Nat → Nat → Nat} {ks : List Nat} {i1 : Nat → Nat → Int32} {E F : Nat → Nat} {K : Nat} (h : MFI n sy ks i1 E) (hK : K < 2 ^ 60) (hF : ∀ it, it < 75 → F it < 2 ∧ (F it ≠ 0 ↔ clP n sy (kst K) it)) {s : Nat} (hs : s < ks.length) : sameS E F s ↔ ks.getD s 0 = K := by
  obtain ⟨-, -, c, d, e⟩ := h
  constructor
  · intro hh
    refine clP_inj (n := n) (sy := sy) (c s).1 hK (fun it hi => ?_)
    rw [← e s it hs hi, ← (hF it hi).2, hh it hi]
  · intro hh it hi
    have h1 := e s it hs hi
    have h2 := (hF it hi).2
    rw [hh] at h1
    have h3 := (d (75 * s + it) (by omega)).2
    have h4 := (hF it hi).1
    by_cases z : E (75 * s + it) = 0
    · have : ¬ F it ≠ 0 := fun y => (h1.mpr (h2.mp y)) z
      omega
    · have : F it ≠ 0 := h2.mpr (h1.mp z)
      omega
theorem fnd_idx {n : Nat} {sy : Nat → Nat → Nat} {ks : List Nat} {i1 : Nat → Nat → Int32} {E F : Nat → Nat} {K f : Nat} (h : MFI n sy ks i1 E) (hK : K < 2 ^ 60) (hF : ∀ it, it < 75 → F it < 2 ∧ (F it ≠ 0 ↔ clP n sy (kst K) it)) (hf : fnd E F ks.length 0 f) : (K ∈ ks ∧ f = ks.idxOf K ∧ f < ks.length) ∨ (K ∉ ks ∧ f = ks.length) := by
  rcases hf with ⟨e, h1⟩ | ⟨_, h2, h3, h4⟩
  · refine Or.inr ⟨fun hm => ?_, e⟩
    obtain ⟨s, hs, he⟩ := mem_getD hm
    exact h1 s (Nat.zero_le _) hs ((same_iff h hK hF hs).mpr he)
  · have e := (same_iff h hK hF h2).mp h3
    refine Or.inl ⟨by rw [← e]; exact getD_mem h2, ?_, h2⟩
    exact (idx_of h2 e (fun j hj z => h4 j (Nat.zero_le _) hj ((same_iff h hK hF (by omega)).mpr z))).symm
end S67
