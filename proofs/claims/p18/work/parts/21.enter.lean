/-! ===== States: kernels' bits, entering a state, going on ===== -/
section S21
variable {ζ g : Nat} {i : Nat → Nat → Int32} {q : Nat → Nat → Int64} {t : Bool} {Q : xRes → xMem → Prop} {n : Nat} {sy : Nat → Nat → Nat}
theorem ex_asJ {μ : xMeth} {pc : Nat} {L : xLoc} {st : List Value} {M : xMem} {K : Nat × Nat} {x y : Int64} (h : x = y) (k : Wx μ pc L (.long y :: st) M K Q) : Wx μ pc L (.long x :: st) M K Q := by rw [h]; exact k
theorem lgz {a b : Nat} (h : a &&& b = 0) : lg_cmp (lN a &&& lN b) 0 = 0 := by rw [lN_and, h]; decide
theorem lgn {a b : Nat} (ha : a < 2 ^ 60) (h : lg_cmp (lN a &&& lN b) 0 = 0) : a &&& b = 0 := by
  rw [lg0, lN_and] at h
  have h2 : a &&& b ≤ a := Nat.and_le_left
  exact (pk_lEQ (by omega) (by decide)).mp (h.trans (by decide : (0 : Int64) = lN 0))
theorem lg_z {a : Nat} (ha : a < 2 ^ 60) : lg_cmp (lN a) 0 = 0 ↔ a = 0 := by
  rw [lg0]
  constructor
  · intro h; exact (pk_lEQ (by omega) (by decide)).mp (h.trans (by decide : (0 : Int64) = lN 0))
  · intro h; subst h; decide
theorem lg_e {a b : Nat} (ha : a < 2 ^ 60) (hb : b < 2 ^ 60) : lg_cmp (lN a) (lN b) = 0 ↔ a = b := by
  rw [lg0]
  exact pk_lEQ (by omega) (by omega)
theorem sp_States_kernelBit {it : Nat} (hi : it ≤ 75) (hQ : Q (.ok (some (.long (lN (kb it))))) (56 + ζ, g, i, q, RT t)) : Wx m_States_kernelBit 0 [some (.int (nI it)), none] [] (56 + ζ, g, i, q, RT t) (0, 0) Q := by
  by_cases h : it % 5 = 0
  · have e : kb it = 0 := by unfold kb; rw [if_pos h]
    rw [e] at hQ
    refine ex_iload_n (i := 0) dX7_kernelBit_0 rfl rfl ?_
    refine ex_iconst (v := nI 5) dX7_kernelBit_1 (by decide) ?_
    refine ex_iremN dX7_kernelBit_2 (by omega) (by decide) (by decide) ?_
    refine ex_istore_n (L' := [some (.int (nI (it))), some (.int (nI (it % 5)))]) dX7_kernelBit_3 (i := 1) rfl (by decide) rfl ?_
    refine ex_iload_n (i := 1) dX7_kernelBit_4 rfl rfl ?_
    refine ex_if_neN (tgt := 12) dX7_kernelBit_5 (by decide) (by omega) (fun h5 => by exact absurd h h5) (fun h5 => ?_)
    refine ex_lconst (v := 0) dX7_kernelBit_8 (by decide) ?_
    refine ex_goto (tgt := 23) dX7_kernelBit_9 (by decide) ?_
    refine ex_lret dX7_kernelBit_23 rfl ?_
    exact hQ
  · have e : kb it = 2 ^ (it / 5 * 4 + it % 5 - 1) := by unfold kb; rw [if_neg h]
    rw [e] at hQ
    refine ex_iload_n (i := 0) dX7_kernelBit_0 rfl rfl ?_
    refine ex_iconst (v := nI 5) dX7_kernelBit_1 (by decide) ?_
    refine ex_iremN dX7_kernelBit_2 (by omega) (by decide) (by decide) ?_
    refine ex_istore_n (L' := [some (.int (nI (it))), some (.int (nI (it % 5)))]) dX7_kernelBit_3 (i := 1) rfl (by decide) rfl ?_
    refine ex_iload_n (i := 1) dX7_kernelBit_4 rfl rfl ?_
    refine ex_if_neN (tgt := 12) dX7_kernelBit_5 (by decide) (by omega) (fun h5 => ?_) (fun h5 => by exact absurd h5 h)
    refine ex_lconst (v := 1) dX7_kernelBit_12 (by decide) ?_
    refine ex_iload_n (i := 0) dX7_kernelBit_13 rfl rfl ?_
    refine ex_iconst (v := nI 5) dX7_kernelBit_14 (by decide) ?_
    refine ex_idivN dX7_kernelBit_15 (by omega) (by decide) (by decide) ?_
    refine ex_iconst (v := nI 4) dX7_kernelBit_16 (by decide) ?_
    refine ex_imulN dX7_kernelBit_17 ?_
    refine ex_iload_n (i := 1) dX7_kernelBit_18 rfl rfl ?_
    refine ex_iaddN dX7_kernelBit_19 ?_
    refine ex_iconst (v := nI 1) dX7_kernelBit_20 (by decide) ?_
    refine ex_isubN dX7_kernelBit_21 (by omega) ?_
    refine ex_lshl dX7_kernelBit_22 ?_
    refine ex_lret dX7_kernelBit_23 rfl ?_
    rw [lN_shl1 (by omega)]; exact hQ
/-- a state's row, when it is entered with kernel K -/
def enF (s K k : Nat) (F : Nat → Nat) : Nat → Nat := fun j => if s * 75 ≤ j ∧ j < s * 75 + k then (if K &&& kb (j - s * 75) = 0 then 0 else 128) else F j
theorem enF_0 (s K : Nat) (F : Nat → Nat) : enF s K 0 F = F := by funext j; unfold enF; rw [if_neg (by omega)]
theorem enF_s (s K k : Nat) (F : Nat → Nat) : upN (enF s K k F) (s * 75 + k) (if K &&& kb k = 0 then 0 else 128) = enF s K (k + 1) F := by
  funext j
  by_cases e : j = s * 75 + k
  · subst e
    have c1 : s * 75 ≤ s * 75 + k ∧ s * 75 + k < s * 75 + (k + 1) := by omega
    rw [upN_at]; unfold enF
    rw [if_pos c1, show s * 75 + k - s * 75 = k by omega]
  · rw [upN_ne _ _ e]; unfold enF
    by_cases h : s * 75 ≤ j ∧ j < s * 75 + k
    · have c1 : s * 75 ≤ j ∧ j < s * 75 + (k + 1) := by omega
      rw [if_pos h, if_pos c1]
    · have c1 : ¬ (s * 75 ≤ j ∧ j < s * 75 + (k + 1)) := by omega
      rw [if_neg h, if_neg c1]
theorem lp_States_enter {s K : Nat} {F : Nat → Nat} {q1 : Nat → Nat → Int64} (sc : SC i) (hs : s < 50) (hK : K < 2 ^ 60)
    (hk : ∀ i1, Fr [22] i i1 → Vw i1 22 3750 (enF s K 75 F) → Wx m_States_enter 59 [some (.ref 16), some (.long (lN K)), none, some (.int (nI s)), none] [] (56 + ζ, g, i1, q1, RT t) (0, 0) Q) :
    ∀ d k i1, k + d = 75 → Fr [22] i i1 → Vw i1 22 3750 (enF s K k F) → Wx m_States_enter 17 [some (.ref 16), some (.long (lN K)), none, some (.int (nI s)), some (.int (nI k))] [] (56 + ζ, g, i1, q1, RT t) (0, 0) Q := by
  intro d
  induction d with
  | zero =>
    intro k i1 hkk hf hV
    have e : k = 75 := by omega
    subst e
    refine ex_iload dX7_enter_17 rfl ?_
    refine ex_bipush (v := nI 75) dX7_enter_19 (by decide) ?_
    refine ex_icmp_geN (tgt := 59) dX7_enter_21 (by decide) (by decide) (by decide) (fun h21 => ?_) (fun h21 => by exact absurd h21 (by decide))
    exact ex_less (L' := [some (.ref 16), some (.long (lN K)), none, some (.int (nI s)), none]) (by simp [xSub]) (hk i1 hf hV)
  | succ d ih =>
    intro k i1 hkk hf hV
    have sc1 := SC_Fr (by decide) hf sc
    by_cases hz : K &&& kb k = 0
    · have hV2 : Vw (xU i1 22 (s * 75 + k) (nI 0)) 22 3750 (enF s K (k + 1) F) := by rw [← enF_s, if_pos hz]; exact hV.U
      refine ex_iload dX7_enter_17 rfl ?_
      refine ex_bipush (v := nI 75) dX7_enter_19 (by decide) ?_
      refine ex_icmp_geN (tgt := 59) dX7_enter_21 (by decide) (by omega) (by omega) (fun h21 => by omega) (fun h21 => ?_)
      refine ex_aload_n (i := 0) dX7_enter_24 rfl rfl ?_
      refine ex_getR (v := .ref (21)) dX7_enter_25 fl_States_32 rfl rfl (l56 (by decide)) rfl ?_
      refine ex_iload_n (i := 3) dX7_enter_28 rfl rfl ?_
      refine ex_iload dX7_enter_29 rfl ?_
      refine ex_lload_n (i := 1) dX7_enter_31 rfl rfl ?_
      refine ex_iload dX7_enter_32 rfl ?_
      refine ex_cS (ν := m_States_kernelBit) (as := [.int (nI (k))]) dX7_enter_34 ln_States_92 mf_States_kernelBit np_States_kernelBit rfl rfl ⟨(Nat.le_of_ble_eq_true rfl), (Nat.le_of_ble_eq_true rfl), (Nat.le_of_ble_eq_true rfl), (Nat.le_of_ble_eq_true rfl)⟩ (by decide) ?_
      refine sp_States_kernelBit (by omega) ?_
      refine ⟨_, rfl, ?_⟩
      refine ex_land dX7_enter_37 ?_
      refine ex_lconst (v := 0) dX7_enter_38 (by decide) ?_
      refine ex_lcmp dX7_enter_39 ?_
      refine ex_if_eq (tgt := 49) dX7_enter_40 (by decide) (fun h40 => ?_) (fun h40 => by exact absurd (lgz hz) h40)
      refine ex_iconst (v := nI 0) dX7_enter_49 (by decide) ?_
      refine ex_cV (ν := m_Grid_set) (a := 21) (ci := 2) (as := [.int (nI (s)), .int (nI (k)), .int (nI (0))]) dX7_enter_50 ln_States_82 mf_Grid_set rfl (l56 (by decide)) rfl rfl np_Grid_set rfl rfl ⟨(Nat.le_of_ble_eq_true rfl), (Nat.le_of_ble_eq_true rfl), (Nat.le_of_ble_eq_true rfl), (Nat.le_of_ble_eq_true rfl)⟩ (by decide) ?_
      refine sp_Grid_set (r := 21) (c := 22) rfl rfl rfl (l56 (by decide)) (l56 (by decide)) (sc_21_0 sc1) (sc_21_1 sc1) rfl (by omega) (by omega) ?_
      refine ⟨_, rfl, ?_⟩
      refine ex_iincN (L' := [some (.ref (16)), some (.long (lN K)), none, some (.int (nI (s))), some (.int (nI (k + 1)))]) dX7_enter_53 rfl rfl (by decide) rfl ?_
      refine ex_goto (tgt := 17) dX7_enter_56 (by decide) ?_
      exact ih (k + 1) _ (by omega) (hf.U (by decide)) hV2
    · have hV2 : Vw (xU i1 22 (s * 75 + k) (nI 128)) 22 3750 (enF s K (k + 1) F) := by rw [← enF_s, if_neg hz]; exact hV.U
      refine ex_iload dX7_enter_17 rfl ?_
      refine ex_bipush (v := nI 75) dX7_enter_19 (by decide) ?_
      refine ex_icmp_geN (tgt := 59) dX7_enter_21 (by decide) (by omega) (by omega) (fun h21 => by omega) (fun h21 => ?_)
      refine ex_aload_n (i := 0) dX7_enter_24 rfl rfl ?_
      refine ex_getR (v := .ref (21)) dX7_enter_25 fl_States_32 rfl rfl (l56 (by decide)) rfl ?_
      refine ex_iload_n (i := 3) dX7_enter_28 rfl rfl ?_
      refine ex_iload dX7_enter_29 rfl ?_
      refine ex_lload_n (i := 1) dX7_enter_31 rfl rfl ?_
      refine ex_iload dX7_enter_32 rfl ?_
      refine ex_cS (ν := m_States_kernelBit) (as := [.int (nI (k))]) dX7_enter_34 ln_States_92 mf_States_kernelBit np_States_kernelBit rfl rfl ⟨(Nat.le_of_ble_eq_true rfl), (Nat.le_of_ble_eq_true rfl), (Nat.le_of_ble_eq_true rfl), (Nat.le_of_ble_eq_true rfl)⟩ (by decide) ?_
      refine sp_States_kernelBit (by omega) ?_
      refine ⟨_, rfl, ?_⟩
      refine ex_land dX7_enter_37 ?_
      refine ex_lconst (v := 0) dX7_enter_38 (by decide) ?_
      refine ex_lcmp dX7_enter_39 ?_
      refine ex_if_eq (tgt := 49) dX7_enter_40 (by decide) (fun h40 => by exact absurd (lgn hK h40) hz) (fun h40 => ?_)
      refine ex_sipush (v := nI 128) dX7_enter_43 (by decide) ?_
      refine ex_goto (tgt := 50) dX7_enter_46 (by decide) ?_
      refine ex_cV (ν := m_Grid_set) (a := 21) (ci := 2) (as := [.int (nI (s)), .int (nI (k)), .int (nI (128))]) dX7_enter_50 ln_States_82 mf_Grid_set rfl (l56 (by decide)) rfl rfl np_Grid_set rfl rfl ⟨(Nat.le_of_ble_eq_true rfl), (Nat.le_of_ble_eq_true rfl), (Nat.le_of_ble_eq_true rfl), (Nat.le_of_ble_eq_true rfl)⟩ (by decide) ?_
      refine sp_Grid_set (r := 21) (c := 22) rfl rfl rfl (l56 (by decide)) (l56 (by decide)) (sc_21_0 sc1) (sc_21_1 sc1) rfl (by omega) (by omega) ?_
      refine ⟨_, rfl, ?_⟩
      refine ex_iincN (L' := [some (.ref (16)), some (.long (lN K)), none, some (.int (nI (s))), some (.int (nI (k + 1)))]) dX7_enter_53 rfl rfl (by decide) rfl ?_
      refine ex_goto (tgt := 17) dX7_enter_56 (by decide) ?_
      exact ih (k + 1) _ (by omega) (hf.U (by decide)) hV2
theorem sp_States_enter {s K : Nat} {F : Nat → Nat} (sc : SC i) (hs : s < 50) (h6 : i 16 6 = nI s) (hK : K < 2 ^ 60) (hsK : s = 0 ↔ K = 0) (hV : Vw i 22 3750 F)
    (hQ : ∀ i1 F1, Fr [16, 22] i i1 → i1 16 6 = nI (s + 1) → Vw i1 22 3750 F1 → (∀ j, ¬ (s * 75 ≤ j ∧ j < s * 75 + 75) → F1 j = F j) → (∀ it, it < 75 → (F1 (s * 75 + it) = 0 ∨ F1 (s * 75 + it) = 128) ∧ (F1 (s * 75 + it) ≠ 0 ↔ kst K it)) → Q (.ok none) (56 + ζ, g, i1, xUL q 18 s (lN K), RT t)) :
    Wx m_States_enter 0 [some (.ref 16), some (.long (lN K)), none, none, none] [] (56 + ζ, g, i, q, RT t) (0, 0) Q := by
  have hF1 : ∀ it, it < 75 → (enF s K 75 F (s * 75 + it) = 0 ∨ enF s K 75 F (s * 75 + it) = 128) ∧ (enF s K 75 F (s * 75 + it) ≠ 0 ↔ K &&& kb it ≠ 0) := by
    intro it hi
    unfold enF
    rw [if_pos ⟨by omega, by omega⟩, show s * 75 + it - s * 75 = it by omega]
    by_cases hz : K &&& kb it = 0
    · rw [if_pos hz]; simp [hz]
    · rw [if_neg hz]; simp [hz]
  have hF2 : ∀ j, ¬ (s * 75 ≤ j ∧ j < s * 75 + 75) → enF s K 75 F j = F j := fun j hj => by unfold enF; rw [if_neg hj]
  have hk : ∀ i1, Fr [22] i i1 → Vw i1 22 3750 (enF s K 75 F) → Wx m_States_enter 59 [some (.ref 16), some (.long (lN K)), none, some (.int (nI s)), none] [] (56 + ζ, g, i1, xUL q 18 s (lN K), RT t) (0, 0) Q := by
    intro i1 hf hV1
    have sc1 := SC_Fr (by decide) hf sc
    have h61 : i1 16 6 = nI s := by rw [hf 16 (by decide)]; exact h6
    by_cases hs0 : s = 0
    · have hK0 := hsK.mp hs0
      refine ex_iload_n (i := 3) dX7_enter_59 rfl rfl ?_
      refine ex_if_neN (tgt := 76) dX7_enter_60 (by decide) (by omega) (fun h60 => by exact absurd hs0 h60) (fun h60 => ?_)
      refine ex_aload_n (i := 0) dX7_enter_63 rfl rfl ?_
      refine ex_getR (v := .ref (21)) dX7_enter_64 fl_States_32 rfl rfl (l56 (by decide)) rfl ?_
      refine ex_iload_n (i := 3) dX7_enter_67 rfl rfl ?_
      refine ex_bipush (v := nI 70) dX7_enter_68 (by decide) ?_
      refine ex_sipush (v := nI 128) dX7_enter_70 (by decide) ?_
      refine ex_cV (ν := m_Grid_set) (a := 21) (ci := 2) (as := [.int (nI (s)), .int (nI (70)), .int (nI (128))]) dX7_enter_73 ln_States_82 mf_Grid_set rfl (l56 (by decide)) rfl rfl np_Grid_set rfl rfl ⟨(Nat.le_of_ble_eq_true rfl), (Nat.le_of_ble_eq_true rfl), (Nat.le_of_ble_eq_true rfl), (Nat.le_of_ble_eq_true rfl)⟩ (by decide) ?_
      refine sp_Grid_set (r := 21) (c := 22) rfl rfl rfl (l56 (by decide)) (l56 (by decide)) (sc_21_0 sc1) (sc_21_1 sc1) rfl (by omega) (by decide) ?_
      refine ⟨_, rfl, ?_⟩
      refine ex_aload_n (i := 0) dX7_enter_76 rfl rfl ?_
      refine ex_dup dX7_enter_77 rfl ?_
      refine ex_getI dX7_enter_78 fl_States_42 rfl rfl (l56 (by decide)) ?_
      refine ex_asN (a := s) (by first | exact h61 | (rw [xU_ne _ _ _ (by decide)]; exact h61)) ?_
      refine ex_iconst (v := nI 1) dX7_enter_81 (by decide) ?_
      refine ex_iaddN dX7_enter_82 ?_
      refine ex_putI dX7_enter_83 fl_States_42 cf_7 rfl (Or.inl rfl) rfl rfl rfl (l56 (by decide)) ?_
      refine ex_ret dX7_enter_86 rfl ?_
      refine hQ _ (upN (enF s K 75 F) (s * 75 + 70) 128) ((hf.mono (by decide)).U (by decide) |>.U (by decide)) ?_ ((hV1.U).ne (by decide)) ?_ ?_
      · rw [xU_at]; simp [upd]
      · intro j hj
        rw [upN_ne _ _ (by omega)]; exact hF2 j hj
      · intro it hi
        by_cases e : it = 70
        · subst e
          rw [upN_at]
          exact ⟨Or.inr rfl, fun _ => Or.inl ⟨hK0, rfl⟩, fun _ => by decide⟩
        · rw [upN_ne _ _ (by omega)]
          refine ⟨(hF1 it hi).1, (hF1 it hi).2.trans ?_⟩
          unfold kst
          constructor
          · intro h; exact Or.inr h
          · rintro (⟨_, h⟩ | h)
            · exact absurd h e
            · exact h
    · have hK0 : K ≠ 0 := fun h => hs0 (hsK.mpr h)
      refine ex_iload_n (i := 3) dX7_enter_59 rfl rfl ?_
      refine ex_if_neN (tgt := 76) dX7_enter_60 (by decide) (by omega) (fun h60 => ?_) (fun h60 => by exact absurd h60 hs0)
      refine ex_aload_n (i := 0) dX7_enter_76 rfl rfl ?_
      refine ex_dup dX7_enter_77 rfl ?_
      refine ex_getI dX7_enter_78 fl_States_42 rfl rfl (l56 (by decide)) ?_
      refine ex_asN (a := s) h61 ?_
      refine ex_iconst (v := nI 1) dX7_enter_81 (by decide) ?_
      refine ex_iaddN dX7_enter_82 ?_
      refine ex_putI dX7_enter_83 fl_States_42 cf_7 rfl (Or.inl rfl) rfl rfl rfl (l56 (by decide)) ?_
      refine ex_ret dX7_enter_86 rfl ?_
      refine hQ _ (enF s K 75 F) ((hf.mono (by decide)).U (by decide)) ?_ (hV1.ne (by decide)) hF2 ?_
      · rw [xU_at]; simp [upd]
      · intro it hi
        refine ⟨(hF1 it hi).1, (hF1 it hi).2.trans ?_⟩
        unfold kst
        constructor
        · intro h; exact Or.inr h
        · rintro (⟨h, _⟩ | h)
          · exact absurd h hK0
          · exact h
  refine ex_aload_n (i := 0) dX7_enter_0 rfl rfl ?_
  refine ex_getI dX7_enter_1 fl_States_42 rfl rfl (l56 (by decide)) ?_
  refine ex_asN (a := s) h6 ?_
  refine ex_istore_n (L' := [some (.ref (16)), some (.long (lN K)), none, some (.int (nI (s))), none]) dX7_enter_4 (i := 3) rfl (by decide) rfl ?_
  refine ex_aload_n (i := 0) dX7_enter_5 rfl rfl ?_
  refine ex_getR (v := .ref (17)) dX7_enter_6 fl_States_20 rfl rfl (l56 (by decide)) rfl ?_
  refine ex_iload_n (i := 3) dX7_enter_9 rfl rfl ?_
  refine ex_lload_n (i := 1) dX7_enter_10 rfl rfl ?_
  refine ex_cV (ν := m_LongRow_set) (a := 17) (ci := 3) (as := [.int (nI (s)), .long (lN K)]) dX7_enter_11 ln_States_95 mf_LongRow_set rfl (l56 (by decide)) rfl rfl np_LongRow_set rfl rfl ⟨(Nat.le_of_ble_eq_true rfl), (Nat.le_of_ble_eq_true rfl), (Nat.le_of_ble_eq_true rfl), (Nat.le_of_ble_eq_true rfl)⟩ (by decide) ?_
  refine sp_LongRow_set (r := 17) (c := 18) rfl rfl rfl (l56 (by decide)) (l56 (by decide)) (by omega) ?_
  refine ⟨_, rfl, ?_⟩
  refine ex_iconst (v := nI 0) dX7_enter_14 (by decide) ?_
  refine ex_istore (L' := [some (.ref (16)), some (.long (lN K)), none, some (.int (nI (s))), some (.int (nI (0)))]) dX7_enter_15 (by decide) rfl ?_
  exact lp_States_enter sc hs hK hk 75 0 i (by omega) Fr.rf (by rw [enF_0]; exact hV)
theorem lp_States_gather {s : Nat} {F : Nat → Nat} (sc : SC i) (gs : GS i n sy) (hs : s < 50) (hV : Vw i 22 3750 F) (hF : ∀ j, j < 3750 → F j < 256)
    (hQ : ∀ q1, (∀ c, c ≠ 20 → q1 c = q c) → (∀ x, 1 ≤ x → x < 14 → q1 20 x = lN (nkU (fun it => F (s * 75 + it) ≠ 0) sy x 75)) → Q (.ok none) (56 + ζ, g, i, q1, RT t)) :
    ∀ d k q1, k + d = 75 → (∀ c, c ≠ 20 → q1 c = q c) → (∀ x, 1 ≤ x → x < 14 → q1 20 x = lN (nkU (fun it => F (s * 75 + it) ≠ 0) sy x k)) → Wx m_States_gatherNextKernels 9 [some (.ref 16), some (.int (nI s)), some (.int (nI k)), none] [] (56 + ζ, g, i, q1, RT t) (0, 0) Q := by
  intro d
  induction d with
  | zero =>
    intro k q1 hk hf hN
    have e : k = 75 := by omega
    subst e
    refine ex_iload_n (i := 2) dX7_gatherNextKernels_9 rfl rfl ?_
    refine ex_bipush (v := nI 75) dX7_gatherNextKernels_10 (by decide) ?_
    refine ex_icmp_geN (tgt := 66) dX7_gatherNextKernels_12 (by decide) (by decide) (by decide) (fun h12 => ?_) (fun h12 => by exact absurd h12 (by decide))
    refine ex_ret dX7_gatherNextKernels_66 rfl ?_
    exact hQ q1 hf hN
  | succ d ih =>
    intro k q1 hk hf hN
    have hk75 : k < 75 := by omega
    have hFb := hF (s * 75 + k) (by omega)
    by_cases hp : F (s * 75 + k) = 0
    · have hN2 : ∀ x, 1 ≤ x → x < 14 → q1 20 x = lN (nkU (fun it => F (s * 75 + it) ≠ 0) sy x (k + 1)) := fun x h1 h2 => by rw [nkU_no (P := fun it => F (s * 75 + it) ≠ 0) (fun h => h.1 hp)]; exact hN x h1 h2
      refine ex_iload_n (i := 2) dX7_gatherNextKernels_9 rfl rfl ?_
      refine ex_bipush (v := nI 75) dX7_gatherNextKernels_10 (by decide) ?_
      refine ex_icmp_geN (tgt := 66) dX7_gatherNextKernels_12 (by decide) (by omega) (by omega) (fun h12 => by omega) (fun h12 => ?_)
      refine ex_aload_n (i := 0) dX7_gatherNextKernels_15 rfl rfl ?_
      refine ex_getR (v := .ref (21)) dX7_gatherNextKernels_16 fl_States_32 rfl rfl (l56 (by decide)) rfl ?_
      refine ex_iload_n (i := 1) dX7_gatherNextKernels_19 rfl rfl ?_
      refine ex_iload_n (i := 2) dX7_gatherNextKernels_20 rfl rfl ?_
      refine ex_cV (ν := m_Grid_get) (a := 21) (ci := 2) (as := [.int (nI (s)), .int (nI (k))]) dX7_gatherNextKernels_21 ln_States_49 mf_Grid_get rfl (l56 (by decide)) rfl rfl np_Grid_get rfl rfl ⟨(Nat.le_of_ble_eq_true rfl), (Nat.le_of_ble_eq_true rfl), (Nat.le_of_ble_eq_true rfl), (Nat.le_of_ble_eq_true rfl)⟩ (by decide) ?_
      refine sp_Grid_get (r := 21) (c := 22) rfl rfl rfl (l56 (by decide)) (l56 (by decide)) (sc_21_0 sc) (sc_21_1 sc) rfl (by omega) (by omega) ?_
      refine ⟨_, rfl, ?_⟩
      refine ex_asN (a := F (s * 75 + k)) (hV _ (by omega)) ?_
      refine ex_if_eqN (tgt := 60) dX7_gatherNextKernels_24 (by decide) (by omega) (fun h24 => ?_) (fun h24 => by exact absurd hp h24)
      refine ex_iincN (L' := [some (.ref (16)), some (.int (nI (s))), some (.int (nI (k + 1))), none]) dX7_gatherNextKernels_60 rfl rfl (by decide) rfl ?_
      refine ex_goto (tgt := 9) dX7_gatherNextKernels_63 (by decide) ?_
      exact ih (k + 1) q1 (by omega) hf hN2
    · have hbl := bh_le gs.2.2 hk75
      by_cases hx : bh sy k = 0
      · have hN2 : ∀ x, 1 ≤ x → x < 14 → q1 20 x = lN (nkU (fun it => F (s * 75 + it) ≠ 0) sy x (k + 1)) := fun x h1 h2 => by rw [nkU_no (P := fun it => F (s * 75 + it) ≠ 0) (fun h => by have := h.2; omega)]; exact hN x h1 h2
        refine ex_iload_n (i := 2) dX7_gatherNextKernels_9 rfl rfl ?_
        refine ex_bipush (v := nI 75) dX7_gatherNextKernels_10 (by decide) ?_
        refine ex_icmp_geN (tgt := 66) dX7_gatherNextKernels_12 (by decide) (by omega) (by omega) (fun h12 => by omega) (fun h12 => ?_)
        refine ex_aload_n (i := 0) dX7_gatherNextKernels_15 rfl rfl ?_
        refine ex_getR (v := .ref (21)) dX7_gatherNextKernels_16 fl_States_32 rfl rfl (l56 (by decide)) rfl ?_
        refine ex_iload_n (i := 1) dX7_gatherNextKernels_19 rfl rfl ?_
        refine ex_iload_n (i := 2) dX7_gatherNextKernels_20 rfl rfl ?_
        refine ex_cV (ν := m_Grid_get) (a := 21) (ci := 2) (as := [.int (nI (s)), .int (nI (k))]) dX7_gatherNextKernels_21 ln_States_49 mf_Grid_get rfl (l56 (by decide)) rfl rfl np_Grid_get rfl rfl ⟨(Nat.le_of_ble_eq_true rfl), (Nat.le_of_ble_eq_true rfl), (Nat.le_of_ble_eq_true rfl), (Nat.le_of_ble_eq_true rfl)⟩ (by decide) ?_
        refine sp_Grid_get (r := 21) (c := 22) rfl rfl rfl (l56 (by decide)) (l56 (by decide)) (sc_21_0 sc) (sc_21_1 sc) rfl (by omega) (by omega) ?_
        refine ⟨_, rfl, ?_⟩
        refine ex_asN (a := F (s * 75 + k)) (hV _ (by omega)) ?_
        refine ex_if_eqN (tgt := 60) dX7_gatherNextKernels_24 (by decide) (by omega) (fun h24 => by exact absurd h24 hp) (fun h24 => ?_)
        refine ex_aload_n (i := 0) dX7_gatherNextKernels_27 rfl rfl ?_
        refine ex_iload_n (i := 2) dX7_gatherNextKernels_28 rfl rfl ?_
        refine ex_cV (ν := m_States_symbolBehindDot) (a := 16) (ci := 7) (as := [.int (nI (k))]) dX7_gatherNextKernels_29 ln_States_89 mf_States_symbolBehindDot rfl (l56 (by decide)) rfl rfl np_States_symbolBehindDot rfl rfl ⟨(Nat.le_of_ble_eq_true rfl), (Nat.le_of_ble_eq_true rfl), (Nat.le_of_ble_eq_true rfl), (Nat.le_of_ble_eq_true rfl)⟩ (by decide) ?_
        refine sp_States_symbolBehindDot sc gs hk75 ?_
        refine ⟨_, rfl, ?_⟩
        refine ex_istore_n (L' := [some (.ref (16)), some (.int (nI (s))), some (.int (nI (k))), some (.int (nI (bh sy k)))]) dX7_gatherNextKernels_32 (i := 3) rfl (by decide) rfl ?_
        refine ex_iload_n (i := 3) dX7_gatherNextKernels_33 rfl rfl ?_
        refine ex_if_eqN (tgt := 60) dX7_gatherNextKernels_34 (by decide) (by omega) (fun h34 => ?_) (fun h34 => by exact absurd hx h34)
        refine ex_iincN (L' := [some (.ref (16)), some (.int (nI (s))), some (.int (nI (k + 1))), some (.int (nI (bh sy k)))]) dX7_gatherNextKernels_60 rfl rfl (by decide) rfl ?_
        refine ex_goto (tgt := 9) dX7_gatherNextKernels_63 (by decide) ?_
        exact ex_less (L' := [some (.ref 16), some (.int (nI s)), some (.int (nI (k + 1))), none]) (by simp [xSub]) (ih (k + 1) q1 (by omega) hf hN2)
      · have hv := hN (bh sy k) (by omega) (by omega)
        have hN2 : ∀ x, 1 ≤ x → x < 14 → xUL q1 20 (bh sy k) (lN (nkU (fun it => F (s * 75 + it) ≠ 0) sy (bh sy k) k) ||| lN (kb (k + 1))) 20 x = lN (nkU (fun it => F (s * 75 + it) ≠ 0) sy x (k + 1)) := fun x h1 h2 => by
          rw [xUL_at]
          unfold vp_updL
          by_cases e : x = bh sy k
          · subst e
            rw [if_pos rfl, nkU_yes (P := fun it => F (s * 75 + it) ≠ 0) hp rfl, lN_or]
          · rw [if_neg e, nkU_no (P := fun it => F (s * 75 + it) ≠ 0) (fun h => e h.2.symm)]; exact hN x h1 h2
        refine ex_iload_n (i := 2) dX7_gatherNextKernels_9 rfl rfl ?_
        refine ex_bipush (v := nI 75) dX7_gatherNextKernels_10 (by decide) ?_
        refine ex_icmp_geN (tgt := 66) dX7_gatherNextKernels_12 (by decide) (by omega) (by omega) (fun h12 => by omega) (fun h12 => ?_)
        refine ex_aload_n (i := 0) dX7_gatherNextKernels_15 rfl rfl ?_
        refine ex_getR (v := .ref (21)) dX7_gatherNextKernels_16 fl_States_32 rfl rfl (l56 (by decide)) rfl ?_
        refine ex_iload_n (i := 1) dX7_gatherNextKernels_19 rfl rfl ?_
        refine ex_iload_n (i := 2) dX7_gatherNextKernels_20 rfl rfl ?_
        refine ex_cV (ν := m_Grid_get) (a := 21) (ci := 2) (as := [.int (nI (s)), .int (nI (k))]) dX7_gatherNextKernels_21 ln_States_49 mf_Grid_get rfl (l56 (by decide)) rfl rfl np_Grid_get rfl rfl ⟨(Nat.le_of_ble_eq_true rfl), (Nat.le_of_ble_eq_true rfl), (Nat.le_of_ble_eq_true rfl), (Nat.le_of_ble_eq_true rfl)⟩ (by decide) ?_
        refine sp_Grid_get (r := 21) (c := 22) rfl rfl rfl (l56 (by decide)) (l56 (by decide)) (sc_21_0 sc) (sc_21_1 sc) rfl (by omega) (by omega) ?_
        refine ⟨_, rfl, ?_⟩
        refine ex_asN (a := F (s * 75 + k)) (hV _ (by omega)) ?_
        refine ex_if_eqN (tgt := 60) dX7_gatherNextKernels_24 (by decide) (by omega) (fun h24 => by exact absurd h24 hp) (fun h24 => ?_)
        refine ex_aload_n (i := 0) dX7_gatherNextKernels_27 rfl rfl ?_
        refine ex_iload_n (i := 2) dX7_gatherNextKernels_28 rfl rfl ?_
        refine ex_cV (ν := m_States_symbolBehindDot) (a := 16) (ci := 7) (as := [.int (nI (k))]) dX7_gatherNextKernels_29 ln_States_89 mf_States_symbolBehindDot rfl (l56 (by decide)) rfl rfl np_States_symbolBehindDot rfl rfl ⟨(Nat.le_of_ble_eq_true rfl), (Nat.le_of_ble_eq_true rfl), (Nat.le_of_ble_eq_true rfl), (Nat.le_of_ble_eq_true rfl)⟩ (by decide) ?_
        refine sp_States_symbolBehindDot sc gs hk75 ?_
        refine ⟨_, rfl, ?_⟩
        refine ex_istore_n (L' := [some (.ref (16)), some (.int (nI (s))), some (.int (nI (k))), some (.int (nI (bh sy k)))]) dX7_gatherNextKernels_32 (i := 3) rfl (by decide) rfl ?_
        refine ex_iload_n (i := 3) dX7_gatherNextKernels_33 rfl rfl ?_
        refine ex_if_eqN (tgt := 60) dX7_gatherNextKernels_34 (by decide) (by omega) (fun h34 => by exact absurd h34 hx) (fun h34 => ?_)
        refine ex_aload_n (i := 0) dX7_gatherNextKernels_37 rfl rfl ?_
        refine ex_getR (v := .ref (19)) dX7_gatherNextKernels_38 fl_States_24 rfl rfl (l56 (by decide)) rfl ?_
        refine ex_iload_n (i := 3) dX7_gatherNextKernels_41 rfl rfl ?_
        refine ex_aload_n (i := 0) dX7_gatherNextKernels_42 rfl rfl ?_
        refine ex_getR (v := .ref (19)) dX7_gatherNextKernels_43 fl_States_24 rfl rfl (l56 (by decide)) rfl ?_
        refine ex_iload_n (i := 3) dX7_gatherNextKernels_46 rfl rfl ?_
        refine ex_cV (ν := m_LongRow_get) (a := 19) (ci := 3) (as := [.int (nI (bh sy k))]) dX7_gatherNextKernels_47 ln_States_75 mf_LongRow_get rfl (l56 (by decide)) rfl rfl np_LongRow_get rfl rfl ⟨(Nat.le_of_ble_eq_true rfl), (Nat.le_of_ble_eq_true rfl), (Nat.le_of_ble_eq_true rfl), (Nat.le_of_ble_eq_true rfl)⟩ (by decide) ?_
        refine sp_LongRow_get (r := 19) (c := 20) rfl rfl rfl (l56 (by decide)) (l56 (by decide)) (by omega) ?_
        refine ⟨_, rfl, ?_⟩
        refine ex_asJ hv ?_
        refine ex_iload_n (i := 2) dX7_gatherNextKernels_50 rfl rfl ?_
        refine ex_iconst (v := nI 1) dX7_gatherNextKernels_51 (by decide) ?_
        refine ex_iaddN dX7_gatherNextKernels_52 ?_
        refine ex_cS (ν := m_States_kernelBit) (as := [.int (nI (k + 1))]) dX7_gatherNextKernels_53 ln_States_92 mf_States_kernelBit np_States_kernelBit rfl rfl ⟨(Nat.le_of_ble_eq_true rfl), (Nat.le_of_ble_eq_true rfl), (Nat.le_of_ble_eq_true rfl), (Nat.le_of_ble_eq_true rfl)⟩ (by decide) ?_
        refine sp_States_kernelBit (by omega) ?_
        refine ⟨_, rfl, ?_⟩
        refine ex_lor dX7_gatherNextKernels_56 ?_
        refine ex_cV (ν := m_LongRow_set) (a := 19) (ci := 3) (as := [.int (nI (bh sy k)), .long ((lN (nkU (fun it => F (s * 75 + it) ≠ 0) sy (bh sy k) k)) ||| (lN (kb (k + 1))))]) dX7_gatherNextKernels_57 ln_States_95 mf_LongRow_set rfl (l56 (by decide)) rfl rfl np_LongRow_set rfl rfl ⟨(Nat.le_of_ble_eq_true rfl), (Nat.le_of_ble_eq_true rfl), (Nat.le_of_ble_eq_true rfl), (Nat.le_of_ble_eq_true rfl)⟩ (by decide) ?_
        refine sp_LongRow_set (r := 19) (c := 20) rfl rfl rfl (l56 (by decide)) (l56 (by decide)) (by omega) ?_
        refine ⟨_, rfl, ?_⟩
        refine ex_iincN (L' := [some (.ref (16)), some (.int (nI (s))), some (.int (nI (k + 1))), some (.int (nI (bh sy k)))]) dX7_gatherNextKernels_60 rfl rfl (by decide) rfl ?_
        refine ex_goto (tgt := 9) dX7_gatherNextKernels_63 (by decide) ?_
        exact ex_less (L' := [some (.ref 16), some (.int (nI s)), some (.int (nI (k + 1))), none]) (by simp [xSub]) (ih (k + 1) _ (by omega) (fun c hc => (xUL_ne _ _ _ hc).trans (hf c hc)) hN2)
theorem sp_States_gather {s : Nat} {F : Nat → Nat} (sc : SC i) (gs : GS i n sy) (hs : s < 50) (hV : Vw i 22 3750 F) (hF : ∀ j, j < 3750 → F j < 256)
    (hQ : ∀ q1, (∀ c, c ≠ 20 → q1 c = q c) → (∀ x, 1 ≤ x → x < 14 → q1 20 x = lN (nkU (fun it => F (s * 75 + it) ≠ 0) sy x 75)) → Q (.ok none) (56 + ζ, g, i, q1, RT t)) :
    Wx m_States_gatherNextKernels 0 [some (.ref 16), some (.int (nI s)), none, none] [] (56 + ζ, g, i, q, RT t) (0, 0) Q := by
  refine ex_aload_n (i := 0) dX7_gatherNextKernels_0 rfl rfl ?_
  refine ex_getR (v := .ref (19)) dX7_gatherNextKernels_1 fl_States_24 rfl rfl (l56 (by decide)) rfl ?_
  refine ex_cV (ν := m_LongRow_wipe) (a := 19) (ci := 3) (as := []) dX7_gatherNextKernels_4 ln_States_86 mf_LongRow_wipe rfl (l56 (by decide)) rfl rfl np_LongRow_wipe rfl rfl ⟨(Nat.le_of_ble_eq_true rfl), (Nat.le_of_ble_eq_true rfl), (Nat.le_of_ble_eq_true rfl), (Nat.le_of_ble_eq_true rfl)⟩ (by decide) ?_
  refine sp_LongRow_wipe (r := 19) (c := 20) (N := 14) rfl rfl rfl (l56 (by decide)) (l56 (by decide)) ?_
  refine ⟨_, rfl, ?_⟩
  refine ex_iconst (v := nI 0) dX7_gatherNextKernels_7 (by decide) ?_
  refine ex_istore_n (L' := [some (.ref (16)), some (.int (nI (s))), some (.int (nI (0))), none]) dX7_gatherNextKernels_8 (i := 2) rfl (by decide) rfl ?_
  refine lp_States_gather (q := q) sc gs hs hV hF hQ 75 0 _ (by omega) (fun c hc => xSetL_ne _ _ hc) (fun x h1 h2 => ?_)
  rw [xSetL_at]
  unfold zbL
  rw [if_pos h2]; rfl
end S21
