/-! ===== States.stateWith, States.findAll ===== -/
theorem idx_of {ks : List Nat} {K st : Nat} (hs : st < ks.length) (h : ks.getD st 0 = K) (hlt : ∀ j, j < st → ks.getD j 0 ≠ K) : ks.idxOf K = st := by
  induction ks generalizing st with
  | nil => simp at hs
  | cons a l ih =>
    cases st with
    | zero =>
      have : a = K := by simpa using h
      subst this
      simp [List.idxOf_cons]
    | succ st =>
      have h0 := hlt 0 (by omega)
      have ha : a ≠ K := by simpa using h0
      rw [List.idxOf_cons]
      have hb : (a == K) = false := by simpa using ha
      rw [hb]
      have := ih (st := st) (by simpa using hs) (by simpa using h) (fun j hj => by simpa using hlt (j + 1) (by omega))
      rw [this]; rfl
theorem getD_mem {ks : List Nat} {st : Nat} (hs : st < ks.length) : ks.getD st 0 ∈ ks := by
  rw [List.getD_eq_getElem?_getD, List.getElem?_eq_getElem hs]; exact List.getElem_mem hs
theorem mem_getD {ks : List Nat} {K : Nat} (h : K ∈ ks) : ∃ st, st < ks.length ∧ ks.getD st 0 = K := by
  obtain ⟨st, h1, h2⟩ := List.getElem_of_mem h
  exact ⟨st, h1, by rw [List.getD_eq_getElem?_getD, List.getElem?_eq_getElem h1]; exact h2⟩
/-- the states found so far: kernels ks, the first a of them closed -/
def FI (n : Nat) (sy : Nat → Nat → Nat) (ks : List Nat) (i1 : Nat → Nat → Int32) (q1 : Nat → Nat → Int64) (F : Nat → Nat) (a : Nat) : Prop :=
  (i1 16 6 = nI ks.length ∧ 1 ≤ ks.length ∧ ks.length ≤ 50 ∧ ks.getD 0 0 = 0) ∧ (∀ j, j < ks.length → q1 18 j = lN (ks.getD j 0)) ∧ (∀ j, 0 < j → j < ks.length → ks.getD j 0 ≠ 0) ∧ (∀ j, ks.getD j 0 < 2 ^ 60) ∧ Vw i1 22 3750 F ∧ (∀ j, j < 3750 → F j < 256) ∧
  ∀ j it, j < ks.length → it < 75 → (F (j * 75 + it) = 0 ∨ F (j * 75 + it) = 128) ∧ ((j < a → (F (j * 75 + it) ≠ 0 ↔ clP n sy (kst (ks.getD j 0)) it)) ∧ (a ≤ j → (F (j * 75 + it) ≠ 0 ↔ kst (ks.getD j 0) it)))
/-- the targets found so far -/
def TI (n : Nat) (sy : Nat → Nat → Nat) (ks : List Nat) (i1 : Nat → Nat → Int32) (s x : Nat) : Prop :=
  (∀ s', s' < 50 → i1 24 (s' * 14) = 0) ∧ ∀ s' x', s' < ks.length → 1 ≤ x' → x' < 14 → (s' < s ∨ s' = s ∧ x' < x) → (nx n sy (ks.getD s' 0) x' = 0 ∨ nx n sy (ks.getD s' 0) x' ∈ ks) ∧ i1 24 (s' * 14 + x') = nI (tg n sy ks s' x')
def qfr (q q1 : Nat → Nat → Int64) : Prop := ∀ c, c ≠ 18 → c ≠ 20 → q1 c = q c
section S22
variable {ζ g : Nat} {i : Nat → Nat → Int32} {q : Nat → Nat → Int64} {t : Bool} {Q : xRes → xMem → Prop} {n : Nat} {sy : Nat → Nat → Nat}
theorem lp_States_stateWith {ks : List Nat} {K : Nat} (h6 : i 16 6 = nI ks.length) (hl : ks.length ≤ 50) (hq : ∀ j, j < ks.length → q 18 j = lN (ks.getD j 0)) (hb : ∀ j, ks.getD j 0 < 2 ^ 60) (hK : K < 2 ^ 60)
    (hQ : ∀ st, st < ks.length → ks.getD st 0 = K → (∀ j, 1 ≤ j → j < st → ks.getD j 0 ≠ K) → 1 ≤ st → Q (.ok (some (.int (nI st)))) (56 + ζ, g, i, q, RT t))
    (hN : (∀ j, 1 ≤ j → j < ks.length → ks.getD j 0 ≠ K) → Wx m_States_stateWith 31 [some (.ref 16), some (.long (lN K)), none, none] [] (56 + ζ, g, i, q, RT t) (0, 0) Q) :
    ∀ d st, st + d = ks.length + 1 → 1 ≤ st → (∀ j, 1 ≤ j → j < st → ks.getD j 0 ≠ K) → Wx m_States_stateWith 2 [some (.ref 16), some (.long (lN K)), none, some (.int (nI st))] [] (56 + ζ, g, i, q, RT t) (0, 0) Q := by
  intro d
  induction d with
  | zero =>
    intro st hst h1 hj
    refine ex_iload_n (i := 3) dX7_stateWith_2 rfl rfl ?_
    refine ex_aload_n (i := 0) dX7_stateWith_3 rfl rfl ?_
    refine ex_getI dX7_stateWith_4 fl_States_42 rfl rfl (l56 (by decide)) ?_
    refine ex_asN (a := ks.length) h6 ?_
    refine ex_icmp_geN (tgt := 31) dX7_stateWith_7 (by decide) (by omega) (by omega) (fun h7 => ?_) (fun h7 => by omega)
    exact ex_less (L' := [some (.ref 16), some (.long (lN K)), none, none]) (by simp [xSub]) (hN (fun j a b => hj j a (by omega)))
  | succ d ih =>
    intro st hst h1 hj
    by_cases hlt : st < ks.length
    · have hv := hq st hlt
      by_cases he : ks.getD st 0 = K
      · have hlg : lg_cmp (lN (ks.getD st 0)) (lN K) = 0 := (lg_e (hb st) hK).mpr he
        refine ex_iload_n (i := 3) dX7_stateWith_2 rfl rfl ?_
        refine ex_aload_n (i := 0) dX7_stateWith_3 rfl rfl ?_
        refine ex_getI dX7_stateWith_4 fl_States_42 rfl rfl (l56 (by decide)) ?_
        refine ex_asN (a := ks.length) h6 ?_
        refine ex_icmp_geN (tgt := 31) dX7_stateWith_7 (by decide) (by omega) (by omega) (fun h7 => by omega) (fun h7 => ?_)
        refine ex_aload_n (i := 0) dX7_stateWith_10 rfl rfl ?_
        refine ex_getR (v := .ref (17)) dX7_stateWith_11 fl_States_20 rfl rfl (l56 (by decide)) rfl ?_
        refine ex_iload_n (i := 3) dX7_stateWith_14 rfl rfl ?_
        refine ex_cV (ν := m_LongRow_get) (a := 17) (ci := 3) (as := [.int (nI (st))]) dX7_stateWith_15 ln_States_75 mf_LongRow_get rfl (l56 (by decide)) rfl rfl np_LongRow_get rfl rfl ⟨(Nat.le_of_ble_eq_true rfl), (Nat.le_of_ble_eq_true rfl), (Nat.le_of_ble_eq_true rfl), (Nat.le_of_ble_eq_true rfl)⟩ (by decide) ?_
        refine sp_LongRow_get (r := 17) (c := 18) rfl rfl rfl (l56 (by decide)) (l56 (by decide)) (by omega) ?_
        refine ⟨_, rfl, ?_⟩
        refine ex_asJ hv ?_
        refine ex_lload_n (i := 1) dX7_stateWith_18 rfl rfl ?_
        refine ex_lcmp dX7_stateWith_19 ?_
        refine ex_if_ne (tgt := 25) dX7_stateWith_20 (by decide) (fun h20 => by exact absurd hlg h20) (fun h20 => ?_)
        refine ex_iload_n (i := 3) dX7_stateWith_23 rfl rfl ?_
        refine ex_iret dX7_stateWith_24 rfl rfl ?_
        exact hQ st hlt he hj h1
      · have hlg : ¬ lg_cmp (lN (ks.getD st 0)) (lN K) = 0 := fun h => he ((lg_e (hb st) hK).mp h)
        refine ex_iload_n (i := 3) dX7_stateWith_2 rfl rfl ?_
        refine ex_aload_n (i := 0) dX7_stateWith_3 rfl rfl ?_
        refine ex_getI dX7_stateWith_4 fl_States_42 rfl rfl (l56 (by decide)) ?_
        refine ex_asN (a := ks.length) h6 ?_
        refine ex_icmp_geN (tgt := 31) dX7_stateWith_7 (by decide) (by omega) (by omega) (fun h7 => by omega) (fun h7 => ?_)
        refine ex_aload_n (i := 0) dX7_stateWith_10 rfl rfl ?_
        refine ex_getR (v := .ref (17)) dX7_stateWith_11 fl_States_20 rfl rfl (l56 (by decide)) rfl ?_
        refine ex_iload_n (i := 3) dX7_stateWith_14 rfl rfl ?_
        refine ex_cV (ν := m_LongRow_get) (a := 17) (ci := 3) (as := [.int (nI (st))]) dX7_stateWith_15 ln_States_75 mf_LongRow_get rfl (l56 (by decide)) rfl rfl np_LongRow_get rfl rfl ⟨(Nat.le_of_ble_eq_true rfl), (Nat.le_of_ble_eq_true rfl), (Nat.le_of_ble_eq_true rfl), (Nat.le_of_ble_eq_true rfl)⟩ (by decide) ?_
        refine sp_LongRow_get (r := 17) (c := 18) rfl rfl rfl (l56 (by decide)) (l56 (by decide)) (by omega) ?_
        refine ⟨_, rfl, ?_⟩
        refine ex_asJ hv ?_
        refine ex_lload_n (i := 1) dX7_stateWith_18 rfl rfl ?_
        refine ex_lcmp dX7_stateWith_19 ?_
        refine ex_if_ne (tgt := 25) dX7_stateWith_20 (by decide) (fun h20 => ?_) (fun h20 => by exact absurd h20 hlg)
        refine ex_iincN (L' := [some (.ref (16)), some (.long (lN K)), none, some (.int (nI (st + 1)))]) dX7_stateWith_25 rfl rfl (by decide) rfl ?_
        refine ex_goto (tgt := 2) dX7_stateWith_28 (by decide) ?_
        refine ih (st + 1) (by omega) (by omega) (fun j a b => ?_)
        by_cases e : j = st
        · subst e; exact he
        · exact hj j a (by omega)
    ·
      refine ex_iload_n (i := 3) dX7_stateWith_2 rfl rfl ?_
      refine ex_aload_n (i := 0) dX7_stateWith_3 rfl rfl ?_
      refine ex_getI dX7_stateWith_4 fl_States_42 rfl rfl (l56 (by decide)) ?_
      refine ex_asN (a := ks.length) h6 ?_
      refine ex_icmp_geN (tgt := 31) dX7_stateWith_7 (by decide) (by omega) (by omega) (fun h7 => ?_) (fun h7 => by omega)
      exact ex_less (L' := [some (.ref 16), some (.long (lN K)), none, none]) (by simp [xSub]) (hN (fun j a b => hj j a (by omega)))
theorem sp_States_stateWith {ks : List Nat} {K : Nat} {F : Nat → Nat} (sc : SC i) (h6 : i 16 6 = nI ks.length) (hl : ks.length ≤ 50) (hl1 : 1 ≤ ks.length) (h0 : ks.getD 0 0 = 0) (hq : ∀ j, j < ks.length → q 18 j = lN (ks.getD j 0)) (hb : ∀ j, ks.getD j 0 < 2 ^ 60) (hK : K < 2 ^ 60) (hK0 : K ≠ 0) (hV : Vw i 22 3750 F)
    (hA : K ∈ ks → ks.idxOf K < 50 → Q (.ok (some (.int (nI (ks.idxOf K))))) (56 + ζ, g, i, q, RT t))
    (hB : K ∉ ks → ks.length < 50 → ∀ i1 F1, Fr [16, 22] i i1 → i1 16 6 = nI (ks.length + 1) → Vw i1 22 3750 F1 → (∀ j, ¬ (ks.length * 75 ≤ j ∧ j < ks.length * 75 + 75) → F1 j = F j) → (∀ it, it < 75 → (F1 (ks.length * 75 + it) = 0 ∨ F1 (ks.length * 75 + it) = 128) ∧ (F1 (ks.length * 75 + it) ≠ 0 ↔ kst K it)) → Q (.ok (some (.int (nI ks.length)))) (56 + ζ, g, i1, xUL q 18 ks.length (lN K), RT t))
    (hC : K ∉ ks → ks.length = 50 → Q (.ok (some (.int (nI 50)))) (56 + ζ, g, i, q, RT t)) :
    Wx m_States_stateWith 0 [some (.ref 16), some (.long (lN K)), none, none] [] (56 + ζ, g, i, q, RT t) (0, 0) Q := by
  have hN : (∀ j, 1 ≤ j → j < ks.length → ks.getD j 0 ≠ K) → Wx m_States_stateWith 31 [some (.ref 16), some (.long (lN K)), none, none] [] (56 + ζ, g, i, q, RT t) (0, 0) Q := by
    intro hj
    have hnot : K ∉ ks := fun hm => by
      obtain ⟨st, h1, h2⟩ := mem_getD hm
      by_cases e : st = 0
      · subst e; rw [h0] at h2; exact hK0 h2.symm
      · exact hj st (by omega) h1 h2
    by_cases h50 : ks.length < 50
    · have hB2 := hB hnot h50
      refine ex_aload_n (i := 0) dX7_stateWith_31 rfl rfl ?_
      refine ex_getI dX7_stateWith_32 fl_States_42 rfl rfl (l56 (by decide)) ?_
      refine ex_asN (a := ks.length) h6 ?_
      refine ex_istore_n (L' := [some (.ref (16)), some (.long (lN K)), none, some (.int (nI (ks.length)))]) dX7_stateWith_35 (i := 3) rfl (by decide) rfl ?_
      refine ex_iload_n (i := 3) dX7_stateWith_36 rfl rfl ?_
      refine ex_bipush (v := nI 50) dX7_stateWith_37 (by decide) ?_
      refine ex_icmp_geN (tgt := 47) dX7_stateWith_39 (by decide) (by omega) (by omega) (fun h39 => by omega) (fun h39 => ?_)
      refine ex_aload_n (i := 0) dX7_stateWith_42 rfl rfl ?_
      refine ex_lload_n (i := 1) dX7_stateWith_43 rfl rfl ?_
      refine ex_cV (ν := m_States_enter) (a := 16) (ci := 7) (as := [.long (lN K)]) dX7_stateWith_44 ln_States_65 mf_States_enter rfl (l56 (by decide)) rfl rfl np_States_enter rfl rfl ⟨(Nat.le_of_ble_eq_true rfl), (Nat.le_of_ble_eq_true rfl), (Nat.le_of_ble_eq_true rfl), (Nat.le_of_ble_eq_true rfl)⟩ (by decide) ?_
      refine sp_States_enter sc h50 h6 hK ⟨fun h => by omega, fun h => absurd h hK0⟩ hV (fun i1 F1 a1 a2 a3 a4 a5 => ?_)
      refine ⟨_, rfl, ?_⟩
      have hB3 := hB2 i1 F1 a1 a2 a3 a4 a5
      refine ex_iload_n (i := 3) dX7_stateWith_47 rfl rfl ?_
      refine ex_iret dX7_stateWith_48 rfl rfl ?_
      exact hB3
    · have e : ks.length = 50 := by omega
      have hC2 := hC hnot e
      rw [← e] at hC2
      refine ex_aload_n (i := 0) dX7_stateWith_31 rfl rfl ?_
      refine ex_getI dX7_stateWith_32 fl_States_42 rfl rfl (l56 (by decide)) ?_
      refine ex_asN (a := ks.length) h6 ?_
      refine ex_istore_n (L' := [some (.ref (16)), some (.long (lN K)), none, some (.int (nI (ks.length)))]) dX7_stateWith_35 (i := 3) rfl (by decide) rfl ?_
      refine ex_iload_n (i := 3) dX7_stateWith_36 rfl rfl ?_
      refine ex_bipush (v := nI 50) dX7_stateWith_37 (by decide) ?_
      refine ex_icmp_geN (tgt := 47) dX7_stateWith_39 (by decide) (by omega) (by omega) (fun h39 => ?_) (fun h39 => by omega)
      refine ex_iload_n (i := 3) dX7_stateWith_47 rfl rfl ?_
      refine ex_iret dX7_stateWith_48 rfl rfl ?_
      exact hC2
  have hQ : ∀ st, st < ks.length → ks.getD st 0 = K → (∀ j, 1 ≤ j → j < st → ks.getD j 0 ≠ K) → 1 ≤ st → Q (.ok (some (.int (nI st)))) (56 + ζ, g, i, q, RT t) := by
    intro st h1 h2 h3 h4
    have e := idx_of h1 h2 (fun j hj => by
      by_cases e : j = 0
      · subst e; rw [h0]; exact fun h => hK0 h.symm
      · exact h3 j (by omega) hj)
    have hm : K ∈ ks := h2 ▸ getD_mem h1
    have := hA hm (by omega)
    rw [e] at this
    exact this
  refine ex_iconst (v := nI 1) dX7_stateWith_0 (by decide) ?_
  refine ex_istore_n (L' := [some (.ref (16)), some (.long (lN K)), none, some (.int (nI (1)))]) dX7_stateWith_1 (i := 3) rfl (by decide) rfl ?_
  exact lp_States_stateWith h6 hl hq hb hK hQ hN ks.length 1 (by omega) (by omega) (fun j a b => by omega)
end S22
