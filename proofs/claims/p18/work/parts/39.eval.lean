/-! ===== Evaluator: slots, their rules and places; what is missing; what comes out ===== -/
/-- a tree as numbers: tb tokens, rl rules, pa parent and number as a child, ch children -/
def TW (n : Nat) (sy : Nat → Nat → Nat) (md : Nat) (nd : Nat → Int32) (tb : Nat → Bool) (rl : Nat → Nat) (pa : Nat → Option (Nat × Nat)) (ch : Nat → Nat → Nat) : Prop :=
  md ≤ 150 ∧ ∀ j, j < md → (tb j = true → nd (j * 8 + 1) = -1) ∧ (tb j = false → nd (j * 8 + 1) = nI (rl j) ∧ rl j < n ∧ ∀ k, 1 ≤ k → k ≤ lnR sy (rl j) → nd (j * 8 + (4 + k - 1)) = nI (ch j k) ∧ ch j k < md) ∧
    (pa j = none → nd (j * 8 + 2) = -1 ∧ nd (j * 8 + 3) = nI 0) ∧ (∀ p k, pa j = some (p, k) → nd (j * 8 + 2) = nI p ∧ nd (j * 8 + 3) = nI k ∧ p < md ∧ tb p = false ∧ 1 ≤ k ∧ k ≤ lnR sy (rl p))
/-- node and place whose equation tells a slot -/
def sCx (pa : Nat → Option (Nat × Nat)) (s : Nat) : Option (Nat × Nat) := if s % 3 = 2 then (match pa (s / 3) with | none => none | some (p, k) => some (p, k * 3 + 2)) else some (s / 3, s % 3)
/-- the slot of a place seen from a node -/
def sSl (ch : Nat → Nat → Nat) (c p : Nat) : Nat := (if p / 3 = 0 then c else ch c (p / 3)) * 3 + p % 3
def opS (op : Nat → Nat) (rl : Nat → Nat) : Option (Nat × Nat) → Nat
  | none => 0
  | some (c, p) => op (rl c * 15 + p)
def arS (xp : Nat → Nat) (rl : Nat → Nat) (ch : Nat → Nat → Nat) : Option (Nat × Nat) → Nat
  | none => 0
  | some (c, p) => sSl ch c (xp (rl c * 15 + p))
def nmS (xp : Nat → Nat) (rl : Nat → Nat) : Option (Nat × Nat) → Nat
  | none => 0
  | some (c, p) => xp (rl c * 15 + p)
def opr (o : Nat) (x y : Int64) : Int64 := if o = 2 then x else if o = 3 then x + y else if o = 4 then x - y else if o = 5 then x * y else if o = 6 then (if x < y then 1 else 0) else if o = 7 then (if y < x then x else y) else (if y = 0 then 0 else x)
/-- what a slot's equation gives -/
def wkS (op xp yp rl : Nat → Nat) (ch : Nat → Nat → Nat) (v : Nat → Int64) (o : Option (Nat × Nat)) : Int64 := if opS op rl o = 0 then 0 else if opS op rl o = 1 then (nI (nmS xp rl o)).toInt64 else opr (opS op rl o) (v (arS xp rl ch o)) (v (arS yp rl ch o))
/-- equations name symbols that are there -/
def EV (n : Nat) (sy : Nat → Nat → Nat) (op xp yp : Nat → Nat) : Prop := ∀ r p, r < n → p < 15 → (2 ≤ op (r * 15 + p) → xp (r * 15 + p) / 3 ≤ lnR sy r) ∧ (3 ≤ op (r * 15 + p) → yp (r * 15 + p) / 3 ≤ lnR sy r) ∧ (op (r * 15 + p) = 2 → yp (r * 15 + p) = 0)
section S39
variable {ζ g : Nat} {i : Nat → Nat → Int32} {q : Nat → Nat → Int64} {t : Bool} {Q : xRes → xMem → Prop} {n md : Nat} {sy : Nat → Nat → Nat} {nd : Nat → Int32} {tb : Nat → Bool} {rl : Nat → Nat} {pa : Nat → Option (Nat × Nat)} {ch : Nat → Nat → Nat} {op xp yp : Nat → Nat}
theorem sSl_lt {c p : Nat} (hw : TW n sy md nd tb rl pa ch) (hc : c < md) (hb : tb c = false) (hp : p / 3 ≤ lnR sy (rl c)) : sSl ch c p < 3 * md := by
  unfold sSl
  split
  · omega
  · have := (((hw.2 c hc).2.1 hb).2.2 (p / 3) (by omega) hp).2
    omega
theorem sCx_ok {s c p : Nat} (hw : TW n sy md nd tb rl pa ch) (hs : s < 3 * md) (hb : tb (s / 3) = false) (h : sCx pa s = some (c, p)) : c < md ∧ tb c = false ∧ p < 15 := by
  unfold sCx at h
  split at h
  · rename_i h2
    cases hp : pa (s / 3) with
    | none => rw [hp] at h; exact absurd h (by simp)
    | some v =>
      obtain ⟨a, k⟩ := v
      rw [hp] at h
      have h3 := (hw.2 (s / 3) (by omega)).2.2.2 a k hp
      simp only [Option.some.injEq, Prod.mk.injEq] at h
      have : lnR sy (rl a) ≤ 4 := lnS_le _
      obtain ⟨rfl, rfl⟩ := h
      exact ⟨h3.2.2.1, h3.2.2.2.1, by omega⟩
  · simp only [Option.some.injEq, Prod.mk.injEq] at h
    obtain ⟨rfl, rfl⟩ := h
    exact ⟨by omega, hb, by omega⟩
theorem sp_Evaluator_operate {o : Nat} {x y : Int64} (ho : 2 ≤ o ∧ o ≤ 8) (hQ : Q (.ok (some (.long (opr o x y)))) (56 + ζ, g, i, q, RT t)) : Wx m_Evaluator_operate 0 [some (.int (nI (o - 1))), some (.long x), none, some (.long y), none] [] (56 + ζ, g, i, q, RT t) (0, 0) Q := by
  rcases (show o = 2 ∨ o = 3 ∨ o = 4 ∨ o = 5 ∨ o = 6 ∨ o = 7 ∨ o = 8 by omega) with rfl | rfl | rfl | rfl | rfl | rfl | rfl
  ·
    refine ex_iload_n (i := 0) dX0_operate_0 rfl rfl ?_
    refine ex_tableIn (off := 39) (tgt := 40) dX0_operate_1 (by decide) (by decide) (by decide) (by decide) ?_
    refine ex_lload_n (i := 1) dX0_operate_40 rfl rfl ?_
    refine ex_lret dX0_operate_41 rfl ?_
    exact hQ
  ·
    refine ex_iload_n (i := 0) dX0_operate_0 rfl rfl ?_
    refine ex_tableIn (off := 41) (tgt := 42) dX0_operate_1 (by decide) (by decide) (by decide) (by decide) ?_
    refine ex_lload_n (i := 1) dX0_operate_42 rfl rfl ?_
    refine ex_lload_n (i := 3) dX0_operate_43 rfl rfl ?_
    refine ex_ladd dX0_operate_44 ?_
    refine ex_lret dX0_operate_45 rfl ?_
    exact hQ
  ·
    refine ex_iload_n (i := 0) dX0_operate_0 rfl rfl ?_
    refine ex_tableIn (off := 45) (tgt := 46) dX0_operate_1 (by decide) (by decide) (by decide) (by decide) ?_
    refine ex_lload_n (i := 1) dX0_operate_46 rfl rfl ?_
    refine ex_lload_n (i := 3) dX0_operate_47 rfl rfl ?_
    refine ex_lsub dX0_operate_48 ?_
    refine ex_lret dX0_operate_49 rfl ?_
    exact hQ
  ·
    refine ex_iload_n (i := 0) dX0_operate_0 rfl rfl ?_
    refine ex_tableIn (off := 49) (tgt := 50) dX0_operate_1 (by decide) (by decide) (by decide) (by decide) ?_
    refine ex_lload_n (i := 1) dX0_operate_50 rfl rfl ?_
    refine ex_lload_n (i := 3) dX0_operate_51 rfl rfl ?_
    refine ex_lmul dX0_operate_52 ?_
    refine ex_lret dX0_operate_53 rfl ?_
    exact hQ
  · have e : opr 6 x y = if x < y then 1 else 0 := rfl
    rw [e] at hQ
    by_cases c : x < y
    · rw [if_pos c] at hQ
      refine ex_iload_n (i := 0) dX0_operate_0 rfl rfl ?_
      refine ex_tableIn (off := 53) (tgt := 54) dX0_operate_1 (by decide) (by decide) (by decide) (by decide) ?_
      refine ex_lload_n (i := 1) dX0_operate_54 rfl rfl ?_
      refine ex_lload_n (i := 3) dX0_operate_55 rfl rfl ?_
      refine ex_lcmp dX0_operate_56 ?_
      refine ex_if_ge (tgt := 64) dX0_operate_57 (by decide) (fun h57 => by exact absurd h57 (by unfold lg_cmp; rw [if_neg (lg_lt_not c), if_neg (lg_lt_ne c)]; decide)) (fun h57 => ?_)
      refine ex_lconst (v := 1) dX0_operate_60 (by decide) ?_
      refine ex_goto (tgt := 65) dX0_operate_61 (by decide) ?_
      refine ex_lret dX0_operate_65 rfl ?_
      exact hQ
    · rw [if_neg c] at hQ
      refine ex_iload_n (i := 0) dX0_operate_0 rfl rfl ?_
      refine ex_tableIn (off := 53) (tgt := 54) dX0_operate_1 (by decide) (by decide) (by decide) (by decide) ?_
      refine ex_lload_n (i := 1) dX0_operate_54 rfl rfl ?_
      refine ex_lload_n (i := 3) dX0_operate_55 rfl rfl ?_
      refine ex_lcmp dX0_operate_56 ?_
      refine ex_if_ge (tgt := 64) dX0_operate_57 (by decide) (fun h57 => ?_) (fun h57 => by exact absurd (show ¬ lg_cmp x y < 0 by unfold lg_cmp; rcases lg_tri x y with h | h | h <;> simp_all) (by simpa using h57))
      refine ex_lconst (v := 0) dX0_operate_64 (by decide) ?_
      refine ex_lret dX0_operate_65 rfl ?_
      exact hQ
  · have e : opr 7 x y = if y < x then x else y := rfl
    rw [e] at hQ
    refine ex_iload_n (i := 0) dX0_operate_0 rfl rfl ?_
    refine ex_tableIn (off := 65) (tgt := 66) dX0_operate_1 (by decide) (by decide) (by decide) (by decide) ?_
    refine ex_lload_n (i := 1) dX0_operate_66 rfl rfl ?_
    refine ex_lload_n (i := 3) dX0_operate_67 rfl rfl ?_
    refine ex_mmaxL dX0_operate_68 ln_Evaluator_101 wl_2 wm_3 wl_4 ⟨(Nat.le_of_ble_eq_true rfl), (Nat.le_of_ble_eq_true rfl), (Nat.le_of_ble_eq_true rfl)⟩ ?_
    refine ex_lret dX0_operate_71 rfl ?_
    exact hQ
  · have e : opr 8 x y = if y = 0 then 0 else x := rfl
    rw [e] at hQ
    by_cases c : y = 0
    · rw [if_pos c] at hQ
      refine ex_iload_n (i := 0) dX0_operate_0 rfl rfl ?_
      refine ex_tableOut (tgt := 72) dX0_operate_1 (by decide) (by decide) ?_
      refine ex_lload_n (i := 3) dX0_operate_72 rfl rfl ?_
      refine ex_lconst (v := 0) dX0_operate_73 (by decide) ?_
      refine ex_lcmp dX0_operate_74 ?_
      refine ex_if_eq (tgt := 82) dX0_operate_75 (by decide) (fun h75 => ?_) (fun h75 => by exact absurd (by rw [c]; decide) h75)
      refine ex_lconst (v := 0) dX0_operate_82 (by decide) ?_
      refine ex_lret dX0_operate_83 rfl ?_
      exact hQ
    · rw [if_neg c] at hQ
      refine ex_iload_n (i := 0) dX0_operate_0 rfl rfl ?_
      refine ex_tableOut (tgt := 72) dX0_operate_1 (by decide) (by decide) ?_
      refine ex_lload_n (i := 3) dX0_operate_72 rfl rfl ?_
      refine ex_lconst (v := 0) dX0_operate_73 (by decide) ?_
      refine ex_lcmp dX0_operate_74 ?_
      refine ex_if_eq (tgt := 82) dX0_operate_75 (by decide) (fun h75 => by exact absurd (by rw [lg0] at h75; exact h75) c) (fun h75 => ?_)
      refine ex_lload_n (i := 1) dX0_operate_78 rfl rfl ?_
      refine ex_goto (tgt := 83) dX0_operate_79 (by decide) ?_
      refine ex_lret dX0_operate_83 rfl ?_
      exact hQ
def cxI : Option (Nat × Nat) → Int32
  | none => -1
  | some (c, _) => nI c
def rxI (rl : Nat → Nat) : Option (Nat × Nat) → Int32
  | none => -1
  | some (c, _) => nI (rl c)
def plxI : Option (Nat × Nat) → Nat
  | none => 2
  | some (_, p) => p
theorem sp_Evaluator_contextOf_46 {s : Nat} (sc : SC i) (hF : i 48 = nd) (hw : TW n sy md nd tb rl pa ch) (hs : s < 3 * md) (hQ : Q (.ok (some (.int (cxI (sCx pa s))))) (56 + ζ, g, i, q, RT t)) : Wx m_Evaluator_contextOf 0 [some (.ref 46), some (.int (nI s)), none] [] (56 + ζ, g, i, q, RT t) (0, 0) Q := by
  have h150 := hw.1
  have hj := hw.2 (s / 3) (by omega)
  unfold sCx at hQ
  by_cases h2 : s % 3 = 2
  · rw [if_pos h2] at hQ
    cases hp : pa (s / 3) with
    | none =>
      rw [hp] at hQ
      have e := (hj.2.2.1 hp).1
      refine ex_iload_n (i := 1) dX0_contextOf_0 rfl rfl ?_
      refine ex_iconst (v := nI 3) dX0_contextOf_1 (by decide) ?_
      refine ex_idivN dX0_contextOf_2 (by omega) (by decide) (by decide) ?_
      refine ex_istore_n (L' := [some (.ref (46)), some (.int (nI (s))), some (.int (nI (s / 3)))]) dX0_contextOf_3 (i := 2) rfl (by decide) rfl ?_
      refine ex_iload_n (i := 1) dX0_contextOf_4 rfl rfl ?_
      refine ex_iconst (v := nI 3) dX0_contextOf_5 (by decide) ?_
      refine ex_iremN dX0_contextOf_6 (by omega) (by decide) (by decide) ?_
      refine ex_iconst (v := nI 2) dX0_contextOf_7 (by decide) ?_
      refine ex_icmp_neN (tgt := 20) dX0_contextOf_8 (by decide) (by omega) (by omega) (fun h8 => by exact absurd h2 h8) (fun h8 => ?_)
      refine ex_aload_n (i := 0) dX0_contextOf_11 rfl rfl ?_
      refine ex_iload_n (i := 2) dX0_contextOf_12 rfl rfl ?_
      refine ex_iconst (v := nI 2) dX0_contextOf_13 (by decide) ?_
      refine ex_cV (ν := m_Tree_fact) (a := 46) (ci := 8) (as := [.int (nI (s / 3)), .int (nI (2))]) dX0_contextOf_14 ln_Evaluator_62 mf_Tree_fact rfl (l56 (by decide)) rfl rfl np_Tree_fact rfl rfl ⟨(Nat.le_of_ble_eq_true rfl), (Nat.le_of_ble_eq_true rfl), (Nat.le_of_ble_eq_true rfl), (Nat.le_of_ble_eq_true rfl)⟩ (by decide) ?_
      refine sp_Tree_fact_46 sc (by omega) (by omega) ?_
      refine ⟨_, rfl, ?_⟩
      refine ex_asI (y := (-1)) (by rw [hF]; exact e) ?_
      refine ex_goto (tgt := 21) dX0_contextOf_17 (by decide) ?_
      refine ex_iret dX0_contextOf_21 rfl rfl ?_
      exact hQ
    | some v =>
      obtain ⟨a, k⟩ := v
      rw [hp] at hQ
      have e := (hj.2.2.2 a k hp).1
      refine ex_iload_n (i := 1) dX0_contextOf_0 rfl rfl ?_
      refine ex_iconst (v := nI 3) dX0_contextOf_1 (by decide) ?_
      refine ex_idivN dX0_contextOf_2 (by omega) (by decide) (by decide) ?_
      refine ex_istore_n (L' := [some (.ref (46)), some (.int (nI (s))), some (.int (nI (s / 3)))]) dX0_contextOf_3 (i := 2) rfl (by decide) rfl ?_
      refine ex_iload_n (i := 1) dX0_contextOf_4 rfl rfl ?_
      refine ex_iconst (v := nI 3) dX0_contextOf_5 (by decide) ?_
      refine ex_iremN dX0_contextOf_6 (by omega) (by decide) (by decide) ?_
      refine ex_iconst (v := nI 2) dX0_contextOf_7 (by decide) ?_
      refine ex_icmp_neN (tgt := 20) dX0_contextOf_8 (by decide) (by omega) (by omega) (fun h8 => by exact absurd h2 h8) (fun h8 => ?_)
      refine ex_aload_n (i := 0) dX0_contextOf_11 rfl rfl ?_
      refine ex_iload_n (i := 2) dX0_contextOf_12 rfl rfl ?_
      refine ex_iconst (v := nI 2) dX0_contextOf_13 (by decide) ?_
      refine ex_cV (ν := m_Tree_fact) (a := 46) (ci := 8) (as := [.int (nI (s / 3)), .int (nI (2))]) dX0_contextOf_14 ln_Evaluator_62 mf_Tree_fact rfl (l56 (by decide)) rfl rfl np_Tree_fact rfl rfl ⟨(Nat.le_of_ble_eq_true rfl), (Nat.le_of_ble_eq_true rfl), (Nat.le_of_ble_eq_true rfl), (Nat.le_of_ble_eq_true rfl)⟩ (by decide) ?_
      refine sp_Tree_fact_46 sc (by omega) (by omega) ?_
      refine ⟨_, rfl, ?_⟩
      refine ex_asN (a := a) (by rw [hF]; exact e) ?_
      refine ex_goto (tgt := 21) dX0_contextOf_17 (by decide) ?_
      refine ex_iret dX0_contextOf_21 rfl rfl ?_
      exact hQ
  · rw [if_neg h2] at hQ
    refine ex_iload_n (i := 1) dX0_contextOf_0 rfl rfl ?_
    refine ex_iconst (v := nI 3) dX0_contextOf_1 (by decide) ?_
    refine ex_idivN dX0_contextOf_2 (by omega) (by decide) (by decide) ?_
    refine ex_istore_n (L' := [some (.ref (46)), some (.int (nI (s))), some (.int (nI (s / 3)))]) dX0_contextOf_3 (i := 2) rfl (by decide) rfl ?_
    refine ex_iload_n (i := 1) dX0_contextOf_4 rfl rfl ?_
    refine ex_iconst (v := nI 3) dX0_contextOf_5 (by decide) ?_
    refine ex_iremN dX0_contextOf_6 (by omega) (by decide) (by decide) ?_
    refine ex_iconst (v := nI 2) dX0_contextOf_7 (by decide) ?_
    refine ex_icmp_neN (tgt := 20) dX0_contextOf_8 (by decide) (by omega) (by omega) (fun h8 => ?_) (fun h8 => by exact absurd h8 h2)
    refine ex_iload_n (i := 2) dX0_contextOf_20 rfl rfl ?_
    refine ex_iret dX0_contextOf_21 rfl rfl ?_
    exact hQ
theorem sp_Evaluator_placeOf_46 {s : Nat} (sc : SC i) (hF : i 48 = nd) (hw : TW n sy md nd tb rl pa ch) (hs : s < 3 * md) (hQ : Q (.ok (some (.int (nI (plxI (sCx pa s)))))) (56 + ζ, g, i, q, RT t)) : Wx m_Evaluator_placeOf 0 [some (.ref 46), some (.int (nI s)), none, none] [] (56 + ζ, g, i, q, RT t) (0, 0) Q := by
  have h150 := hw.1
  have hj := hw.2 (s / 3) (by omega)
  unfold sCx at hQ
  by_cases h2 : s % 3 = 2
  · rw [if_pos h2] at hQ
    cases hp : pa (s / 3) with
    | none =>
      rw [hp] at hQ
      have e := (hj.2.2.1 hp).2
      refine ex_iload_n (i := 1) dX0_placeOf_0 rfl rfl ?_
      refine ex_iconst (v := nI 3) dX0_placeOf_1 (by decide) ?_
      refine ex_iremN dX0_placeOf_2 (by omega) (by decide) (by decide) ?_
      refine ex_istore_n (L' := [some (.ref (46)), some (.int (nI (s))), some (.int (nI (s % 3))), none]) dX0_placeOf_3 (i := 2) rfl (by decide) rfl ?_
      refine ex_iload_n (i := 2) dX0_placeOf_4 rfl rfl ?_
      refine ex_iconst (v := nI 2) dX0_placeOf_5 (by decide) ?_
      refine ex_icmp_neN (tgt := 20) dX0_placeOf_6 (by decide) (by omega) (by omega) (fun h6 => by exact absurd h2 h6) (fun h6 => ?_)
      refine ex_aload_n (i := 0) dX0_placeOf_9 rfl rfl ?_
      refine ex_iload_n (i := 1) dX0_placeOf_10 rfl rfl ?_
      refine ex_iconst (v := nI 3) dX0_placeOf_11 (by decide) ?_
      refine ex_idivN dX0_placeOf_12 (by omega) (by decide) (by decide) ?_
      refine ex_iconst (v := nI 3) dX0_placeOf_13 (by decide) ?_
      refine ex_cV (ν := m_Tree_fact) (a := 46) (ci := 8) (as := [.int (nI (s / 3)), .int (nI (3))]) dX0_placeOf_14 ln_Evaluator_62 mf_Tree_fact rfl (l56 (by decide)) rfl rfl np_Tree_fact rfl rfl ⟨(Nat.le_of_ble_eq_true rfl), (Nat.le_of_ble_eq_true rfl), (Nat.le_of_ble_eq_true rfl), (Nat.le_of_ble_eq_true rfl)⟩ (by decide) ?_
      refine sp_Tree_fact_46 sc (by omega) (by omega) ?_
      refine ⟨_, rfl, ?_⟩
      refine ex_asN (a := 0) (by rw [hF]; exact e) ?_
      refine ex_goto (tgt := 21) dX0_placeOf_17 (by decide) ?_
      refine ex_istore_n (L' := [some (.ref (46)), some (.int (nI (s))), some (.int (nI (s % 3))), some (.int (nI (0)))]) dX0_placeOf_21 (i := 3) rfl (by decide) rfl ?_
      refine ex_iload_n (i := 3) dX0_placeOf_22 rfl rfl ?_
      refine ex_iconst (v := nI 3) dX0_placeOf_23 (by decide) ?_
      refine ex_imulN dX0_placeOf_24 ?_
      refine ex_iload_n (i := 2) dX0_placeOf_25 rfl rfl ?_
      refine ex_iaddN dX0_placeOf_26 ?_
      refine ex_iret dX0_placeOf_27 rfl rfl ?_
      rw [show 0 + s % 3 = 2 by omega]; exact hQ
    | some v =>
      obtain ⟨a, k⟩ := v
      rw [hp] at hQ
      have e := (hj.2.2.2 a k hp).2.1
      refine ex_iload_n (i := 1) dX0_placeOf_0 rfl rfl ?_
      refine ex_iconst (v := nI 3) dX0_placeOf_1 (by decide) ?_
      refine ex_iremN dX0_placeOf_2 (by omega) (by decide) (by decide) ?_
      refine ex_istore_n (L' := [some (.ref (46)), some (.int (nI (s))), some (.int (nI (s % 3))), none]) dX0_placeOf_3 (i := 2) rfl (by decide) rfl ?_
      refine ex_iload_n (i := 2) dX0_placeOf_4 rfl rfl ?_
      refine ex_iconst (v := nI 2) dX0_placeOf_5 (by decide) ?_
      refine ex_icmp_neN (tgt := 20) dX0_placeOf_6 (by decide) (by omega) (by omega) (fun h6 => by exact absurd h2 h6) (fun h6 => ?_)
      refine ex_aload_n (i := 0) dX0_placeOf_9 rfl rfl ?_
      refine ex_iload_n (i := 1) dX0_placeOf_10 rfl rfl ?_
      refine ex_iconst (v := nI 3) dX0_placeOf_11 (by decide) ?_
      refine ex_idivN dX0_placeOf_12 (by omega) (by decide) (by decide) ?_
      refine ex_iconst (v := nI 3) dX0_placeOf_13 (by decide) ?_
      refine ex_cV (ν := m_Tree_fact) (a := 46) (ci := 8) (as := [.int (nI (s / 3)), .int (nI (3))]) dX0_placeOf_14 ln_Evaluator_62 mf_Tree_fact rfl (l56 (by decide)) rfl rfl np_Tree_fact rfl rfl ⟨(Nat.le_of_ble_eq_true rfl), (Nat.le_of_ble_eq_true rfl), (Nat.le_of_ble_eq_true rfl), (Nat.le_of_ble_eq_true rfl)⟩ (by decide) ?_
      refine sp_Tree_fact_46 sc (by omega) (by omega) ?_
      refine ⟨_, rfl, ?_⟩
      refine ex_asN (a := k) (by rw [hF]; exact e) ?_
      refine ex_goto (tgt := 21) dX0_placeOf_17 (by decide) ?_
      refine ex_istore_n (L' := [some (.ref (46)), some (.int (nI (s))), some (.int (nI (s % 3))), some (.int (nI (k)))]) dX0_placeOf_21 (i := 3) rfl (by decide) rfl ?_
      refine ex_iload_n (i := 3) dX0_placeOf_22 rfl rfl ?_
      refine ex_iconst (v := nI 3) dX0_placeOf_23 (by decide) ?_
      refine ex_imulN dX0_placeOf_24 ?_
      refine ex_iload_n (i := 2) dX0_placeOf_25 rfl rfl ?_
      refine ex_iaddN dX0_placeOf_26 ?_
      refine ex_iret dX0_placeOf_27 rfl rfl ?_
      rw [h2]; exact hQ
  · rw [if_neg h2] at hQ
    refine ex_iload_n (i := 1) dX0_placeOf_0 rfl rfl ?_
    refine ex_iconst (v := nI 3) dX0_placeOf_1 (by decide) ?_
    refine ex_iremN dX0_placeOf_2 (by omega) (by decide) (by decide) ?_
    refine ex_istore_n (L' := [some (.ref (46)), some (.int (nI (s))), some (.int (nI (s % 3))), none]) dX0_placeOf_3 (i := 2) rfl (by decide) rfl ?_
    refine ex_iload_n (i := 2) dX0_placeOf_4 rfl rfl ?_
    refine ex_iconst (v := nI 2) dX0_placeOf_5 (by decide) ?_
    refine ex_icmp_neN (tgt := 20) dX0_placeOf_6 (by decide) (by omega) (by omega) (fun h6 => ?_) (fun h6 => by exact absurd h6 h2)
    refine ex_iconst (v := nI 0) dX0_placeOf_20 (by decide) ?_
    refine ex_istore_n (L' := [some (.ref (46)), some (.int (nI (s))), some (.int (nI (s % 3))), some (.int (nI (0)))]) dX0_placeOf_21 (i := 3) rfl (by decide) rfl ?_
    refine ex_iload_n (i := 3) dX0_placeOf_22 rfl rfl ?_
    refine ex_iconst (v := nI 3) dX0_placeOf_23 (by decide) ?_
    refine ex_imulN dX0_placeOf_24 ?_
    refine ex_iload_n (i := 2) dX0_placeOf_25 rfl rfl ?_
    refine ex_iaddN dX0_placeOf_26 ?_
    refine ex_iret dX0_placeOf_27 rfl rfl ?_
    rw [show 0 + s % 3 = s % 3 by omega]; exact hQ
theorem sp_Evaluator_ruleOf_46 {s : Nat} {x : Int32} (hx : x = cxI (sCx pa s)) (sc : SC i) (hF : i 48 = nd) (hw : TW n sy md nd tb rl pa ch) (hs : s < 3 * md) (hb : tb (s / 3) = false) (hQ : Q (.ok (some (.int (rxI rl (sCx pa s))))) (56 + ζ, g, i, q, RT t)) : Wx m_Evaluator_ruleOf 0 [some (.ref 46), some (.int x)] [] (56 + ζ, g, i, q, RT t) (0, 0) Q := by
  subst hx
  have h150 := hw.1
  cases h : sCx pa s with
  | none =>
    rw [h] at hQ
    show Wx m_Evaluator_ruleOf 0 [some (.ref 46), some (.int (-1))] [] (56 + ζ, g, i, q, RT t) (0, 0) Q
    refine ex_iload_n (i := 1) dX0_ruleOf_0 rfl rfl ?_
    refine ex_if_ge (tgt := 8) dX0_ruleOf_1 (by decide) (fun h1 => by exact absurd h1 (by decide)) (fun h1 => ?_)
    refine ex_iconst (v := -1) dX0_ruleOf_4 (by decide) ?_
    refine ex_goto (tgt := 14) dX0_ruleOf_5 (by decide) ?_
    refine ex_iret dX0_ruleOf_14 rfl rfl ?_
    exact hQ
  | some v =>
    obtain ⟨c, p⟩ := v
    rw [h] at hQ
    have hc := sCx_ok hw hs hb h
    have e := ((hw.2 c hc.1).2.1 hc.2.1).1
    show Wx m_Evaluator_ruleOf 0 [some (.ref 46), some (.int (nI c))] [] (56 + ζ, g, i, q, RT t) (0, 0) Q
    refine ex_iload_n (i := 1) dX0_ruleOf_0 rfl rfl ?_
    refine ex_if_geN (tgt := 8) dX0_ruleOf_1 (by decide) (by omega) ?_
    refine ex_aload_n (i := 0) dX0_ruleOf_8 rfl rfl ?_
    refine ex_iload_n (i := 1) dX0_ruleOf_9 rfl rfl ?_
    refine ex_iconst (v := nI 1) dX0_ruleOf_10 (by decide) ?_
    refine ex_cV (ν := m_Tree_fact) (a := 46) (ci := 8) (as := [.int (nI (c)), .int (nI (1))]) dX0_ruleOf_11 ln_Evaluator_62 mf_Tree_fact rfl (l56 (by decide)) rfl rfl np_Tree_fact rfl rfl ⟨(Nat.le_of_ble_eq_true rfl), (Nat.le_of_ble_eq_true rfl), (Nat.le_of_ble_eq_true rfl), (Nat.le_of_ble_eq_true rfl)⟩ (by decide) ?_
    refine sp_Tree_fact_46 sc (by omega) (by omega) ?_
    refine ⟨_, rfl, ?_⟩
    refine ex_asN (a := rl c) (by rw [hF]; exact e) ?_
    refine ex_iret dX0_ruleOf_14 rfl rfl ?_
    exact hQ
theorem sp_Evaluator_slotOf_46 {c p : Nat} (sc : SC i) (hF : i 48 = nd) (hw : TW n sy md nd tb rl pa ch) (hc : c < md) (hb : tb c = false) (hp : p / 3 ≤ lnR sy (rl c)) (hQ : Q (.ok (some (.int (nI (sSl ch c p))))) (56 + ζ, g, i, q, RT t)) : Wx m_Evaluator_slotOf 0 [some (.ref 46), some (.int (nI c)), some (.int (nI p)), none, none] [] (56 + ζ, g, i, q, RT t) (0, 0) Q := by
  have h150 := hw.1
  have hl : lnR sy (rl c) ≤ 4 := lnS_le _
  unfold sSl at hQ
  by_cases h0 : p / 3 = 0
  · rw [if_pos h0] at hQ
    refine ex_iload_n (i := 2) dX0_slotOf_0 rfl rfl ?_
    refine ex_iconst (v := nI 3) dX0_slotOf_1 (by decide) ?_
    refine ex_idivN dX0_slotOf_2 (by omega) (by decide) (by decide) ?_
    refine ex_istore_n (L' := [some (.ref (46)), some (.int (nI (c))), some (.int (nI (p))), some (.int (nI (p / 3))), none]) dX0_slotOf_3 (i := 3) rfl (by decide) rfl ?_
    refine ex_iload_n (i := 3) dX0_slotOf_4 rfl rfl ?_
    refine ex_if_neN (tgt := 12) dX0_slotOf_5 (by decide) (by omega) (fun h5 => by exact absurd h0 h5) (fun h5 => ?_)
    refine ex_iload_n (i := 1) dX0_slotOf_8 rfl rfl ?_
    refine ex_goto (tgt := 18) dX0_slotOf_9 (by decide) ?_
    refine ex_istore (L' := [some (.ref (46)), some (.int (nI (c))), some (.int (nI (p))), some (.int (nI (p / 3))), some (.int (nI (c)))]) dX0_slotOf_18 (by decide) rfl ?_
    refine ex_iload dX0_slotOf_20 rfl ?_
    refine ex_iconst (v := nI 3) dX0_slotOf_22 (by decide) ?_
    refine ex_imulN dX0_slotOf_23 ?_
    refine ex_iload_n (i := 2) dX0_slotOf_24 rfl rfl ?_
    refine ex_iconst (v := nI 3) dX0_slotOf_25 (by decide) ?_
    refine ex_iremN dX0_slotOf_26 (by omega) (by decide) (by decide) ?_
    refine ex_iaddN dX0_slotOf_27 ?_
    refine ex_iret dX0_slotOf_28 rfl rfl ?_
    exact hQ
  · rw [if_neg h0] at hQ
    have e := ((hw.2 c hc).2.1 hb).2.2 (p / 3) (by omega) hp
    refine ex_iload_n (i := 2) dX0_slotOf_0 rfl rfl ?_
    refine ex_iconst (v := nI 3) dX0_slotOf_1 (by decide) ?_
    refine ex_idivN dX0_slotOf_2 (by omega) (by decide) (by decide) ?_
    refine ex_istore_n (L' := [some (.ref (46)), some (.int (nI (c))), some (.int (nI (p))), some (.int (nI (p / 3))), none]) dX0_slotOf_3 (i := 3) rfl (by decide) rfl ?_
    refine ex_iload_n (i := 3) dX0_slotOf_4 rfl rfl ?_
    refine ex_if_neN (tgt := 12) dX0_slotOf_5 (by decide) (by omega) (fun h5 => ?_) (fun h5 => by exact absurd h5 h0)
    refine ex_aload_n (i := 0) dX0_slotOf_12 rfl rfl ?_
    refine ex_iload_n (i := 1) dX0_slotOf_13 rfl rfl ?_
    refine ex_iload_n (i := 3) dX0_slotOf_14 rfl rfl ?_
    refine ex_cV (ν := m_Tree_child) (a := 46) (ci := 8) (as := [.int (nI (c)), .int (nI (p / 3))]) dX0_slotOf_15 ln_Evaluator_66 mf_Tree_child rfl (l56 (by decide)) rfl rfl np_Tree_child rfl rfl ⟨(Nat.le_of_ble_eq_true rfl), (Nat.le_of_ble_eq_true rfl), (Nat.le_of_ble_eq_true rfl), (Nat.le_of_ble_eq_true rfl)⟩ (by decide) ?_
    refine sp_Tree_child_46 sc (by omega) (by omega) ?_
    refine ⟨_, rfl, ?_⟩
    refine ex_asN (a := ch c (p / 3)) (by rw [hF]; exact e.1) ?_
    refine ex_istore (L' := [some (.ref (46)), some (.int (nI (c))), some (.int (nI (p))), some (.int (nI (p / 3))), some (.int (nI (ch c (p / 3))))]) dX0_slotOf_18 (by decide) rfl ?_
    refine ex_iload dX0_slotOf_20 rfl ?_
    refine ex_iconst (v := nI 3) dX0_slotOf_22 (by decide) ?_
    refine ex_imulN dX0_slotOf_23 ?_
    refine ex_iload_n (i := 2) dX0_slotOf_24 rfl rfl ?_
    refine ex_iconst (v := nI 3) dX0_slotOf_25 (by decide) ?_
    refine ex_iremN dX0_slotOf_26 (by omega) (by decide) (by decide) ?_
    refine ex_iaddN dX0_slotOf_27 ?_
    refine ex_iret dX0_slotOf_28 rfl rfl ?_
    exact hQ
theorem sp_Evaluator_contextOf_51 {s : Nat} (sc : SC i) (hF : i 53 = nd) (hw : TW n sy md nd tb rl pa ch) (hs : s < 3 * md) (hQ : Q (.ok (some (.int (cxI (sCx pa s))))) (56 + ζ, g, i, q, RT t)) : Wx m_Evaluator_contextOf 0 [some (.ref 51), some (.int (nI s)), none] [] (56 + ζ, g, i, q, RT t) (0, 0) Q := by
  have h150 := hw.1
  have hj := hw.2 (s / 3) (by omega)
  unfold sCx at hQ
  by_cases h2 : s % 3 = 2
  · rw [if_pos h2] at hQ
    cases hp : pa (s / 3) with
    | none =>
      rw [hp] at hQ
      have e := (hj.2.2.1 hp).1
      refine ex_iload_n (i := 1) dX0_contextOf_0 rfl rfl ?_
      refine ex_iconst (v := nI 3) dX0_contextOf_1 (by decide) ?_
      refine ex_idivN dX0_contextOf_2 (by omega) (by decide) (by decide) ?_
      refine ex_istore_n (L' := [some (.ref (51)), some (.int (nI (s))), some (.int (nI (s / 3)))]) dX0_contextOf_3 (i := 2) rfl (by decide) rfl ?_
      refine ex_iload_n (i := 1) dX0_contextOf_4 rfl rfl ?_
      refine ex_iconst (v := nI 3) dX0_contextOf_5 (by decide) ?_
      refine ex_iremN dX0_contextOf_6 (by omega) (by decide) (by decide) ?_
      refine ex_iconst (v := nI 2) dX0_contextOf_7 (by decide) ?_
      refine ex_icmp_neN (tgt := 20) dX0_contextOf_8 (by decide) (by omega) (by omega) (fun h8 => by exact absurd h2 h8) (fun h8 => ?_)
      refine ex_aload_n (i := 0) dX0_contextOf_11 rfl rfl ?_
      refine ex_iload_n (i := 2) dX0_contextOf_12 rfl rfl ?_
      refine ex_iconst (v := nI 2) dX0_contextOf_13 (by decide) ?_
      refine ex_cV (ν := m_Tree_fact) (a := 51) (ci := 8) (as := [.int (nI (s / 3)), .int (nI (2))]) dX0_contextOf_14 ln_Evaluator_62 mf_Tree_fact rfl (l56 (by decide)) rfl rfl np_Tree_fact rfl rfl ⟨(Nat.le_of_ble_eq_true rfl), (Nat.le_of_ble_eq_true rfl), (Nat.le_of_ble_eq_true rfl), (Nat.le_of_ble_eq_true rfl)⟩ (by decide) ?_
      refine sp_Tree_fact_51 sc (by omega) (by omega) ?_
      refine ⟨_, rfl, ?_⟩
      refine ex_asI (y := (-1)) (by rw [hF]; exact e) ?_
      refine ex_goto (tgt := 21) dX0_contextOf_17 (by decide) ?_
      refine ex_iret dX0_contextOf_21 rfl rfl ?_
      exact hQ
    | some v =>
      obtain ⟨a, k⟩ := v
      rw [hp] at hQ
      have e := (hj.2.2.2 a k hp).1
      refine ex_iload_n (i := 1) dX0_contextOf_0 rfl rfl ?_
      refine ex_iconst (v := nI 3) dX0_contextOf_1 (by decide) ?_
      refine ex_idivN dX0_contextOf_2 (by omega) (by decide) (by decide) ?_
      refine ex_istore_n (L' := [some (.ref (51)), some (.int (nI (s))), some (.int (nI (s / 3)))]) dX0_contextOf_3 (i := 2) rfl (by decide) rfl ?_
      refine ex_iload_n (i := 1) dX0_contextOf_4 rfl rfl ?_
      refine ex_iconst (v := nI 3) dX0_contextOf_5 (by decide) ?_
      refine ex_iremN dX0_contextOf_6 (by omega) (by decide) (by decide) ?_
      refine ex_iconst (v := nI 2) dX0_contextOf_7 (by decide) ?_
      refine ex_icmp_neN (tgt := 20) dX0_contextOf_8 (by decide) (by omega) (by omega) (fun h8 => by exact absurd h2 h8) (fun h8 => ?_)
      refine ex_aload_n (i := 0) dX0_contextOf_11 rfl rfl ?_
      refine ex_iload_n (i := 2) dX0_contextOf_12 rfl rfl ?_
      refine ex_iconst (v := nI 2) dX0_contextOf_13 (by decide) ?_
      refine ex_cV (ν := m_Tree_fact) (a := 51) (ci := 8) (as := [.int (nI (s / 3)), .int (nI (2))]) dX0_contextOf_14 ln_Evaluator_62 mf_Tree_fact rfl (l56 (by decide)) rfl rfl np_Tree_fact rfl rfl ⟨(Nat.le_of_ble_eq_true rfl), (Nat.le_of_ble_eq_true rfl), (Nat.le_of_ble_eq_true rfl), (Nat.le_of_ble_eq_true rfl)⟩ (by decide) ?_
      refine sp_Tree_fact_51 sc (by omega) (by omega) ?_
      refine ⟨_, rfl, ?_⟩
      refine ex_asN (a := a) (by rw [hF]; exact e) ?_
      refine ex_goto (tgt := 21) dX0_contextOf_17 (by decide) ?_
      refine ex_iret dX0_contextOf_21 rfl rfl ?_
      exact hQ
  · rw [if_neg h2] at hQ
    refine ex_iload_n (i := 1) dX0_contextOf_0 rfl rfl ?_
    refine ex_iconst (v := nI 3) dX0_contextOf_1 (by decide) ?_
    refine ex_idivN dX0_contextOf_2 (by omega) (by decide) (by decide) ?_
    refine ex_istore_n (L' := [some (.ref (51)), some (.int (nI (s))), some (.int (nI (s / 3)))]) dX0_contextOf_3 (i := 2) rfl (by decide) rfl ?_
    refine ex_iload_n (i := 1) dX0_contextOf_4 rfl rfl ?_
    refine ex_iconst (v := nI 3) dX0_contextOf_5 (by decide) ?_
    refine ex_iremN dX0_contextOf_6 (by omega) (by decide) (by decide) ?_
    refine ex_iconst (v := nI 2) dX0_contextOf_7 (by decide) ?_
    refine ex_icmp_neN (tgt := 20) dX0_contextOf_8 (by decide) (by omega) (by omega) (fun h8 => ?_) (fun h8 => by exact absurd h8 h2)
    refine ex_iload_n (i := 2) dX0_contextOf_20 rfl rfl ?_
    refine ex_iret dX0_contextOf_21 rfl rfl ?_
    exact hQ
theorem sp_Evaluator_placeOf_51 {s : Nat} (sc : SC i) (hF : i 53 = nd) (hw : TW n sy md nd tb rl pa ch) (hs : s < 3 * md) (hQ : Q (.ok (some (.int (nI (plxI (sCx pa s)))))) (56 + ζ, g, i, q, RT t)) : Wx m_Evaluator_placeOf 0 [some (.ref 51), some (.int (nI s)), none, none] [] (56 + ζ, g, i, q, RT t) (0, 0) Q := by
  have h150 := hw.1
  have hj := hw.2 (s / 3) (by omega)
  unfold sCx at hQ
  by_cases h2 : s % 3 = 2
  · rw [if_pos h2] at hQ
    cases hp : pa (s / 3) with
    | none =>
      rw [hp] at hQ
      have e := (hj.2.2.1 hp).2
      refine ex_iload_n (i := 1) dX0_placeOf_0 rfl rfl ?_
      refine ex_iconst (v := nI 3) dX0_placeOf_1 (by decide) ?_
      refine ex_iremN dX0_placeOf_2 (by omega) (by decide) (by decide) ?_
      refine ex_istore_n (L' := [some (.ref (51)), some (.int (nI (s))), some (.int (nI (s % 3))), none]) dX0_placeOf_3 (i := 2) rfl (by decide) rfl ?_
      refine ex_iload_n (i := 2) dX0_placeOf_4 rfl rfl ?_
      refine ex_iconst (v := nI 2) dX0_placeOf_5 (by decide) ?_
      refine ex_icmp_neN (tgt := 20) dX0_placeOf_6 (by decide) (by omega) (by omega) (fun h6 => by exact absurd h2 h6) (fun h6 => ?_)
      refine ex_aload_n (i := 0) dX0_placeOf_9 rfl rfl ?_
      refine ex_iload_n (i := 1) dX0_placeOf_10 rfl rfl ?_
      refine ex_iconst (v := nI 3) dX0_placeOf_11 (by decide) ?_
      refine ex_idivN dX0_placeOf_12 (by omega) (by decide) (by decide) ?_
      refine ex_iconst (v := nI 3) dX0_placeOf_13 (by decide) ?_
      refine ex_cV (ν := m_Tree_fact) (a := 51) (ci := 8) (as := [.int (nI (s / 3)), .int (nI (3))]) dX0_placeOf_14 ln_Evaluator_62 mf_Tree_fact rfl (l56 (by decide)) rfl rfl np_Tree_fact rfl rfl ⟨(Nat.le_of_ble_eq_true rfl), (Nat.le_of_ble_eq_true rfl), (Nat.le_of_ble_eq_true rfl), (Nat.le_of_ble_eq_true rfl)⟩ (by decide) ?_
      refine sp_Tree_fact_51 sc (by omega) (by omega) ?_
      refine ⟨_, rfl, ?_⟩
      refine ex_asN (a := 0) (by rw [hF]; exact e) ?_
      refine ex_goto (tgt := 21) dX0_placeOf_17 (by decide) ?_
      refine ex_istore_n (L' := [some (.ref (51)), some (.int (nI (s))), some (.int (nI (s % 3))), some (.int (nI (0)))]) dX0_placeOf_21 (i := 3) rfl (by decide) rfl ?_
      refine ex_iload_n (i := 3) dX0_placeOf_22 rfl rfl ?_
      refine ex_iconst (v := nI 3) dX0_placeOf_23 (by decide) ?_
      refine ex_imulN dX0_placeOf_24 ?_
      refine ex_iload_n (i := 2) dX0_placeOf_25 rfl rfl ?_
      refine ex_iaddN dX0_placeOf_26 ?_
      refine ex_iret dX0_placeOf_27 rfl rfl ?_
      rw [show 0 + s % 3 = 2 by omega]; exact hQ
    | some v =>
      obtain ⟨a, k⟩ := v
      rw [hp] at hQ
      have e := (hj.2.2.2 a k hp).2.1
      refine ex_iload_n (i := 1) dX0_placeOf_0 rfl rfl ?_
      refine ex_iconst (v := nI 3) dX0_placeOf_1 (by decide) ?_
      refine ex_iremN dX0_placeOf_2 (by omega) (by decide) (by decide) ?_
      refine ex_istore_n (L' := [some (.ref (51)), some (.int (nI (s))), some (.int (nI (s % 3))), none]) dX0_placeOf_3 (i := 2) rfl (by decide) rfl ?_
      refine ex_iload_n (i := 2) dX0_placeOf_4 rfl rfl ?_
      refine ex_iconst (v := nI 2) dX0_placeOf_5 (by decide) ?_
      refine ex_icmp_neN (tgt := 20) dX0_placeOf_6 (by decide) (by omega) (by omega) (fun h6 => by exact absurd h2 h6) (fun h6 => ?_)
      refine ex_aload_n (i := 0) dX0_placeOf_9 rfl rfl ?_
      refine ex_iload_n (i := 1) dX0_placeOf_10 rfl rfl ?_
      refine ex_iconst (v := nI 3) dX0_placeOf_11 (by decide) ?_
      refine ex_idivN dX0_placeOf_12 (by omega) (by decide) (by decide) ?_
      refine ex_iconst (v := nI 3) dX0_placeOf_13 (by decide) ?_
      refine ex_cV (ν := m_Tree_fact) (a := 51) (ci := 8) (as := [.int (nI (s / 3)), .int (nI (3))]) dX0_placeOf_14 ln_Evaluator_62 mf_Tree_fact rfl (l56 (by decide)) rfl rfl np_Tree_fact rfl rfl ⟨(Nat.le_of_ble_eq_true rfl), (Nat.le_of_ble_eq_true rfl), (Nat.le_of_ble_eq_true rfl), (Nat.le_of_ble_eq_true rfl)⟩ (by decide) ?_
      refine sp_Tree_fact_51 sc (by omega) (by omega) ?_
      refine ⟨_, rfl, ?_⟩
      refine ex_asN (a := k) (by rw [hF]; exact e) ?_
      refine ex_goto (tgt := 21) dX0_placeOf_17 (by decide) ?_
      refine ex_istore_n (L' := [some (.ref (51)), some (.int (nI (s))), some (.int (nI (s % 3))), some (.int (nI (k)))]) dX0_placeOf_21 (i := 3) rfl (by decide) rfl ?_
      refine ex_iload_n (i := 3) dX0_placeOf_22 rfl rfl ?_
      refine ex_iconst (v := nI 3) dX0_placeOf_23 (by decide) ?_
      refine ex_imulN dX0_placeOf_24 ?_
      refine ex_iload_n (i := 2) dX0_placeOf_25 rfl rfl ?_
      refine ex_iaddN dX0_placeOf_26 ?_
      refine ex_iret dX0_placeOf_27 rfl rfl ?_
      rw [h2]; exact hQ
  · rw [if_neg h2] at hQ
    refine ex_iload_n (i := 1) dX0_placeOf_0 rfl rfl ?_
    refine ex_iconst (v := nI 3) dX0_placeOf_1 (by decide) ?_
    refine ex_iremN dX0_placeOf_2 (by omega) (by decide) (by decide) ?_
    refine ex_istore_n (L' := [some (.ref (51)), some (.int (nI (s))), some (.int (nI (s % 3))), none]) dX0_placeOf_3 (i := 2) rfl (by decide) rfl ?_
    refine ex_iload_n (i := 2) dX0_placeOf_4 rfl rfl ?_
    refine ex_iconst (v := nI 2) dX0_placeOf_5 (by decide) ?_
    refine ex_icmp_neN (tgt := 20) dX0_placeOf_6 (by decide) (by omega) (by omega) (fun h6 => ?_) (fun h6 => by exact absurd h6 h2)
    refine ex_iconst (v := nI 0) dX0_placeOf_20 (by decide) ?_
    refine ex_istore_n (L' := [some (.ref (51)), some (.int (nI (s))), some (.int (nI (s % 3))), some (.int (nI (0)))]) dX0_placeOf_21 (i := 3) rfl (by decide) rfl ?_
    refine ex_iload_n (i := 3) dX0_placeOf_22 rfl rfl ?_
    refine ex_iconst (v := nI 3) dX0_placeOf_23 (by decide) ?_
    refine ex_imulN dX0_placeOf_24 ?_
    refine ex_iload_n (i := 2) dX0_placeOf_25 rfl rfl ?_
    refine ex_iaddN dX0_placeOf_26 ?_
    refine ex_iret dX0_placeOf_27 rfl rfl ?_
    rw [show 0 + s % 3 = s % 3 by omega]; exact hQ
theorem sp_Evaluator_ruleOf_51 {s : Nat} {x : Int32} (hx : x = cxI (sCx pa s)) (sc : SC i) (hF : i 53 = nd) (hw : TW n sy md nd tb rl pa ch) (hs : s < 3 * md) (hb : tb (s / 3) = false) (hQ : Q (.ok (some (.int (rxI rl (sCx pa s))))) (56 + ζ, g, i, q, RT t)) : Wx m_Evaluator_ruleOf 0 [some (.ref 51), some (.int x)] [] (56 + ζ, g, i, q, RT t) (0, 0) Q := by
  subst hx
  have h150 := hw.1
  cases h : sCx pa s with
  | none =>
    rw [h] at hQ
    show Wx m_Evaluator_ruleOf 0 [some (.ref 51), some (.int (-1))] [] (56 + ζ, g, i, q, RT t) (0, 0) Q
    refine ex_iload_n (i := 1) dX0_ruleOf_0 rfl rfl ?_
    refine ex_if_ge (tgt := 8) dX0_ruleOf_1 (by decide) (fun h1 => by exact absurd h1 (by decide)) (fun h1 => ?_)
    refine ex_iconst (v := -1) dX0_ruleOf_4 (by decide) ?_
    refine ex_goto (tgt := 14) dX0_ruleOf_5 (by decide) ?_
    refine ex_iret dX0_ruleOf_14 rfl rfl ?_
    exact hQ
  | some v =>
    obtain ⟨c, p⟩ := v
    rw [h] at hQ
    have hc := sCx_ok hw hs hb h
    have e := ((hw.2 c hc.1).2.1 hc.2.1).1
    show Wx m_Evaluator_ruleOf 0 [some (.ref 51), some (.int (nI c))] [] (56 + ζ, g, i, q, RT t) (0, 0) Q
    refine ex_iload_n (i := 1) dX0_ruleOf_0 rfl rfl ?_
    refine ex_if_geN (tgt := 8) dX0_ruleOf_1 (by decide) (by omega) ?_
    refine ex_aload_n (i := 0) dX0_ruleOf_8 rfl rfl ?_
    refine ex_iload_n (i := 1) dX0_ruleOf_9 rfl rfl ?_
    refine ex_iconst (v := nI 1) dX0_ruleOf_10 (by decide) ?_
    refine ex_cV (ν := m_Tree_fact) (a := 51) (ci := 8) (as := [.int (nI (c)), .int (nI (1))]) dX0_ruleOf_11 ln_Evaluator_62 mf_Tree_fact rfl (l56 (by decide)) rfl rfl np_Tree_fact rfl rfl ⟨(Nat.le_of_ble_eq_true rfl), (Nat.le_of_ble_eq_true rfl), (Nat.le_of_ble_eq_true rfl), (Nat.le_of_ble_eq_true rfl)⟩ (by decide) ?_
    refine sp_Tree_fact_51 sc (by omega) (by omega) ?_
    refine ⟨_, rfl, ?_⟩
    refine ex_asN (a := rl c) (by rw [hF]; exact e) ?_
    refine ex_iret dX0_ruleOf_14 rfl rfl ?_
    exact hQ
theorem sp_Evaluator_slotOf_51 {c p : Nat} (sc : SC i) (hF : i 53 = nd) (hw : TW n sy md nd tb rl pa ch) (hc : c < md) (hb : tb c = false) (hp : p / 3 ≤ lnR sy (rl c)) (hQ : Q (.ok (some (.int (nI (sSl ch c p))))) (56 + ζ, g, i, q, RT t)) : Wx m_Evaluator_slotOf 0 [some (.ref 51), some (.int (nI c)), some (.int (nI p)), none, none] [] (56 + ζ, g, i, q, RT t) (0, 0) Q := by
  have h150 := hw.1
  have hl : lnR sy (rl c) ≤ 4 := lnS_le _
  unfold sSl at hQ
  by_cases h0 : p / 3 = 0
  · rw [if_pos h0] at hQ
    refine ex_iload_n (i := 2) dX0_slotOf_0 rfl rfl ?_
    refine ex_iconst (v := nI 3) dX0_slotOf_1 (by decide) ?_
    refine ex_idivN dX0_slotOf_2 (by omega) (by decide) (by decide) ?_
    refine ex_istore_n (L' := [some (.ref (51)), some (.int (nI (c))), some (.int (nI (p))), some (.int (nI (p / 3))), none]) dX0_slotOf_3 (i := 3) rfl (by decide) rfl ?_
    refine ex_iload_n (i := 3) dX0_slotOf_4 rfl rfl ?_
    refine ex_if_neN (tgt := 12) dX0_slotOf_5 (by decide) (by omega) (fun h5 => by exact absurd h0 h5) (fun h5 => ?_)
    refine ex_iload_n (i := 1) dX0_slotOf_8 rfl rfl ?_
    refine ex_goto (tgt := 18) dX0_slotOf_9 (by decide) ?_
    refine ex_istore (L' := [some (.ref (51)), some (.int (nI (c))), some (.int (nI (p))), some (.int (nI (p / 3))), some (.int (nI (c)))]) dX0_slotOf_18 (by decide) rfl ?_
    refine ex_iload dX0_slotOf_20 rfl ?_
    refine ex_iconst (v := nI 3) dX0_slotOf_22 (by decide) ?_
    refine ex_imulN dX0_slotOf_23 ?_
    refine ex_iload_n (i := 2) dX0_slotOf_24 rfl rfl ?_
    refine ex_iconst (v := nI 3) dX0_slotOf_25 (by decide) ?_
    refine ex_iremN dX0_slotOf_26 (by omega) (by decide) (by decide) ?_
    refine ex_iaddN dX0_slotOf_27 ?_
    refine ex_iret dX0_slotOf_28 rfl rfl ?_
    exact hQ
  · rw [if_neg h0] at hQ
    have e := ((hw.2 c hc).2.1 hb).2.2 (p / 3) (by omega) hp
    refine ex_iload_n (i := 2) dX0_slotOf_0 rfl rfl ?_
    refine ex_iconst (v := nI 3) dX0_slotOf_1 (by decide) ?_
    refine ex_idivN dX0_slotOf_2 (by omega) (by decide) (by decide) ?_
    refine ex_istore_n (L' := [some (.ref (51)), some (.int (nI (c))), some (.int (nI (p))), some (.int (nI (p / 3))), none]) dX0_slotOf_3 (i := 3) rfl (by decide) rfl ?_
    refine ex_iload_n (i := 3) dX0_slotOf_4 rfl rfl ?_
    refine ex_if_neN (tgt := 12) dX0_slotOf_5 (by decide) (by omega) (fun h5 => ?_) (fun h5 => by exact absurd h5 h0)
    refine ex_aload_n (i := 0) dX0_slotOf_12 rfl rfl ?_
    refine ex_iload_n (i := 1) dX0_slotOf_13 rfl rfl ?_
    refine ex_iload_n (i := 3) dX0_slotOf_14 rfl rfl ?_
    refine ex_cV (ν := m_Tree_child) (a := 51) (ci := 8) (as := [.int (nI (c)), .int (nI (p / 3))]) dX0_slotOf_15 ln_Evaluator_66 mf_Tree_child rfl (l56 (by decide)) rfl rfl np_Tree_child rfl rfl ⟨(Nat.le_of_ble_eq_true rfl), (Nat.le_of_ble_eq_true rfl), (Nat.le_of_ble_eq_true rfl), (Nat.le_of_ble_eq_true rfl)⟩ (by decide) ?_
    refine sp_Tree_child_51 sc (by omega) (by omega) ?_
    refine ⟨_, rfl, ?_⟩
    refine ex_asN (a := ch c (p / 3)) (by rw [hF]; exact e.1) ?_
    refine ex_istore (L' := [some (.ref (51)), some (.int (nI (c))), some (.int (nI (p))), some (.int (nI (p / 3))), some (.int (nI (ch c (p / 3))))]) dX0_slotOf_18 (by decide) rfl ?_
    refine ex_iload dX0_slotOf_20 rfl ?_
    refine ex_iconst (v := nI 3) dX0_slotOf_22 (by decide) ?_
    refine ex_imulN dX0_slotOf_23 ?_
    refine ex_iload_n (i := 2) dX0_slotOf_24 rfl rfl ?_
    refine ex_iconst (v := nI 3) dX0_slotOf_25 (by decide) ?_
    refine ex_iremN dX0_slotOf_26 (by omega) (by decide) (by decide) ?_
    refine ex_iaddN dX0_slotOf_27 ?_
    refine ex_iret dX0_slotOf_28 rfl rfl ?_
    exact hQ
end S39
