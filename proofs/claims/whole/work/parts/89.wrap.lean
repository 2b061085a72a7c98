/-! ===== the law's wrappers ===== -/
/-- a call that returned -/
def WKi (P : Nat → Int64 → Nat → (Nat → Nat → Int32) → (Nat → Nat → Int64) → Bool → Prop) (v : Option Value) (M : xMem) : Prop := ∃ x g i q t, v = some (.int x) ∧ M = (94, g, i, q, RT t) ∧ P 0 x.toInt64 g i q t
def WKl (P : Nat → Int64 → Nat → (Nat → Nat → Int32) → (Nat → Nat → Int64) → Bool → Prop) (v : Option Value) (M : xMem) : Prop := ∃ x g i q t, v = some (.long x) ∧ M = (94, g, i, q, RT t) ∧ P 0 x g i q t
/-- a call that threw, by the law's number of what it threw -/
def WX (C : String → Nat) (P : Nat → Int64 → Nat → (Nat → Nat → Int32) → (Nat → Nat → Int64) → Bool → Prop) (E : String) (M : xMem) : Prop := ∃ g i q t, M = (94, g, i, q, RT t) ∧ C E ≠ 0 ∧ P (C E) 0 g i q t
def WQ (K : Option Value → xMem → Prop) (X : String → xMem → Prop) (r : xRes) (M : xMem) : Prop := (∀ v, r = .ok v → K v M) ∧ ∀ E, r = .error E → X E M
theorem WQ.ok {K : Option Value → xMem → Prop} {X : String → xMem → Prop} {v : Option Value} {M : xMem} (h : K v M) : WQ K X (.ok v) M := ⟨fun _ e => (by cases e; exact h), fun _ e => (by cases e)⟩
theorem WQ.er {K : Option Value → xMem → Prop} {X : String → xMem → Prop} {E : String} {M : xMem} (h : X E M) : WQ K X (.error E) M := ⟨fun _ e => (by cases e), fun _ e => (by cases e; exact h)⟩
/-- what the law sees of a call: the number of what was thrown, or 0 and the answer in its array -/
def WR (P : Nat → Int64 → Nat → (Nat → Nat → Int32) → (Nat → Nat → Int64) → Bool → Prop) (v : Option Value) (M : xMem) : Prop := ∃ k x g i q t, v = some (.int (nI k)) ∧ M = (94, g, i, (if k = 0 then xUL q 93 0 x else q), RT t) ∧ k < 4 ∧ P k x g i q t
theorem cl_Law_13 : Cond.classLink RL 13 "java/lang/IllegalArgumentException" ∈ xWd := by decide +kernel
theorem cl_Law_15 : Cond.classLink RL 15 "java/lang/IllegalStateException" ∈ xWd := by decide +kernel
theorem cl_Law_24 : Cond.classLink RL 24 "java/util/NoSuchElementException" ∈ xWd := by decide +kernel
theorem cl_Law_30 : Cond.classLink RL 30 "java/lang/UnsupportedOperationException" ∈ xWd := by decide +kernel
theorem nc_any_rule : True := trivial
theorem hd_rule_1 : xHd m_Law_rule 11 "java/lang/IllegalArgumentException" 19 := ⟨[], [⟨0, 16, 23, 15⟩], ⟨0, 16, 19, 13⟩, "java/lang/IllegalArgumentException", rfl, rfl, rfl, by decide, cl_Law_13, by decide, fun z hz => by cases hz⟩
theorem hd_rule_2 : xHd m_Law_rule 11 "java/lang/IllegalStateException" 23 := ⟨[⟨0, 16, 19, 13⟩], [], ⟨0, 16, 23, 15⟩, "java/lang/IllegalStateException", rfl, rfl, rfl, by decide, cl_Law_15, by decide, fun z hz => by
    simp only [List.mem_cons, List.not_mem_nil, or_false] at hz
    rcases hz with rfl
    · exact Or.inr ⟨by decide, "java/lang/IllegalArgumentException", cl_Law_13, by decide⟩⟩
def cd_rule (E : String) : Nat := if E = "java/lang/IllegalArgumentException" then 1 else if E = "java/lang/IllegalStateException" then 2 else 0
theorem sp_Law_rule {P : Nat → Int64 → Nat → (Nat → Nat → Int32) → (Nat → Nat → Int64) → Bool → Prop} {a b c d e : Int32} {g : Nat} {i : Nat → Nat → Int32} {q : Nat → Nat → Int64} {t : Bool} (hk : Wx m_Works_rule 0 [some (.ref 0), some (.int a), some (.int b), some (.int c), some (.int d), some (.int e), none] [] (94, g, i, q, RT t) (1, 6) (WQ (WKi P) (WX cd_rule P))) : Wx m_Law_rule 0 [some (.ref 0), some (.int a), some (.int b), some (.int c), some (.int d), some (.int e), some (.ref 93), none] [] (94, g, i, q, RT t) (1, 6) (fun r M => ∃ v, r = .ok v ∧ WR P v M) := by
  refine ex_aload dL_rule_0 rfl ?_
  refine ex_iconst (v := nI 0) dL_rule_2 (by decide) ?_
  refine ex_aload_n (i := 0) dL_rule_3 rfl rfl ?_
  refine ex_iload_n (i := 1) dL_rule_4 rfl rfl ?_
  refine ex_iload_n (i := 2) dL_rule_5 rfl rfl ?_
  refine ex_iload_n (i := 3) dL_rule_6 rfl rfl ?_
  refine ex_iload dL_rule_7 rfl ?_
  refine ex_iload dL_rule_9 rfl ?_
  refine ex_callX (K := (0, 0)) (a := 0) (ci := 9) (as := [.int (a), .int (b), .int (c), .int (d), .int (e)]) (Qk := WKi P) (X := WX cd_rule P) (by decide) (by decide) dL_rule_11 ln_Law_7 mf_Works_rule rfl (Nat.le_of_ble_eq_true rfl) rfl rfl np_Works_rule rfl (Nat.le_of_ble_eq_true rfl) (Nat.le_of_ble_eq_true rfl) ⟨(Nat.le_of_ble_eq_true rfl), (Nat.le_of_ble_eq_true rfl)⟩ hk ?_ ?_
  · rintro _ _ ⟨x, g', i', q', t', rfl, rfl, hP⟩
    refine ex_i2l dL_rule_14 ?_
    refine ex_lastN dL_rule_15 rfl (by decide) (by decide) ?_
    refine ex_goto (tgt := 27) dL_rule_16 (by decide) ?_
    refine ex_iconst (v := nI 0) dL_rule_27 (by decide) ?_
    refine ex_iret dL_rule_28 rfl rfl ?_
    exact ⟨_, rfl, 0, x.toInt64, g', i', q', t', rfl, rfl, by decide, hP⟩
  · rintro E _ ⟨g', i', q', t', rfl, hC, hP⟩
    unfold cd_rule at hC hP
    by_cases e0 : E = "java/lang/IllegalArgumentException"
    · subst e0
      refine ⟨19, 7, 2, hd_rule_1, by decide, Or.inl ⟨dL_rule_19, rfl⟩, ?_⟩
      rw [if_pos rfl] at hP
      refine ex_iconst (v := nI 1) dL_rule_21 (by decide) ?_
      refine ex_iret dL_rule_22 rfl rfl ?_
      exact ⟨_, rfl, 1, 0, g', i', q', t', rfl, rfl, by decide, hP⟩
    by_cases e1 : E = "java/lang/IllegalStateException"
    · subst e1
      refine ⟨23, 7, 2, hd_rule_2, by decide, Or.inl ⟨dL_rule_23, rfl⟩, ?_⟩
      rw [if_neg (by decide)] at hC hP
      rw [if_pos rfl] at hP
      refine ex_iconst (v := nI 2) dL_rule_25 (by decide) ?_
      refine ex_iret dL_rule_26 rfl rfl ?_
      exact ⟨_, rfl, 2, 0, g', i', q', t', rfl, rfl, by decide, hP⟩
    exfalso
    rw [if_neg e0, if_neg e1] at hC
    exact hC rfl
theorem nc_any_level : True := trivial
theorem hd_level_1 : xHd m_Law_level 7 "java/lang/IllegalArgumentException" 15 := ⟨[], [], ⟨0, 12, 15, 13⟩, "java/lang/IllegalArgumentException", rfl, rfl, rfl, by decide, cl_Law_13, by decide, fun z hz => by cases hz⟩
def cd_level (E : String) : Nat := if E = "java/lang/IllegalArgumentException" then 1 else 0
theorem sp_Law_level {P : Nat → Int64 → Nat → (Nat → Nat → Int32) → (Nat → Nat → Int64) → Bool → Prop} {a b c : Int32} {g : Nat} {i : Nat → Nat → Int32} {q : Nat → Nat → Int64} {t : Bool} (hk : Wx m_Works_level 0 [some (.ref 0), some (.int a), some (.int b), some (.int c), none] [] (94, g, i, q, RT t) (1, 6) (WQ (WKi P) (WX cd_level P))) : Wx m_Law_level 0 [some (.ref 0), some (.int a), some (.int b), some (.int c), some (.ref 93), none] [] (94, g, i, q, RT t) (1, 6) (fun r M => ∃ v, r = .ok v ∧ WR P v M) := by
  refine ex_aload dL_level_0 rfl ?_
  refine ex_iconst (v := nI 0) dL_level_2 (by decide) ?_
  refine ex_aload_n (i := 0) dL_level_3 rfl rfl ?_
  refine ex_iload_n (i := 1) dL_level_4 rfl rfl ?_
  refine ex_iload_n (i := 2) dL_level_5 rfl rfl ?_
  refine ex_iload_n (i := 3) dL_level_6 rfl rfl ?_
  refine ex_callX (K := (0, 0)) (a := 0) (ci := 9) (as := [.int (a), .int (b), .int (c)]) (Qk := WKi P) (X := WX cd_level P) (by decide) (by decide) dL_level_7 ln_Law_17 mf_Works_level rfl (Nat.le_of_ble_eq_true rfl) rfl rfl np_Works_level rfl (Nat.le_of_ble_eq_true rfl) (Nat.le_of_ble_eq_true rfl) ⟨(Nat.le_of_ble_eq_true rfl), (Nat.le_of_ble_eq_true rfl)⟩ hk ?_ ?_
  · rintro _ _ ⟨x, g', i', q', t', rfl, rfl, hP⟩
    refine ex_i2l dL_level_10 ?_
    refine ex_lastN dL_level_11 rfl (by decide) (by decide) ?_
    refine ex_goto (tgt := 19) dL_level_12 (by decide) ?_
    refine ex_iconst (v := nI 0) dL_level_19 (by decide) ?_
    refine ex_iret dL_level_20 rfl rfl ?_
    exact ⟨_, rfl, 0, x.toInt64, g', i', q', t', rfl, rfl, by decide, hP⟩
  · rintro E _ ⟨g', i', q', t', rfl, hC, hP⟩
    unfold cd_level at hC hP
    by_cases e0 : E = "java/lang/IllegalArgumentException"
    · subst e0
      refine ⟨15, 5, 2, hd_level_1, by decide, Or.inl ⟨dL_level_15, rfl⟩, ?_⟩
      rw [if_pos rfl] at hP
      refine ex_iconst (v := nI 1) dL_level_17 (by decide) ?_
      refine ex_iret dL_level_18 rfl rfl ?_
      exact ⟨_, rfl, 1, 0, g', i', q', t', rfl, rfl, by decide, hP⟩
    exfalso
    rw [if_neg e0] at hC
    exact hC rfl
theorem nc_any_equation : True := trivial
theorem hd_equation_1 : xHd m_Law_equation 11 "java/util/NoSuchElementException" 19 := ⟨[], [⟨0, 16, 23, 13⟩], ⟨0, 16, 19, 24⟩, "java/util/NoSuchElementException", rfl, rfl, rfl, by decide, cl_Law_24, by decide, fun z hz => by cases hz⟩
theorem hd_equation_2 : xHd m_Law_equation 11 "java/lang/IllegalArgumentException" 23 := ⟨[⟨0, 16, 19, 24⟩], [], ⟨0, 16, 23, 13⟩, "java/lang/IllegalArgumentException", rfl, rfl, rfl, by decide, cl_Law_13, by decide, fun z hz => by
    simp only [List.mem_cons, List.not_mem_nil, or_false] at hz
    rcases hz with rfl
    · exact Or.inr ⟨by decide, "java/util/NoSuchElementException", cl_Law_24, by decide⟩⟩
def cd_equation (E : String) : Nat := if E = "java/util/NoSuchElementException" then 1 else if E = "java/lang/IllegalArgumentException" then 2 else 0
theorem sp_Law_equation {P : Nat → Int64 → Nat → (Nat → Nat → Int32) → (Nat → Nat → Int64) → Bool → Prop} {a b c d e : Int32} {g : Nat} {i : Nat → Nat → Int32} {q : Nat → Nat → Int64} {t : Bool} (hk : Wx m_Works_equation 0 [some (.ref 0), some (.int a), some (.int b), some (.int c), some (.int d), some (.int e)] [] (94, g, i, q, RT t) (1, 6) (WQ (WKi P) (WX cd_equation P))) : Wx m_Law_equation 0 [some (.ref 0), some (.int a), some (.int b), some (.int c), some (.int d), some (.int e), some (.ref 93), none] [] (94, g, i, q, RT t) (1, 6) (fun r M => ∃ v, r = .ok v ∧ WR P v M) := by
  refine ex_aload dL_equation_0 rfl ?_
  refine ex_iconst (v := nI 0) dL_equation_2 (by decide) ?_
  refine ex_aload_n (i := 0) dL_equation_3 rfl rfl ?_
  refine ex_iload_n (i := 1) dL_equation_4 rfl rfl ?_
  refine ex_iload_n (i := 2) dL_equation_5 rfl rfl ?_
  refine ex_iload_n (i := 3) dL_equation_6 rfl rfl ?_
  refine ex_iload dL_equation_7 rfl ?_
  refine ex_iload dL_equation_9 rfl ?_
  refine ex_callX (K := (0, 0)) (a := 0) (ci := 9) (as := [.int (a), .int (b), .int (c), .int (d), .int (e)]) (Qk := WKi P) (X := WX cd_equation P) (by decide) (by decide) dL_equation_11 ln_Law_21 mf_Works_equation rfl (Nat.le_of_ble_eq_true rfl) rfl rfl np_Works_equation rfl (Nat.le_of_ble_eq_true rfl) (Nat.le_of_ble_eq_true rfl) ⟨(Nat.le_of_ble_eq_true rfl), (Nat.le_of_ble_eq_true rfl)⟩ hk ?_ ?_
  · rintro _ _ ⟨x, g', i', q', t', rfl, rfl, hP⟩
    refine ex_i2l dL_equation_14 ?_
    refine ex_lastN dL_equation_15 rfl (by decide) (by decide) ?_
    refine ex_goto (tgt := 27) dL_equation_16 (by decide) ?_
    refine ex_iconst (v := nI 0) dL_equation_27 (by decide) ?_
    refine ex_iret dL_equation_28 rfl rfl ?_
    exact ⟨_, rfl, 0, x.toInt64, g', i', q', t', rfl, rfl, by decide, hP⟩
  · rintro E _ ⟨g', i', q', t', rfl, hC, hP⟩
    unfold cd_equation at hC hP
    by_cases e0 : E = "java/util/NoSuchElementException"
    · subst e0
      refine ⟨19, 7, 2, hd_equation_1, by decide, Or.inl ⟨dL_equation_19, rfl⟩, ?_⟩
      rw [if_pos rfl] at hP
      refine ex_iconst (v := nI 1) dL_equation_21 (by decide) ?_
      refine ex_iret dL_equation_22 rfl rfl ?_
      exact ⟨_, rfl, 1, 0, g', i', q', t', rfl, rfl, by decide, hP⟩
    by_cases e1 : E = "java/lang/IllegalArgumentException"
    · subst e1
      refine ⟨23, 7, 2, hd_equation_2, by decide, Or.inl ⟨dL_equation_23, rfl⟩, ?_⟩
      rw [if_neg (by decide)] at hC hP
      rw [if_pos rfl] at hP
      refine ex_iconst (v := nI 2) dL_equation_25 (by decide) ?_
      refine ex_iret dL_equation_26 rfl rfl ?_
      exact ⟨_, rfl, 2, 0, g', i', q', t', rfl, rfl, by decide, hP⟩
    exfalso
    rw [if_neg e0, if_neg e1] at hC
    exact hC rfl
theorem nc_any_build : True := trivial
theorem hd_build_1 : xHd m_Law_build 3 "java/lang/IllegalStateException" 11 := ⟨[], [⟨0, 8, 14, 30⟩], ⟨0, 8, 11, 15⟩, "java/lang/IllegalStateException", rfl, rfl, rfl, by decide, cl_Law_15, by decide, fun z hz => by cases hz⟩
theorem hd_build_2 : xHd m_Law_build 3 "java/lang/UnsupportedOperationException" 14 := ⟨[⟨0, 8, 11, 15⟩], [], ⟨0, 8, 14, 30⟩, "java/lang/UnsupportedOperationException", rfl, rfl, rfl, by decide, cl_Law_30, by decide, fun z hz => by
    simp only [List.mem_cons, List.not_mem_nil, or_false] at hz
    rcases hz with rfl
    · exact Or.inr ⟨by decide, "java/lang/IllegalStateException", cl_Law_15, by decide⟩⟩
def cd_build (E : String) : Nat := if E = "java/lang/IllegalStateException" then 1 else if E = "java/lang/UnsupportedOperationException" then 2 else 0
theorem sp_Law_build {P : Nat → Int64 → Nat → (Nat → Nat → Int32) → (Nat → Nat → Int64) → Bool → Prop} {zz : Int32} {g : Nat} {i : Nat → Nat → Int32} {q : Nat → Nat → Int64} {t : Bool} (hk : Wx m_Works_build 0 [some (.ref 0)] [] (94, g, i, q, RT t) (1, 6) (WQ (WKi P) (WX cd_build P))) : Wx m_Law_build 0 [some (.ref 0), some (.ref 93), none] [] (94, g, i, q, RT t) (1, 6) (fun r M => ∃ v, r = .ok v ∧ WR P v M) := by
  refine ex_aload_n (i := 1) dL_build_0 rfl rfl ?_
  refine ex_iconst (v := nI 0) dL_build_1 (by decide) ?_
  refine ex_aload_n (i := 0) dL_build_2 rfl rfl ?_
  refine ex_callX (K := (0, 0)) (a := 0) (ci := 9) (as := []) (Qk := WKi P) (X := WX cd_build P) (by decide) (by decide) dL_build_3 ln_Law_26 mf_Works_build rfl (Nat.le_of_ble_eq_true rfl) rfl rfl np_Works_build rfl (Nat.le_of_ble_eq_true rfl) (Nat.le_of_ble_eq_true rfl) ⟨(Nat.le_of_ble_eq_true rfl), (Nat.le_of_ble_eq_true rfl)⟩ hk ?_ ?_
  · rintro _ _ ⟨x, g', i', q', t', rfl, rfl, hP⟩
    refine ex_i2l dL_build_6 ?_
    refine ex_lastN dL_build_7 rfl (by decide) (by decide) ?_
    refine ex_goto (tgt := 17) dL_build_8 (by decide) ?_
    refine ex_iconst (v := nI 0) dL_build_17 (by decide) ?_
    refine ex_iret dL_build_18 rfl rfl ?_
    exact ⟨_, rfl, 0, x.toInt64, g', i', q', t', rfl, rfl, by decide, hP⟩
  · rintro E _ ⟨g', i', q', t', rfl, hC, hP⟩
    unfold cd_build at hC hP
    by_cases e0 : E = "java/lang/IllegalStateException"
    · subst e0
      refine ⟨11, 2, 1, hd_build_1, by decide, Or.inr ⟨2, rfl, dL_build_11, rfl⟩, ?_⟩
      rw [if_pos rfl] at hP
      refine ex_iconst (v := nI 1) dL_build_12 (by decide) ?_
      refine ex_iret dL_build_13 rfl rfl ?_
      exact ⟨_, rfl, 1, 0, g', i', q', t', rfl, rfl, by decide, hP⟩
    by_cases e1 : E = "java/lang/UnsupportedOperationException"
    · subst e1
      refine ⟨14, 2, 1, hd_build_2, by decide, Or.inr ⟨2, rfl, dL_build_14, rfl⟩, ?_⟩
      rw [if_neg (by decide)] at hC hP
      rw [if_pos rfl] at hP
      refine ex_iconst (v := nI 2) dL_build_15 (by decide) ?_
      refine ex_iret dL_build_16 rfl rfl ?_
      exact ⟨_, rfl, 2, 0, g', i', q', t', rfl, rfl, by decide, hP⟩
    exfalso
    rw [if_neg e0, if_neg e1] at hC
    exact hC rfl
theorem nc_any_first : True := trivial
theorem hd_first_1 : xHd m_Law_first 4 "java/lang/IllegalArgumentException" 12 := ⟨[], [], ⟨0, 9, 12, 13⟩, "java/lang/IllegalArgumentException", rfl, rfl, rfl, by decide, cl_Law_13, by decide, fun z hz => by cases hz⟩
def cd_first (E : String) : Nat := if E = "java/lang/IllegalArgumentException" then 1 else 0
theorem sp_Law_first {P : Nat → Int64 → Nat → (Nat → Nat → Int32) → (Nat → Nat → Int64) → Bool → Prop} {a : Int32} {g : Nat} {i : Nat → Nat → Int32} {q : Nat → Nat → Int64} {t : Bool} (hk : Wx m_Works_first 0 [some (.ref 0), some (.int a)] [] (94, g, i, q, RT t) (1, 6) (WQ (WKi P) (WX cd_first P))) : Wx m_Law_first 0 [some (.ref 0), some (.int a), some (.ref 93), none] [] (94, g, i, q, RT t) (1, 6) (fun r M => ∃ v, r = .ok v ∧ WR P v M) := by
  refine ex_aload_n (i := 2) dL_first_0 rfl rfl ?_
  refine ex_iconst (v := nI 0) dL_first_1 (by decide) ?_
  refine ex_aload_n (i := 0) dL_first_2 rfl rfl ?_
  refine ex_iload_n (i := 1) dL_first_3 rfl rfl ?_
  refine ex_callX (K := (0, 0)) (a := 0) (ci := 9) (as := [.int (a)]) (Qk := WKi P) (X := WX cd_first P) (by decide) (by decide) dL_first_4 ln_Law_32 mf_Works_first rfl (Nat.le_of_ble_eq_true rfl) rfl rfl np_Works_first rfl (Nat.le_of_ble_eq_true rfl) (Nat.le_of_ble_eq_true rfl) ⟨(Nat.le_of_ble_eq_true rfl), (Nat.le_of_ble_eq_true rfl)⟩ hk ?_ ?_
  · rintro _ _ ⟨x, g', i', q', t', rfl, rfl, hP⟩
    refine ex_i2l dL_first_7 ?_
    refine ex_lastN dL_first_8 rfl (by decide) (by decide) ?_
    refine ex_goto (tgt := 15) dL_first_9 (by decide) ?_
    refine ex_iconst (v := nI 0) dL_first_15 (by decide) ?_
    refine ex_iret dL_first_16 rfl rfl ?_
    exact ⟨_, rfl, 0, x.toInt64, g', i', q', t', rfl, rfl, by decide, hP⟩
  · rintro E _ ⟨g', i', q', t', rfl, hC, hP⟩
    unfold cd_first at hC hP
    by_cases e0 : E = "java/lang/IllegalArgumentException"
    · subst e0
      refine ⟨12, 3, 1, hd_first_1, by decide, Or.inr ⟨3, rfl, dL_first_12, rfl⟩, ?_⟩
      rw [if_pos rfl] at hP
      refine ex_iconst (v := nI 1) dL_first_13 (by decide) ?_
      refine ex_iret dL_first_14 rfl rfl ?_
      exact ⟨_, rfl, 1, 0, g', i', q', t', rfl, rfl, by decide, hP⟩
    exfalso
    rw [if_neg e0] at hC
    exact hC rfl
theorem nc_any_action : True := trivial
theorem hd_action_1 : xHd m_Law_action 5 "java/lang/IllegalStateException" 13 := ⟨[], [⟨0, 10, 17, 13⟩], ⟨0, 10, 13, 15⟩, "java/lang/IllegalStateException", rfl, rfl, rfl, by decide, cl_Law_15, by decide, fun z hz => by cases hz⟩
theorem hd_action_2 : xHd m_Law_action 5 "java/lang/IllegalArgumentException" 17 := ⟨[⟨0, 10, 13, 15⟩], [], ⟨0, 10, 17, 13⟩, "java/lang/IllegalArgumentException", rfl, rfl, rfl, by decide, cl_Law_13, by decide, fun z hz => by
    simp only [List.mem_cons, List.not_mem_nil, or_false] at hz
    rcases hz with rfl
    · exact Or.inr ⟨by decide, "java/lang/IllegalStateException", cl_Law_15, by decide⟩⟩
def cd_action (E : String) : Nat := if E = "java/lang/IllegalStateException" then 1 else if E = "java/lang/IllegalArgumentException" then 2 else 0
theorem sp_Law_action {P : Nat → Int64 → Nat → (Nat → Nat → Int32) → (Nat → Nat → Int64) → Bool → Prop} {a b : Int32} {g : Nat} {i : Nat → Nat → Int32} {q : Nat → Nat → Int64} {t : Bool} (hk : Wx m_Works_action 0 [some (.ref 0), some (.int a), some (.int b)] [] (94, g, i, q, RT t) (1, 6) (WQ (WKi P) (WX cd_action P))) : Wx m_Law_action 0 [some (.ref 0), some (.int a), some (.int b), some (.ref 93), none] [] (94, g, i, q, RT t) (1, 6) (fun r M => ∃ v, r = .ok v ∧ WR P v M) := by
  refine ex_aload_n (i := 3) dL_action_0 rfl rfl ?_
  refine ex_iconst (v := nI 0) dL_action_1 (by decide) ?_
  refine ex_aload_n (i := 0) dL_action_2 rfl rfl ?_
  refine ex_iload_n (i := 1) dL_action_3 rfl rfl ?_
  refine ex_iload_n (i := 2) dL_action_4 rfl rfl ?_
  refine ex_callX (K := (0, 0)) (a := 0) (ci := 9) (as := [.int (a), .int (b)]) (Qk := WKi P) (X := WX cd_action P) (by decide) (by decide) dL_action_5 ln_Law_36 mf_Works_action rfl (Nat.le_of_ble_eq_true rfl) rfl rfl np_Works_action rfl (Nat.le_of_ble_eq_true rfl) (Nat.le_of_ble_eq_true rfl) ⟨(Nat.le_of_ble_eq_true rfl), (Nat.le_of_ble_eq_true rfl)⟩ hk ?_ ?_
  · rintro _ _ ⟨x, g', i', q', t', rfl, rfl, hP⟩
    refine ex_i2l dL_action_8 ?_
    refine ex_lastN dL_action_9 rfl (by decide) (by decide) ?_
    refine ex_goto (tgt := 21) dL_action_10 (by decide) ?_
    refine ex_iconst (v := nI 0) dL_action_21 (by decide) ?_
    refine ex_iret dL_action_22 rfl rfl ?_
    exact ⟨_, rfl, 0, x.toInt64, g', i', q', t', rfl, rfl, by decide, hP⟩
  · rintro E _ ⟨g', i', q', t', rfl, hC, hP⟩
    unfold cd_action at hC hP
    by_cases e0 : E = "java/lang/IllegalStateException"
    · subst e0
      refine ⟨13, 4, 2, hd_action_1, by decide, Or.inl ⟨dL_action_13, rfl⟩, ?_⟩
      rw [if_pos rfl] at hP
      refine ex_iconst (v := nI 1) dL_action_15 (by decide) ?_
      refine ex_iret dL_action_16 rfl rfl ?_
      exact ⟨_, rfl, 1, 0, g', i', q', t', rfl, rfl, by decide, hP⟩
    by_cases e1 : E = "java/lang/IllegalArgumentException"
    · subst e1
      refine ⟨17, 4, 2, hd_action_2, by decide, Or.inl ⟨dL_action_17, rfl⟩, ?_⟩
      rw [if_neg (by decide)] at hC hP
      rw [if_pos rfl] at hP
      refine ex_iconst (v := nI 2) dL_action_19 (by decide) ?_
      refine ex_iret dL_action_20 rfl rfl ?_
      exact ⟨_, rfl, 2, 0, g', i', q', t', rfl, rfl, by decide, hP⟩
    exfalso
    rw [if_neg e0, if_neg e1] at hC
    exact hC rfl
theorem nc_any_go : True := trivial
theorem hd_go_1 : xHd m_Law_go 5 "java/lang/IllegalStateException" 13 := ⟨[], [⟨0, 10, 17, 13⟩], ⟨0, 10, 13, 15⟩, "java/lang/IllegalStateException", rfl, rfl, rfl, by decide, cl_Law_15, by decide, fun z hz => by cases hz⟩
theorem hd_go_2 : xHd m_Law_go 5 "java/lang/IllegalArgumentException" 17 := ⟨[⟨0, 10, 13, 15⟩], [], ⟨0, 10, 17, 13⟩, "java/lang/IllegalArgumentException", rfl, rfl, rfl, by decide, cl_Law_13, by decide, fun z hz => by
    simp only [List.mem_cons, List.not_mem_nil, or_false] at hz
    rcases hz with rfl
    · exact Or.inr ⟨by decide, "java/lang/IllegalStateException", cl_Law_15, by decide⟩⟩
def cd_go (E : String) : Nat := if E = "java/lang/IllegalStateException" then 1 else if E = "java/lang/IllegalArgumentException" then 2 else 0
theorem sp_Law_go {P : Nat → Int64 → Nat → (Nat → Nat → Int32) → (Nat → Nat → Int64) → Bool → Prop} {a b : Int32} {g : Nat} {i : Nat → Nat → Int32} {q : Nat → Nat → Int64} {t : Bool} (hk : Wx m_Works_go 0 [some (.ref 0), some (.int a), some (.int b)] [] (94, g, i, q, RT t) (1, 6) (WQ (WKi P) (WX cd_go P))) : Wx m_Law_go 0 [some (.ref 0), some (.int a), some (.int b), some (.ref 93), none] [] (94, g, i, q, RT t) (1, 6) (fun r M => ∃ v, r = .ok v ∧ WR P v M) := by
  refine ex_aload_n (i := 3) dL_go_0 rfl rfl ?_
  refine ex_iconst (v := nI 0) dL_go_1 (by decide) ?_
  refine ex_aload_n (i := 0) dL_go_2 rfl rfl ?_
  refine ex_iload_n (i := 1) dL_go_3 rfl rfl ?_
  refine ex_iload_n (i := 2) dL_go_4 rfl rfl ?_
  refine ex_callX (K := (0, 0)) (a := 0) (ci := 9) (as := [.int (a), .int (b)]) (Qk := WKi P) (X := WX cd_go P) (by decide) (by decide) dL_go_5 ln_Law_40 mf_Works_go rfl (Nat.le_of_ble_eq_true rfl) rfl rfl np_Works_go rfl (Nat.le_of_ble_eq_true rfl) (Nat.le_of_ble_eq_true rfl) ⟨(Nat.le_of_ble_eq_true rfl), (Nat.le_of_ble_eq_true rfl)⟩ hk ?_ ?_
  · rintro _ _ ⟨x, g', i', q', t', rfl, rfl, hP⟩
    refine ex_i2l dL_go_8 ?_
    refine ex_lastN dL_go_9 rfl (by decide) (by decide) ?_
    refine ex_goto (tgt := 21) dL_go_10 (by decide) ?_
    refine ex_iconst (v := nI 0) dL_go_21 (by decide) ?_
    refine ex_iret dL_go_22 rfl rfl ?_
    exact ⟨_, rfl, 0, x.toInt64, g', i', q', t', rfl, rfl, by decide, hP⟩
  · rintro E _ ⟨g', i', q', t', rfl, hC, hP⟩
    unfold cd_go at hC hP
    by_cases e0 : E = "java/lang/IllegalStateException"
    · subst e0
      refine ⟨13, 4, 2, hd_go_1, by decide, Or.inl ⟨dL_go_13, rfl⟩, ?_⟩
      rw [if_pos rfl] at hP
      refine ex_iconst (v := nI 1) dL_go_15 (by decide) ?_
      refine ex_iret dL_go_16 rfl rfl ?_
      exact ⟨_, rfl, 1, 0, g', i', q', t', rfl, rfl, by decide, hP⟩
    by_cases e1 : E = "java/lang/IllegalArgumentException"
    · subst e1
      refine ⟨17, 4, 2, hd_go_2, by decide, Or.inl ⟨dL_go_17, rfl⟩, ?_⟩
      rw [if_neg (by decide)] at hC hP
      rw [if_pos rfl] at hP
      refine ex_iconst (v := nI 2) dL_go_19 (by decide) ?_
      refine ex_iret dL_go_20 rfl rfl ?_
      exact ⟨_, rfl, 2, 0, g', i', q', t', rfl, rfl, by decide, hP⟩
    exfalso
    rw [if_neg e0, if_neg e1] at hC
    exact hC rfl
theorem nc_any_lookaheads : True := trivial
theorem hd_lookaheads_1 : xHd m_Law_lookaheads 5 "java/lang/IllegalStateException" 13 := ⟨[], [⟨0, 10, 17, 13⟩, ⟨0, 10, 21, 24⟩], ⟨0, 10, 13, 15⟩, "java/lang/IllegalStateException", rfl, rfl, rfl, by decide, cl_Law_15, by decide, fun z hz => by cases hz⟩
theorem hd_lookaheads_2 : xHd m_Law_lookaheads 5 "java/lang/IllegalArgumentException" 17 := ⟨[⟨0, 10, 13, 15⟩], [⟨0, 10, 21, 24⟩], ⟨0, 10, 17, 13⟩, "java/lang/IllegalArgumentException", rfl, rfl, rfl, by decide, cl_Law_13, by decide, fun z hz => by
    simp only [List.mem_cons, List.not_mem_nil, or_false] at hz
    rcases hz with rfl
    · exact Or.inr ⟨by decide, "java/lang/IllegalStateException", cl_Law_15, by decide⟩⟩
theorem hd_lookaheads_3 : xHd m_Law_lookaheads 5 "java/util/NoSuchElementException" 21 := ⟨[⟨0, 10, 13, 15⟩, ⟨0, 10, 17, 13⟩], [], ⟨0, 10, 21, 24⟩, "java/util/NoSuchElementException", rfl, rfl, rfl, by decide, cl_Law_24, by decide, fun z hz => by
    simp only [List.mem_cons, List.not_mem_nil, or_false] at hz
    rcases hz with rfl | rfl
    · exact Or.inr ⟨by decide, "java/lang/IllegalStateException", cl_Law_15, by decide⟩
    · exact Or.inr ⟨by decide, "java/lang/IllegalArgumentException", cl_Law_13, by decide⟩⟩
def cd_lookaheads (E : String) : Nat := if E = "java/lang/IllegalStateException" then 1 else if E = "java/lang/IllegalArgumentException" then 2 else if E = "java/util/NoSuchElementException" then 3 else 0
theorem sp_Law_lookaheads {P : Nat → Int64 → Nat → (Nat → Nat → Int32) → (Nat → Nat → Int64) → Bool → Prop} {a b : Int32} {g : Nat} {i : Nat → Nat → Int32} {q : Nat → Nat → Int64} {t : Bool} (hk : Wx m_Works_lookaheads 0 [some (.ref 0), some (.int a), some (.int b)] [] (94, g, i, q, RT t) (1, 6) (WQ (WKi P) (WX cd_lookaheads P))) : Wx m_Law_lookaheads 0 [some (.ref 0), some (.int a), some (.int b), some (.ref 93), none] [] (94, g, i, q, RT t) (1, 6) (fun r M => ∃ v, r = .ok v ∧ WR P v M) := by
  refine ex_aload_n (i := 3) dL_lookaheads_0 rfl rfl ?_
  refine ex_iconst (v := nI 0) dL_lookaheads_1 (by decide) ?_
  refine ex_aload_n (i := 0) dL_lookaheads_2 rfl rfl ?_
  refine ex_iload_n (i := 1) dL_lookaheads_3 rfl rfl ?_
  refine ex_iload_n (i := 2) dL_lookaheads_4 rfl rfl ?_
  refine ex_callX (K := (0, 0)) (a := 0) (ci := 9) (as := [.int (a), .int (b)]) (Qk := WKi P) (X := WX cd_lookaheads P) (by decide) (by decide) dL_lookaheads_5 ln_Law_43 mf_Works_lookaheads rfl (Nat.le_of_ble_eq_true rfl) rfl rfl np_Works_lookaheads rfl (Nat.le_of_ble_eq_true rfl) (Nat.le_of_ble_eq_true rfl) ⟨(Nat.le_of_ble_eq_true rfl), (Nat.le_of_ble_eq_true rfl)⟩ hk ?_ ?_
  · rintro _ _ ⟨x, g', i', q', t', rfl, rfl, hP⟩
    refine ex_i2l dL_lookaheads_8 ?_
    refine ex_lastN dL_lookaheads_9 rfl (by decide) (by decide) ?_
    refine ex_goto (tgt := 25) dL_lookaheads_10 (by decide) ?_
    refine ex_iconst (v := nI 0) dL_lookaheads_25 (by decide) ?_
    refine ex_iret dL_lookaheads_26 rfl rfl ?_
    exact ⟨_, rfl, 0, x.toInt64, g', i', q', t', rfl, rfl, by decide, hP⟩
  · rintro E _ ⟨g', i', q', t', rfl, hC, hP⟩
    unfold cd_lookaheads at hC hP
    by_cases e0 : E = "java/lang/IllegalStateException"
    · subst e0
      refine ⟨13, 4, 2, hd_lookaheads_1, by decide, Or.inl ⟨dL_lookaheads_13, rfl⟩, ?_⟩
      rw [if_pos rfl] at hP
      refine ex_iconst (v := nI 1) dL_lookaheads_15 (by decide) ?_
      refine ex_iret dL_lookaheads_16 rfl rfl ?_
      exact ⟨_, rfl, 1, 0, g', i', q', t', rfl, rfl, by decide, hP⟩
    by_cases e1 : E = "java/lang/IllegalArgumentException"
    · subst e1
      refine ⟨17, 4, 2, hd_lookaheads_2, by decide, Or.inl ⟨dL_lookaheads_17, rfl⟩, ?_⟩
      rw [if_neg (by decide)] at hC hP
      rw [if_pos rfl] at hP
      refine ex_iconst (v := nI 2) dL_lookaheads_19 (by decide) ?_
      refine ex_iret dL_lookaheads_20 rfl rfl ?_
      exact ⟨_, rfl, 2, 0, g', i', q', t', rfl, rfl, by decide, hP⟩
    by_cases e2 : E = "java/util/NoSuchElementException"
    · subst e2
      refine ⟨21, 4, 2, hd_lookaheads_3, by decide, Or.inl ⟨dL_lookaheads_21, rfl⟩, ?_⟩
      rw [if_neg (by decide)] at hC hP
      rw [if_neg (by decide)] at hC hP
      rw [if_pos rfl] at hP
      refine ex_iconst (v := nI 3) dL_lookaheads_23 (by decide) ?_
      refine ex_iret dL_lookaheads_24 rfl rfl ?_
      exact ⟨_, rfl, 3, 0, g', i', q', t', rfl, rfl, by decide, hP⟩
    exfalso
    rw [if_neg e0, if_neg e1, if_neg e2] at hC
    exact hC rfl
theorem nc_any_token : True := trivial
theorem hd_token_1 : xHd m_Law_token 5 "java/lang/IllegalArgumentException" 13 := ⟨[], [⟨0, 10, 17, 15⟩], ⟨0, 10, 13, 13⟩, "java/lang/IllegalArgumentException", rfl, rfl, rfl, by decide, cl_Law_13, by decide, fun z hz => by cases hz⟩
theorem hd_token_2 : xHd m_Law_token 5 "java/lang/IllegalStateException" 17 := ⟨[⟨0, 10, 13, 13⟩], [], ⟨0, 10, 17, 15⟩, "java/lang/IllegalStateException", rfl, rfl, rfl, by decide, cl_Law_15, by decide, fun z hz => by
    simp only [List.mem_cons, List.not_mem_nil, or_false] at hz
    rcases hz with rfl
    · exact Or.inr ⟨by decide, "java/lang/IllegalArgumentException", cl_Law_13, by decide⟩⟩
def cd_token (E : String) : Nat := if E = "java/lang/IllegalArgumentException" then 1 else if E = "java/lang/IllegalStateException" then 2 else 0
theorem sp_Law_token {P : Nat → Int64 → Nat → (Nat → Nat → Int32) → (Nat → Nat → Int64) → Bool → Prop} {a b : Int32} {g : Nat} {i : Nat → Nat → Int32} {q : Nat → Nat → Int64} {t : Bool} (hk : Wx m_Works_token 0 [some (.ref 0), some (.int a), some (.int b)] [] (94, g, i, q, RT t) (1, 6) (WQ (WKi P) (WX cd_token P))) : Wx m_Law_token 0 [some (.ref 0), some (.int a), some (.int b), some (.ref 93), none] [] (94, g, i, q, RT t) (1, 6) (fun r M => ∃ v, r = .ok v ∧ WR P v M) := by
  refine ex_aload_n (i := 3) dL_token_0 rfl rfl ?_
  refine ex_iconst (v := nI 0) dL_token_1 (by decide) ?_
  refine ex_aload_n (i := 0) dL_token_2 rfl rfl ?_
  refine ex_iload_n (i := 1) dL_token_3 rfl rfl ?_
  refine ex_iload_n (i := 2) dL_token_4 rfl rfl ?_
  refine ex_callX (K := (0, 0)) (a := 0) (ci := 9) (as := [.int (a), .int (b)]) (Qk := WKi P) (X := WX cd_token P) (by decide) (by decide) dL_token_5 ln_Law_46 mf_Works_token rfl (Nat.le_of_ble_eq_true rfl) rfl rfl np_Works_token rfl (Nat.le_of_ble_eq_true rfl) (Nat.le_of_ble_eq_true rfl) ⟨(Nat.le_of_ble_eq_true rfl), (Nat.le_of_ble_eq_true rfl)⟩ hk ?_ ?_
  · rintro _ _ ⟨x, g', i', q', t', rfl, rfl, hP⟩
    refine ex_i2l dL_token_8 ?_
    refine ex_lastN dL_token_9 rfl (by decide) (by decide) ?_
    refine ex_goto (tgt := 21) dL_token_10 (by decide) ?_
    refine ex_iconst (v := nI 0) dL_token_21 (by decide) ?_
    refine ex_iret dL_token_22 rfl rfl ?_
    exact ⟨_, rfl, 0, x.toInt64, g', i', q', t', rfl, rfl, by decide, hP⟩
  · rintro E _ ⟨g', i', q', t', rfl, hC, hP⟩
    unfold cd_token at hC hP
    by_cases e0 : E = "java/lang/IllegalArgumentException"
    · subst e0
      refine ⟨13, 4, 2, hd_token_1, by decide, Or.inl ⟨dL_token_13, rfl⟩, ?_⟩
      rw [if_pos rfl] at hP
      refine ex_iconst (v := nI 1) dL_token_15 (by decide) ?_
      refine ex_iret dL_token_16 rfl rfl ?_
      exact ⟨_, rfl, 1, 0, g', i', q', t', rfl, rfl, by decide, hP⟩
    by_cases e1 : E = "java/lang/IllegalStateException"
    · subst e1
      refine ⟨17, 4, 2, hd_token_2, by decide, Or.inl ⟨dL_token_17, rfl⟩, ?_⟩
      rw [if_neg (by decide)] at hC hP
      rw [if_pos rfl] at hP
      refine ex_iconst (v := nI 2) dL_token_19 (by decide) ?_
      refine ex_iret dL_token_20 rfl rfl ?_
      exact ⟨_, rfl, 2, 0, g', i', q', t', rfl, rfl, by decide, hP⟩
    exfalso
    rw [if_neg e0, if_neg e1] at hC
    exact hC rfl
theorem nc_any_parse : True := trivial
theorem hd_parse_1 : xHd m_Law_parse 3 "java/lang/IllegalStateException" 11 := ⟨[], [⟨0, 8, 14, 30⟩, ⟨0, 8, 17, 13⟩], ⟨0, 8, 11, 15⟩, "java/lang/IllegalStateException", rfl, rfl, rfl, by decide, cl_Law_15, by decide, fun z hz => by cases hz⟩
theorem hd_parse_2 : xHd m_Law_parse 3 "java/lang/UnsupportedOperationException" 14 := ⟨[⟨0, 8, 11, 15⟩], [⟨0, 8, 17, 13⟩], ⟨0, 8, 14, 30⟩, "java/lang/UnsupportedOperationException", rfl, rfl, rfl, by decide, cl_Law_30, by decide, fun z hz => by
    simp only [List.mem_cons, List.not_mem_nil, or_false] at hz
    rcases hz with rfl
    · exact Or.inr ⟨by decide, "java/lang/IllegalStateException", cl_Law_15, by decide⟩⟩
theorem hd_parse_3 : xHd m_Law_parse 3 "java/lang/IllegalArgumentException" 17 := ⟨[⟨0, 8, 11, 15⟩, ⟨0, 8, 14, 30⟩], [], ⟨0, 8, 17, 13⟩, "java/lang/IllegalArgumentException", rfl, rfl, rfl, by decide, cl_Law_13, by decide, fun z hz => by
    simp only [List.mem_cons, List.not_mem_nil, or_false] at hz
    rcases hz with rfl | rfl
    · exact Or.inr ⟨by decide, "java/lang/IllegalStateException", cl_Law_15, by decide⟩
    · exact Or.inr ⟨by decide, "java/lang/UnsupportedOperationException", cl_Law_30, by decide⟩⟩
def cd_parse (E : String) : Nat := if E = "java/lang/IllegalStateException" then 1 else if E = "java/lang/UnsupportedOperationException" then 2 else if E = "java/lang/IllegalArgumentException" then 3 else 0
theorem sp_Law_parse {P : Nat → Int64 → Nat → (Nat → Nat → Int32) → (Nat → Nat → Int64) → Bool → Prop} {zz : Int32} {g : Nat} {i : Nat → Nat → Int32} {q : Nat → Nat → Int64} {t : Bool} (hk : Wx m_Works_parse 0 [some (.ref 0), none, none] [] (94, g, i, q, RT t) (1, 6) (WQ (WKi P) (WX cd_parse P))) : Wx m_Law_parse 0 [some (.ref 0), some (.ref 93), none] [] (94, g, i, q, RT t) (1, 6) (fun r M => ∃ v, r = .ok v ∧ WR P v M) := by
  refine ex_aload_n (i := 1) dL_parse_0 rfl rfl ?_
  refine ex_iconst (v := nI 0) dL_parse_1 (by decide) ?_
  refine ex_aload_n (i := 0) dL_parse_2 rfl rfl ?_
  refine ex_callX (K := (0, 0)) (a := 0) (ci := 9) (as := []) (Qk := WKi P) (X := WX cd_parse P) (by decide) (by decide) dL_parse_3 ln_Law_49 mf_Works_parse rfl (Nat.le_of_ble_eq_true rfl) rfl rfl np_Works_parse rfl (Nat.le_of_ble_eq_true rfl) (Nat.le_of_ble_eq_true rfl) ⟨(Nat.le_of_ble_eq_true rfl), (Nat.le_of_ble_eq_true rfl)⟩ hk ?_ ?_
  · rintro _ _ ⟨x, g', i', q', t', rfl, rfl, hP⟩
    refine ex_i2l dL_parse_6 ?_
    refine ex_lastN dL_parse_7 rfl (by decide) (by decide) ?_
    refine ex_goto (tgt := 20) dL_parse_8 (by decide) ?_
    refine ex_iconst (v := nI 0) dL_parse_20 (by decide) ?_
    refine ex_iret dL_parse_21 rfl rfl ?_
    exact ⟨_, rfl, 0, x.toInt64, g', i', q', t', rfl, rfl, by decide, hP⟩
  · rintro E _ ⟨g', i', q', t', rfl, hC, hP⟩
    unfold cd_parse at hC hP
    by_cases e0 : E = "java/lang/IllegalStateException"
    · subst e0
      refine ⟨11, 2, 1, hd_parse_1, by decide, Or.inr ⟨2, rfl, dL_parse_11, rfl⟩, ?_⟩
      rw [if_pos rfl] at hP
      refine ex_iconst (v := nI 1) dL_parse_12 (by decide) ?_
      refine ex_iret dL_parse_13 rfl rfl ?_
      exact ⟨_, rfl, 1, 0, g', i', q', t', rfl, rfl, by decide, hP⟩
    by_cases e1 : E = "java/lang/UnsupportedOperationException"
    · subst e1
      refine ⟨14, 2, 1, hd_parse_2, by decide, Or.inr ⟨2, rfl, dL_parse_14, rfl⟩, ?_⟩
      rw [if_neg (by decide)] at hC hP
      rw [if_pos rfl] at hP
      refine ex_iconst (v := nI 2) dL_parse_15 (by decide) ?_
      refine ex_iret dL_parse_16 rfl rfl ?_
      exact ⟨_, rfl, 2, 0, g', i', q', t', rfl, rfl, by decide, hP⟩
    by_cases e2 : E = "java/lang/IllegalArgumentException"
    · subst e2
      refine ⟨17, 2, 1, hd_parse_3, by decide, Or.inr ⟨2, rfl, dL_parse_17, rfl⟩, ?_⟩
      rw [if_neg (by decide)] at hC hP
      rw [if_neg (by decide)] at hC hP
      rw [if_pos rfl] at hP
      refine ex_iconst (v := nI 3) dL_parse_18 (by decide) ?_
      refine ex_iret dL_parse_19 rfl rfl ?_
      exact ⟨_, rfl, 3, 0, g', i', q', t', rfl, rfl, by decide, hP⟩
    exfalso
    rw [if_neg e0, if_neg e1, if_neg e2] at hC
    exact hC rfl
theorem nc_any_node : True := trivial
theorem hd_node_1 : xHd m_Law_node 5 "java/util/NoSuchElementException" 13 := ⟨[], [⟨0, 10, 17, 13⟩], ⟨0, 10, 13, 24⟩, "java/util/NoSuchElementException", rfl, rfl, rfl, by decide, cl_Law_24, by decide, fun z hz => by cases hz⟩
theorem hd_node_2 : xHd m_Law_node 5 "java/lang/IllegalArgumentException" 17 := ⟨[⟨0, 10, 13, 24⟩], [], ⟨0, 10, 17, 13⟩, "java/lang/IllegalArgumentException", rfl, rfl, rfl, by decide, cl_Law_13, by decide, fun z hz => by
    simp only [List.mem_cons, List.not_mem_nil, or_false] at hz
    rcases hz with rfl
    · exact Or.inr ⟨by decide, "java/util/NoSuchElementException", cl_Law_24, by decide⟩⟩
def cd_node (E : String) : Nat := if E = "java/util/NoSuchElementException" then 1 else if E = "java/lang/IllegalArgumentException" then 2 else 0
theorem sp_Law_node {P : Nat → Int64 → Nat → (Nat → Nat → Int32) → (Nat → Nat → Int64) → Bool → Prop} {a b : Int32} {g : Nat} {i : Nat → Nat → Int32} {q : Nat → Nat → Int64} {t : Bool} (hk : Wx m_Works_node 0 [some (.ref 0), some (.int a), some (.int b)] [] (94, g, i, q, RT t) (1, 6) (WQ (WKi P) (WX cd_node P))) : Wx m_Law_node 0 [some (.ref 0), some (.int a), some (.int b), some (.ref 93), none] [] (94, g, i, q, RT t) (1, 6) (fun r M => ∃ v, r = .ok v ∧ WR P v M) := by
  refine ex_aload_n (i := 3) dL_node_0 rfl rfl ?_
  refine ex_iconst (v := nI 0) dL_node_1 (by decide) ?_
  refine ex_aload_n (i := 0) dL_node_2 rfl rfl ?_
  refine ex_iload_n (i := 1) dL_node_3 rfl rfl ?_
  refine ex_iload_n (i := 2) dL_node_4 rfl rfl ?_
  refine ex_callX (K := (0, 0)) (a := 0) (ci := 9) (as := [.int (a), .int (b)]) (Qk := WKi P) (X := WX cd_node P) (by decide) (by decide) dL_node_5 ln_Law_52 mf_Works_node rfl (Nat.le_of_ble_eq_true rfl) rfl rfl np_Works_node rfl (Nat.le_of_ble_eq_true rfl) (Nat.le_of_ble_eq_true rfl) ⟨(Nat.le_of_ble_eq_true rfl), (Nat.le_of_ble_eq_true rfl)⟩ hk ?_ ?_
  · rintro _ _ ⟨x, g', i', q', t', rfl, rfl, hP⟩
    refine ex_i2l dL_node_8 ?_
    refine ex_lastN dL_node_9 rfl (by decide) (by decide) ?_
    refine ex_goto (tgt := 21) dL_node_10 (by decide) ?_
    refine ex_iconst (v := nI 0) dL_node_21 (by decide) ?_
    refine ex_iret dL_node_22 rfl rfl ?_
    exact ⟨_, rfl, 0, x.toInt64, g', i', q', t', rfl, rfl, by decide, hP⟩
  · rintro E _ ⟨g', i', q', t', rfl, hC, hP⟩
    unfold cd_node at hC hP
    by_cases e0 : E = "java/util/NoSuchElementException"
    · subst e0
      refine ⟨13, 4, 2, hd_node_1, by decide, Or.inl ⟨dL_node_13, rfl⟩, ?_⟩
      rw [if_pos rfl] at hP
      refine ex_iconst (v := nI 1) dL_node_15 (by decide) ?_
      refine ex_iret dL_node_16 rfl rfl ?_
      exact ⟨_, rfl, 1, 0, g', i', q', t', rfl, rfl, by decide, hP⟩
    by_cases e1 : E = "java/lang/IllegalArgumentException"
    · subst e1
      refine ⟨17, 4, 2, hd_node_2, by decide, Or.inl ⟨dL_node_17, rfl⟩, ?_⟩
      rw [if_neg (by decide)] at hC hP
      rw [if_pos rfl] at hP
      refine ex_iconst (v := nI 2) dL_node_19 (by decide) ?_
      refine ex_iret dL_node_20 rfl rfl ?_
      exact ⟨_, rfl, 2, 0, g', i', q', t', rfl, rfl, by decide, hP⟩
    exfalso
    rw [if_neg e0, if_neg e1] at hC
    exact hC rfl
theorem nc_any_attribute : True := trivial
theorem hd_attribute_1 : xHd m_Law_attribute 5 "java/util/NoSuchElementException" 12 := ⟨[], [⟨0, 9, 16, 13⟩], ⟨0, 9, 12, 24⟩, "java/util/NoSuchElementException", rfl, rfl, rfl, by decide, cl_Law_24, by decide, fun z hz => by cases hz⟩
theorem hd_attribute_2 : xHd m_Law_attribute 5 "java/lang/IllegalArgumentException" 16 := ⟨[⟨0, 9, 12, 24⟩], [], ⟨0, 9, 16, 13⟩, "java/lang/IllegalArgumentException", rfl, rfl, rfl, by decide, cl_Law_13, by decide, fun z hz => by
    simp only [List.mem_cons, List.not_mem_nil, or_false] at hz
    rcases hz with rfl
    · exact Or.inr ⟨by decide, "java/util/NoSuchElementException", cl_Law_24, by decide⟩⟩
def cd_attribute (E : String) : Nat := if E = "java/util/NoSuchElementException" then 1 else if E = "java/lang/IllegalArgumentException" then 2 else 0
theorem sp_Law_attribute {P : Nat → Int64 → Nat → (Nat → Nat → Int32) → (Nat → Nat → Int64) → Bool → Prop} {a b : Int32} {g : Nat} {i : Nat → Nat → Int32} {q : Nat → Nat → Int64} {t : Bool} (hk : Wx m_Works_attribute 0 [some (.ref 0), some (.int a), some (.int b)] [] (94, g, i, q, RT t) (1, 6) (WQ (WKl P) (WX cd_attribute P))) : Wx m_Law_attribute 0 [some (.ref 0), some (.int a), some (.int b), some (.ref 93), none] [] (94, g, i, q, RT t) (1, 6) (fun r M => ∃ v, r = .ok v ∧ WR P v M) := by
  refine ex_aload_n (i := 3) dL_attribute_0 rfl rfl ?_
  refine ex_iconst (v := nI 0) dL_attribute_1 (by decide) ?_
  refine ex_aload_n (i := 0) dL_attribute_2 rfl rfl ?_
  refine ex_iload_n (i := 1) dL_attribute_3 rfl rfl ?_
  refine ex_iload_n (i := 2) dL_attribute_4 rfl rfl ?_
  refine ex_callX (K := (0, 0)) (a := 0) (ci := 9) (as := [.int (a), .int (b)]) (Qk := WKl P) (X := WX cd_attribute P) (by decide) (by decide) dL_attribute_5 ln_Law_55 mf_Works_attribute rfl (Nat.le_of_ble_eq_true rfl) rfl rfl np_Works_attribute rfl (Nat.le_of_ble_eq_true rfl) (Nat.le_of_ble_eq_true rfl) ⟨(Nat.le_of_ble_eq_true rfl), (Nat.le_of_ble_eq_true rfl)⟩ hk ?_ ?_
  · rintro _ _ ⟨x, g', i', q', t', rfl, rfl, hP⟩
    refine ex_lastN dL_attribute_8 rfl (by decide) (by decide) ?_
    refine ex_goto (tgt := 20) dL_attribute_9 (by decide) ?_
    refine ex_iconst (v := nI 0) dL_attribute_20 (by decide) ?_
    refine ex_iret dL_attribute_21 rfl rfl ?_
    exact ⟨_, rfl, 0, x, g', i', q', t', rfl, rfl, by decide, hP⟩
  · rintro E _ ⟨g', i', q', t', rfl, hC, hP⟩
    unfold cd_attribute at hC hP
    by_cases e0 : E = "java/util/NoSuchElementException"
    · subst e0
      refine ⟨12, 4, 2, hd_attribute_1, by decide, Or.inl ⟨dL_attribute_12, rfl⟩, ?_⟩
      rw [if_pos rfl] at hP
      refine ex_iconst (v := nI 1) dL_attribute_14 (by decide) ?_
      refine ex_iret dL_attribute_15 rfl rfl ?_
      exact ⟨_, rfl, 1, 0, g', i', q', t', rfl, rfl, by decide, hP⟩
    by_cases e1 : E = "java/lang/IllegalArgumentException"
    · subst e1
      refine ⟨16, 4, 2, hd_attribute_2, by decide, Or.inl ⟨dL_attribute_16, rfl⟩, ?_⟩
      rw [if_neg (by decide)] at hC hP
      rw [if_pos rfl] at hP
      refine ex_iconst (v := nI 2) dL_attribute_18 (by decide) ?_
      refine ex_iret dL_attribute_19 rfl rfl ?_
      exact ⟨_, rfl, 2, 0, g', i', q', t', rfl, rfl, by decide, hP⟩
    exfalso
    rw [if_neg e0, if_neg e1] at hC
    exact hC rfl
theorem nc_any_count : True := trivial
theorem hd_count_1 : xHd m_Law_count 4 "java/lang/IllegalArgumentException" 12 := ⟨[], [], ⟨0, 9, 12, 13⟩, "java/lang/IllegalArgumentException", rfl, rfl, rfl, by decide, cl_Law_13, by decide, fun z hz => by cases hz⟩
def cd_count (E : String) : Nat := if E = "java/lang/IllegalArgumentException" then 1 else 0
theorem sp_Law_count {P : Nat → Int64 → Nat → (Nat → Nat → Int32) → (Nat → Nat → Int64) → Bool → Prop} {a : Int32} {g : Nat} {i : Nat → Nat → Int32} {q : Nat → Nat → Int64} {t : Bool} (hk : Wx m_Works_count 0 [some (.ref 0), some (.int a)] [] (94, g, i, q, RT t) (1, 6) (WQ (WKi P) (WX cd_count P))) : Wx m_Law_count 0 [some (.ref 0), some (.int a), some (.ref 93), none] [] (94, g, i, q, RT t) (1, 6) (fun r M => ∃ v, r = .ok v ∧ WR P v M) := by
  refine ex_aload_n (i := 2) dL_count_0 rfl rfl ?_
  refine ex_iconst (v := nI 0) dL_count_1 (by decide) ?_
  refine ex_aload_n (i := 0) dL_count_2 rfl rfl ?_
  refine ex_iload_n (i := 1) dL_count_3 rfl rfl ?_
  refine ex_callX (K := (0, 0)) (a := 0) (ci := 9) (as := [.int (a)]) (Qk := WKi P) (X := WX cd_count P) (by decide) (by decide) dL_count_4 ln_Law_59 mf_Works_count rfl (Nat.le_of_ble_eq_true rfl) rfl rfl np_Works_count rfl (Nat.le_of_ble_eq_true rfl) (Nat.le_of_ble_eq_true rfl) ⟨(Nat.le_of_ble_eq_true rfl), (Nat.le_of_ble_eq_true rfl)⟩ hk ?_ ?_
  · rintro _ _ ⟨x, g', i', q', t', rfl, rfl, hP⟩
    refine ex_i2l dL_count_7 ?_
    refine ex_lastN dL_count_8 rfl (by decide) (by decide) ?_
    refine ex_goto (tgt := 15) dL_count_9 (by decide) ?_
    refine ex_iconst (v := nI 0) dL_count_15 (by decide) ?_
    refine ex_iret dL_count_16 rfl rfl ?_
    exact ⟨_, rfl, 0, x.toInt64, g', i', q', t', rfl, rfl, by decide, hP⟩
  · rintro E _ ⟨g', i', q', t', rfl, hC, hP⟩
    unfold cd_count at hC hP
    by_cases e0 : E = "java/lang/IllegalArgumentException"
    · subst e0
      refine ⟨12, 3, 1, hd_count_1, by decide, Or.inr ⟨3, rfl, dL_count_12, rfl⟩, ?_⟩
      rw [if_pos rfl] at hP
      refine ex_iconst (v := nI 1) dL_count_13 (by decide) ?_
      refine ex_iret dL_count_14 rfl rfl ?_
      exact ⟨_, rfl, 1, 0, g', i', q', t', rfl, rfl, by decide, hP⟩
    exfalso
    rw [if_neg e0] at hC
    exact hC rfl
