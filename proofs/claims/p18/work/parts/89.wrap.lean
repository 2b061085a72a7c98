/-! ===== the law: its rows and its wrappers ===== -/
section S89
variable {μ ν : xMeth} {pc : Nat} {L0 Lc : xLoc} {st stk : List Value} {M : xMem} {K : Nat × Nat} {Q : xRes → xMem → Prop} {idx : Nat} {as : List Value}
/-- a call that leaves the script -/
abbrev xCo (M : xMem) (W : Option Value → xMem → Prop) : xRes → xMem → Prop := fun r M' => ∃ v, r = .ok v ∧ (M'.2.2.1 4096 = M.2.2.1 4096 ∧ M'.2.2.1 4097 = M.2.2.1 4097) ∧ W v M'
theorem ex_cVL {a ci : Nat} {z : vw_C} (d : decode (xCd μ) pc = .ok (.invokevirtual idx, 3)) (ln : xLV (xOwn μ) idx ν) (mf : xMF ν) (hs : SHl[a]? = some (.inl ci)) (ha : a < M.1) (hz : vwCl[ci]? = some z) (hzn : z.1 = xOwn ν) (hnp : (parseMethodDescriptor (xNm ν).desc).map (fun d => d.parameters.length) = some as.length) (hst : stk = as.reverse ++ .ref a :: st) (hL0 : xEn (xMl ν) (.ref a :: as) = L0) (hr : (xEnA (.ref a :: as)).length ≤ xMl ν ∧ (st.map fun v => v.category).sum ≤ 8 ∧ (xFr ν + 1 ≤ xFr μ ∧ 8 + (xMl ν + 11) + xLo ν ≤ xLo μ))
    (hk : Wx ν 0 L0 [] M (0, 0) (xCo M fun v M' => Wx μ (pc + 3) Lc (v.toList ++ st) M' K Q)) : Wx μ pc Lc stk M K Q :=
  ex_callV (Kc := (0, 0)) (Qk := fun v M' => (M'.2.2.1 4096 = M.2.2.1 4096 ∧ M'.2.2.1 4097 = M.2.2.1 4097) ∧ Wx μ (pc + 3) Lc (v.toList ++ st) M' K Q) d ln mf hs ha hz hzn hnp hst hr.1 hr.2.1 hr.2.2 (Or.inr fun _ _ h => h.1) ⟨Nat.le_refl _, Nat.le_refl _⟩ (by rw [hL0]; exact hk) (fun _ _ h => h.2)
theorem ex_cSL (d : decode (xCd μ) pc = .ok (.invokestatic idx, 3)) (ln : xLS (xOwn μ) idx ν) (mf : xMF ν) (hnp : (parseMethodDescriptor (xNm ν).desc).map (fun d => d.parameters.length) = some as.length) (hst : stk = as.reverse ++ st) (hL0 : xEn (xMl ν) as = L0) (hr : (xEnA as).length ≤ xMl ν ∧ (st.map fun v => v.category).sum ≤ 8 ∧ (xFr ν + 1 ≤ xFr μ ∧ 8 + (xMl ν + 11) + xLo ν ≤ xLo μ))
    (hk : Wx ν 0 L0 [] M (0, 0) (xCo M fun v M' => Wx μ (pc + 3) Lc (v.toList ++ st) M' K Q)) : Wx μ pc Lc stk M K Q :=
  ex_callS (Kc := (0, 0)) (Qk := fun v M' => (M'.2.2.1 4096 = M.2.2.1 4096 ∧ M'.2.2.1 4097 = M.2.2.1 4097) ∧ Wx μ (pc + 3) Lc (v.toList ++ st) M' K Q) d ln mf hnp hst hr.1 hr.2.1 hr.2.2 (Or.inr fun _ _ h => h.1) ⟨Nat.le_refl _, Nat.le_refl _⟩ (by rw [hL0]; exact hk) (fun _ _ h => h.2)
theorem ex_cKL {k1 s1 kc sc k s : Nat} (h1 : kc + k1 ≤ k) (h2 : sc + s1 ≤ s) (d : decode (xCd μ) pc = .ok (.invokestatic idx, 3)) (ln : xLS (xOwn μ) idx ν) (mf : xMF ν) (hnp : (parseMethodDescriptor (xNm ν).desc).map (fun d => d.parameters.length) = some as.length) (hst : stk = as.reverse ++ st) (hL0 : xEn (xMl ν) as = L0) (hr : (xEnA as).length ≤ xMl ν ∧ (st.map fun v => v.category).sum ≤ 8 ∧ (xFr ν + 1 ≤ xFr μ ∧ 8 + (xMl ν + 11) + xLo ν ≤ xLo μ))
    (hk : Wx ν 0 L0 [] M (k1, s1) (xCo M fun v M' => Wx μ (pc + 3) Lc (v.toList ++ st) M' (kc, sc) Q)) : Wx μ pc Lc stk M (k, s) Q :=
  ex_callS (Kc := (k1, s1)) (K := (kc, sc)) (Qk := fun v M' => (M'.2.2.1 4096 = M.2.2.1 4096 ∧ M'.2.2.1 4097 = M.2.2.1 4097) ∧ Wx μ (pc + 3) Lc (v.toList ++ st) M' (kc, sc) Q) d ln mf hnp hst hr.1 hr.2.1 hr.2.2 (Or.inr fun _ _ h => h.1) ⟨h1, h2⟩ (by rw [hL0]; exact hk) (fun _ _ h => h.2)
theorem ex_cZL (hz : xLw (xNm μ).name) (d : decode (xCd μ) pc = .ok (.invokestatic idx, 3)) (ln : xLS (xOwn μ) idx ν) (mf : xMFZ ν) (hnp : (parseMethodDescriptor (xNm ν).desc).map (fun d => d.parameters.length) = some as.length) (hst : stk = as.reverse ++ st) (hL0 : xEn (xMl ν) as = L0) (hr : (xEnA as).length ≤ xMl ν ∧ (st.map fun v => v.category).sum ≤ 8 ∧ (xFr ν + 1 ≤ xFr μ ∧ 8 + (xMl ν + 11) + xLo ν ≤ xLo μ))
    (hk : Wx ν 0 L0 [] M (0, 0) (xCo M fun v M' => Wx μ (pc + 3) Lc (v.toList ++ st) M' K Q)) : Wx μ pc Lc stk M K Q :=
  ex_callZ (Kc := (0, 0)) (Qk := fun v M' => (M'.2.2.1 4096 = M.2.2.1 4096 ∧ M'.2.2.1 4097 = M.2.2.1 4097) ∧ Wx μ (pc + 3) Lc (v.toList ++ st) M' K Q) d ln hz mf hnp hst hr.1 hr.2.1 hr.2.2 (Or.inr fun _ _ h => h.1) ⟨Nat.le_refl _, Nat.le_refl _⟩ (by rw [hL0]; exact hk) (fun _ _ h => h.2)
theorem ex_cHL {kc sc k s : Nat} (h1 : kc + 1 ≤ k) (h2 : sc + 6 ≤ s) (d : decode (xCd μ) pc = .ok (.invokestatic idx, 3)) (ln : Cond.methodLink (xOwn μ) idx (xNm ν) ∈ xWd ∧ Cond.static (xNm ν) ∈ xWd) (mf : xMFH ν) (hnp : (parseMethodDescriptor (xNm ν).desc).map (fun d => d.parameters.length) = some as.length) (hst : stk = as.reverse ++ st) (hL0 : xEn (xMl ν) as = L0) (hr : (xEnA as).length ≤ xMl ν ∧ (st.map fun v => v.category).sum ≤ 8 ∧ (xFr ν + 1 ≤ xFr μ ∧ 8 + (xMl ν + 11) + xLo ν ≤ xLo μ))
    (hk : Wx ν 0 L0 [] M (1, 6) (xCo M fun v M' => Wx μ (pc + 3) Lc (v.toList ++ st) M' (kc, sc) Q)) : Wx μ pc Lc stk M (k, s) Q :=
  ex_callH (Kc := (1, 6)) (K := (kc, sc)) (Qk := fun v M' => (M'.2.2.1 4096 = M.2.2.1 4096 ∧ M'.2.2.1 4097 = M.2.2.1 4097) ∧ Wx μ (pc + 3) Lc (v.toList ++ st) M' (kc, sc) Q) d ln mf hnp hst hr.1 hr.2.1 hr.2.2 (Or.inr fun _ _ h => h.1) ⟨h1, h2⟩ (by rw [hL0]; exact hk) (fun _ _ h => h.2)
theorem ex_slenN {n g L : Nat} {i : Nat → Nat → Int32} {q : Nat → Nat → Int64} {r : Nat → Nat → Value} (hlaw : xLw (xNm μ).name) (d : decode (xCd μ) pc = .ok (.arraylength, 1)) (h97 : i 4097 0 = nI L) (hL : L ≤ 260) (kk : Wx μ (pc + 1) Lc (.int (nI L) :: st) (n, g, i, q, r) K Q) : Wx μ pc Lc (.ref 4096 :: st) (n, g, i, q, r) K Q :=
  ex_slen hlaw (N := L) (by rw [h97]; exact nI_clamp (by omega)) rfl d kk
theorem ex_sldN {n g L j : Nat} {x : Int32} {i : Nat → Nat → Int32} {q : Nat → Nat → Int64} {r : Nat → Nat → Value} (hlaw : xLw (xNm μ).name) (d : decode (xCd μ) pc = .ok (.iaload, 1)) (h97 : i 4097 0 = nI L) (hL : L ≤ 260) (hj : j < L) (hx : i 4096 j = x) (kk : Wx μ (pc + 1) Lc (.int x :: st) (n, g, i, q, r) K Q) : Wx μ pc Lc (.int (nI j) :: .ref 4096 :: st) (n, g, i, q, r) K Q :=
  ex_sld hlaw d (by rw [h97, nI_clamp (by omega)]; exact vp_in_nI hj (by omega)) (by rw [nI_clamp (by omega)]; exact hx) kk
end S89
/-- what the law's wrapper makes of a call -/
def WQ (cd : String → Option Int32) (Q : xRes → xMem → Prop) (r : xRes) (M : xMem) : Prop := (∀ v, r = .ok v → ∃ x, v = some (.int x) ∧ Q (.ok (some (.int x))) M) ∧ ∀ E, r = .error E → ∃ c, cd E = some c ∧ Q (.ok (some (.int c))) M
theorem WQ.ok {cd : String → Option Int32} {Q : xRes → xMem → Prop} {x : Int32} {M : xMem} (h : Q (.ok (some (.int x))) M) : WQ cd Q (.ok (some (.int x))) M := ⟨fun _ e => (by cases e; exact ⟨x, rfl, h⟩), fun _ e => (by cases e)⟩
theorem WQ.er {cd : String → Option Int32} {Q : xRes → xMem → Prop} {E : String} {c : Int32} {M : xMem} (hc : cd E = some c) (h : Q (.ok (some (.int c))) M) : WQ cd Q (.error E) M := ⟨fun _ e => (by cases e), fun _ e => (by cases e; exact ⟨c, hc, h⟩)⟩
theorem cl_Law_13 : Cond.classLink RL 13 "java/lang/IllegalArgumentException" ∈ xWd := by decide +kernel
theorem cl_Law_15 : Cond.classLink RL 15 "java/lang/IllegalStateException" ∈ xWd := by decide +kernel
theorem cl_Law_21 : Cond.classLink RL 21 "java/lang/UnsupportedOperationException" ∈ xWd := by decide +kernel
theorem cl_Law_33 : Cond.classLink RL 33 "java/util/NoSuchElementException" ∈ xWd := by decide +kernel
theorem hd_rule_1 : xHd m_Law_rule 8 "java/lang/IllegalArgumentException" 12 := ⟨[], [⟨0, 11, 17, 15⟩], ⟨0, 11, 12, 13⟩, "java/lang/IllegalArgumentException", rfl, rfl, rfl, by decide, cl_Law_13, by decide, fun z hz => by cases hz⟩
theorem hd_rule_2 : xHd m_Law_rule 8 "java/lang/IllegalStateException" 17 := ⟨[⟨0, 11, 12, 13⟩], [], ⟨0, 11, 17, 15⟩, "java/lang/IllegalStateException", rfl, rfl, rfl, by decide, cl_Law_15, by decide, fun z hz => by
    simp only [List.mem_cons, List.not_mem_nil, or_false] at hz
    rcases hz with rfl
    · exact Or.inr ⟨by decide, "java/lang/IllegalArgumentException", cl_Law_13, by decide⟩⟩
def cd_rule (E : String) : Option Int32 := if E = "java/lang/IllegalArgumentException" then some (-101) else if E = "java/lang/IllegalStateException" then some (-102) else none
theorem sp_Law_rule {Q : xRes → xMem → Prop} {a b c d e : Int32} {ζ g : Nat} {i : Nat → Nat → Int32} {q : Nat → Nat → Int64} {t : Bool} (hk : Wx m_Works_rule 0 [some (.ref 0), some (.int a), some (.int b), some (.int c), some (.int d), some (.int e), none] [] (56 + ζ, g, i, q, RT t) (1, 6) (WQ cd_rule Q)) : Wx m_Law_rule 0 [some (.ref 0), some (.int a), some (.int b), some (.int c), some (.int d), some (.int e), none] [] (56 + ζ, g, i, q, RT t) (1, 6) Q := by
  refine ex_aload_n (i := 0) dL_rule_0 rfl rfl ?_
  refine ex_iload_n (i := 1) dL_rule_1 rfl rfl ?_
  refine ex_iload_n (i := 2) dL_rule_2 rfl rfl ?_
  refine ex_iload_n (i := 3) dL_rule_3 rfl rfl ?_
  refine ex_iload dL_rule_4 rfl ?_
  refine ex_iload dL_rule_6 rfl ?_
  refine ex_callX (K := (0, 0)) (a := 0) (ci := 9) (as := [.int (a), .int (b), .int (c), .int (d), .int (e)]) (Qk := fun v M => ∃ x, v = some (.int x) ∧ Q (.ok (some (.int x))) M) (X := fun E M => ∃ c, cd_rule E = some c ∧ Q (.ok (some (.int c))) M) (by decide) (by decide) dL_rule_8 ln_Law_7 mf_Works_rule rfl (l56 (by decide)) rfl rfl np_Works_rule rfl (Nat.le_of_ble_eq_true rfl) (Nat.le_of_ble_eq_true rfl) ⟨(Nat.le_of_ble_eq_true rfl), (Nat.le_of_ble_eq_true rfl)⟩ hk ?_ ?_
  · rintro _ M' ⟨x, rfl, hP⟩
    refine ex_iret dL_rule_11 rfl rfl ?_
    exact hP
  · rintro E M' ⟨c, hC, hP⟩
    unfold cd_rule at hC
    by_cases e0 : E = "java/lang/IllegalArgumentException"
    · subst e0
      refine ⟨12, 6, 2, hd_rule_1, by decide, Or.inl ⟨dL_rule_12, rfl⟩, ?_⟩
      rw [if_pos rfl] at hC
      cases hC
      refine ex_bipush (v := -101) dL_rule_14 (by decide) ?_
      refine ex_iret dL_rule_16 rfl rfl ?_
      exact hP
    by_cases e1 : E = "java/lang/IllegalStateException"
    · subst e1
      refine ⟨17, 6, 2, hd_rule_2, by decide, Or.inl ⟨dL_rule_17, rfl⟩, ?_⟩
      rw [if_neg (by decide)] at hC
      rw [if_pos rfl] at hC
      cases hC
      refine ex_bipush (v := -102) dL_rule_19 (by decide) ?_
      refine ex_iret dL_rule_21 rfl rfl ?_
      exact hP
    exfalso
    rw [if_neg e0, if_neg e1] at hC
    cases hC
theorem hd_build_1 : xHd m_Law_build 1 "java/lang/IllegalStateException" 5 := ⟨[], [⟨0, 4, 9, 21⟩], ⟨0, 4, 5, 15⟩, "java/lang/IllegalStateException", rfl, rfl, rfl, by decide, cl_Law_15, by decide, fun z hz => by cases hz⟩
theorem hd_build_2 : xHd m_Law_build 1 "java/lang/UnsupportedOperationException" 9 := ⟨[⟨0, 4, 5, 15⟩], [], ⟨0, 4, 9, 21⟩, "java/lang/UnsupportedOperationException", rfl, rfl, rfl, by decide, cl_Law_21, by decide, fun z hz => by
    simp only [List.mem_cons, List.not_mem_nil, or_false] at hz
    rcases hz with rfl
    · exact Or.inr ⟨by decide, "java/lang/IllegalStateException", cl_Law_15, by decide⟩⟩
def cd_build (E : String) : Option Int32 := if E = "java/lang/IllegalStateException" then some (-101) else if E = "java/lang/UnsupportedOperationException" then some (-102) else none
theorem sp_Law_build {Q : xRes → xMem → Prop} {ζ g : Nat} {i : Nat → Nat → Int32} {q : Nat → Nat → Int64} {t : Bool} (hk : Wx m_Works_build 0 [some (.ref 0)] [] (56 + ζ, g, i, q, RT t) (1, 6) (WQ cd_build Q)) : Wx m_Law_build 0 [some (.ref 0), none] [] (56 + ζ, g, i, q, RT t) (1, 6) Q := by
  refine ex_aload_n (i := 0) dL_build_0 rfl rfl ?_
  refine ex_callX (K := (0, 0)) (a := 0) (ci := 9) (as := []) (Qk := fun v M => ∃ x, v = some (.int x) ∧ Q (.ok (some (.int x))) M) (X := fun E M => ∃ c, cd_build E = some c ∧ Q (.ok (some (.int c))) M) (by decide) (by decide) dL_build_1 ln_Law_17 mf_Works_build rfl (l56 (by decide)) rfl rfl np_Works_build rfl (Nat.le_of_ble_eq_true rfl) (Nat.le_of_ble_eq_true rfl) ⟨(Nat.le_of_ble_eq_true rfl), (Nat.le_of_ble_eq_true rfl)⟩ hk ?_ ?_
  · rintro _ M' ⟨x, rfl, hP⟩
    refine ex_iret dL_build_4 rfl rfl ?_
    exact hP
  · rintro E M' ⟨c, hC, hP⟩
    unfold cd_build at hC
    by_cases e0 : E = "java/lang/IllegalStateException"
    · subst e0
      refine ⟨5, 1, 1, hd_build_1, by decide, Or.inr ⟨1, rfl, dL_build_5, rfl⟩, ?_⟩
      rw [if_pos rfl] at hC
      cases hC
      refine ex_bipush (v := -101) dL_build_6 (by decide) ?_
      refine ex_iret dL_build_8 rfl rfl ?_
      exact hP
    by_cases e1 : E = "java/lang/UnsupportedOperationException"
    · subst e1
      refine ⟨9, 1, 1, hd_build_2, by decide, Or.inr ⟨1, rfl, dL_build_9, rfl⟩, ?_⟩
      rw [if_neg (by decide)] at hC
      rw [if_pos rfl] at hC
      cases hC
      refine ex_bipush (v := -102) dL_build_10 (by decide) ?_
      refine ex_iret dL_build_12 rfl rfl ?_
      exact hP
    exfalso
    rw [if_neg e0, if_neg e1] at hC
    cases hC
theorem hd_token_1 : xHd m_Law_token 3 "java/lang/IllegalArgumentException" 7 := ⟨[], [⟨0, 6, 11, 15⟩], ⟨0, 6, 7, 13⟩, "java/lang/IllegalArgumentException", rfl, rfl, rfl, by decide, cl_Law_13, by decide, fun z hz => by cases hz⟩
theorem hd_token_2 : xHd m_Law_token 3 "java/lang/IllegalStateException" 11 := ⟨[⟨0, 6, 7, 13⟩], [], ⟨0, 6, 11, 15⟩, "java/lang/IllegalStateException", rfl, rfl, rfl, by decide, cl_Law_15, by decide, fun z hz => by
    simp only [List.mem_cons, List.not_mem_nil, or_false] at hz
    rcases hz with rfl
    · exact Or.inr ⟨by decide, "java/lang/IllegalArgumentException", cl_Law_13, by decide⟩⟩
def cd_token (E : String) : Option Int32 := if E = "java/lang/IllegalArgumentException" then some (-101) else if E = "java/lang/IllegalStateException" then some (-102) else none
theorem sp_Law_token {Q : xRes → xMem → Prop} {a b : Int32} {ζ g : Nat} {i : Nat → Nat → Int32} {q : Nat → Nat → Int64} {t : Bool} (hk : Wx m_Works_token 0 [some (.ref 0), some (.int a), some (.int b)] [] (56 + ζ, g, i, q, RT t) (1, 6) (WQ cd_token Q)) : Wx m_Law_token 0 [some (.ref 0), some (.int a), some (.int b), none] [] (56 + ζ, g, i, q, RT t) (1, 6) Q := by
  refine ex_aload_n (i := 0) dL_token_0 rfl rfl ?_
  refine ex_iload_n (i := 1) dL_token_1 rfl rfl ?_
  refine ex_iload_n (i := 2) dL_token_2 rfl rfl ?_
  refine ex_callX (K := (0, 0)) (a := 0) (ci := 9) (as := [.int (a), .int (b)]) (Qk := fun v M => ∃ x, v = some (.int x) ∧ Q (.ok (some (.int x))) M) (X := fun E M => ∃ c, cd_token E = some c ∧ Q (.ok (some (.int c))) M) (by decide) (by decide) dL_token_3 ln_Law_23 mf_Works_token rfl (l56 (by decide)) rfl rfl np_Works_token rfl (Nat.le_of_ble_eq_true rfl) (Nat.le_of_ble_eq_true rfl) ⟨(Nat.le_of_ble_eq_true rfl), (Nat.le_of_ble_eq_true rfl)⟩ hk ?_ ?_
  · rintro _ M' ⟨x, rfl, hP⟩
    refine ex_iret dL_token_6 rfl rfl ?_
    exact hP
  · rintro E M' ⟨c, hC, hP⟩
    unfold cd_token at hC
    by_cases e0 : E = "java/lang/IllegalArgumentException"
    · subst e0
      refine ⟨7, 3, 1, hd_token_1, by decide, Or.inr ⟨3, rfl, dL_token_7, rfl⟩, ?_⟩
      rw [if_pos rfl] at hC
      cases hC
      refine ex_bipush (v := -101) dL_token_8 (by decide) ?_
      refine ex_iret dL_token_10 rfl rfl ?_
      exact hP
    by_cases e1 : E = "java/lang/IllegalStateException"
    · subst e1
      refine ⟨11, 3, 1, hd_token_2, by decide, Or.inr ⟨3, rfl, dL_token_11, rfl⟩, ?_⟩
      rw [if_neg (by decide)] at hC
      rw [if_pos rfl] at hC
      cases hC
      refine ex_bipush (v := -102) dL_token_12 (by decide) ?_
      refine ex_iret dL_token_14 rfl rfl ?_
      exact hP
    exfalso
    rw [if_neg e0, if_neg e1] at hC
    cases hC
theorem hd_parse_1 : xHd m_Law_parse 1 "java/lang/IllegalStateException" 5 := ⟨[], [⟨0, 4, 9, 21⟩, ⟨0, 4, 13, 13⟩], ⟨0, 4, 5, 15⟩, "java/lang/IllegalStateException", rfl, rfl, rfl, by decide, cl_Law_15, by decide, fun z hz => by cases hz⟩
theorem hd_parse_2 : xHd m_Law_parse 1 "java/lang/UnsupportedOperationException" 9 := ⟨[⟨0, 4, 5, 15⟩], [⟨0, 4, 13, 13⟩], ⟨0, 4, 9, 21⟩, "java/lang/UnsupportedOperationException", rfl, rfl, rfl, by decide, cl_Law_21, by decide, fun z hz => by
    simp only [List.mem_cons, List.not_mem_nil, or_false] at hz
    rcases hz with rfl
    · exact Or.inr ⟨by decide, "java/lang/IllegalStateException", cl_Law_15, by decide⟩⟩
theorem hd_parse_3 : xHd m_Law_parse 1 "java/lang/IllegalArgumentException" 13 := ⟨[⟨0, 4, 5, 15⟩, ⟨0, 4, 9, 21⟩], [], ⟨0, 4, 13, 13⟩, "java/lang/IllegalArgumentException", rfl, rfl, rfl, by decide, cl_Law_13, by decide, fun z hz => by
    simp only [List.mem_cons, List.not_mem_nil, or_false] at hz
    rcases hz with rfl | rfl
    · exact Or.inr ⟨by decide, "java/lang/IllegalStateException", cl_Law_15, by decide⟩
    · exact Or.inr ⟨by decide, "java/lang/UnsupportedOperationException", cl_Law_21, by decide⟩⟩
def cd_parse (E : String) : Option Int32 := if E = "java/lang/IllegalStateException" then some (-101) else if E = "java/lang/UnsupportedOperationException" then some (-102) else if E = "java/lang/IllegalArgumentException" then some (-103) else none
theorem sp_Law_parse {Q : xRes → xMem → Prop} {ζ g : Nat} {i : Nat → Nat → Int32} {q : Nat → Nat → Int64} {t : Bool} (hk : Wx m_Works_parse 0 [some (.ref 0), none, none] [] (56 + ζ, g, i, q, RT t) (1, 6) (WQ cd_parse Q)) : Wx m_Law_parse 0 [some (.ref 0), none] [] (56 + ζ, g, i, q, RT t) (1, 6) Q := by
  refine ex_aload_n (i := 0) dL_parse_0 rfl rfl ?_
  refine ex_callX (K := (0, 0)) (a := 0) (ci := 9) (as := []) (Qk := fun v M => ∃ x, v = some (.int x) ∧ Q (.ok (some (.int x))) M) (X := fun E M => ∃ c, cd_parse E = some c ∧ Q (.ok (some (.int c))) M) (by decide) (by decide) dL_parse_1 ln_Law_27 mf_Works_parse rfl (l56 (by decide)) rfl rfl np_Works_parse rfl (Nat.le_of_ble_eq_true rfl) (Nat.le_of_ble_eq_true rfl) ⟨(Nat.le_of_ble_eq_true rfl), (Nat.le_of_ble_eq_true rfl)⟩ hk ?_ ?_
  · rintro _ M' ⟨x, rfl, hP⟩
    refine ex_iret dL_parse_4 rfl rfl ?_
    exact hP
  · rintro E M' ⟨c, hC, hP⟩
    unfold cd_parse at hC
    by_cases e0 : E = "java/lang/IllegalStateException"
    · subst e0
      refine ⟨5, 1, 1, hd_parse_1, by decide, Or.inr ⟨1, rfl, dL_parse_5, rfl⟩, ?_⟩
      rw [if_pos rfl] at hC
      cases hC
      refine ex_bipush (v := -101) dL_parse_6 (by decide) ?_
      refine ex_iret dL_parse_8 rfl rfl ?_
      exact hP
    by_cases e1 : E = "java/lang/UnsupportedOperationException"
    · subst e1
      refine ⟨9, 1, 1, hd_parse_2, by decide, Or.inr ⟨1, rfl, dL_parse_9, rfl⟩, ?_⟩
      rw [if_neg (by decide)] at hC
      rw [if_pos rfl] at hC
      cases hC
      refine ex_bipush (v := -102) dL_parse_10 (by decide) ?_
      refine ex_iret dL_parse_12 rfl rfl ?_
      exact hP
    by_cases e2 : E = "java/lang/IllegalArgumentException"
    · subst e2
      refine ⟨13, 1, 1, hd_parse_3, by decide, Or.inr ⟨1, rfl, dL_parse_13, rfl⟩, ?_⟩
      rw [if_neg (by decide)] at hC
      rw [if_neg (by decide)] at hC
      rw [if_pos rfl] at hC
      cases hC
      refine ex_bipush (v := -103) dL_parse_14 (by decide) ?_
      refine ex_iret dL_parse_16 rfl rfl ?_
      exact hP
    exfalso
    rw [if_neg e0, if_neg e1, if_neg e2] at hC
    cases hC
theorem hd_node_1 : xHd m_Law_node 3 "java/util/NoSuchElementException" 7 := ⟨[], [⟨0, 6, 11, 13⟩], ⟨0, 6, 7, 33⟩, "java/util/NoSuchElementException", rfl, rfl, rfl, by decide, cl_Law_33, by decide, fun z hz => by cases hz⟩
theorem hd_node_2 : xHd m_Law_node 3 "java/lang/IllegalArgumentException" 11 := ⟨[⟨0, 6, 7, 33⟩], [], ⟨0, 6, 11, 13⟩, "java/lang/IllegalArgumentException", rfl, rfl, rfl, by decide, cl_Law_13, by decide, fun z hz => by
    simp only [List.mem_cons, List.not_mem_nil, or_false] at hz
    rcases hz with rfl
    · exact Or.inr ⟨by decide, "java/util/NoSuchElementException", cl_Law_33, by decide⟩⟩
def cd_node (E : String) : Option Int32 := if E = "java/util/NoSuchElementException" then some (-101) else if E = "java/lang/IllegalArgumentException" then some (-102) else none
theorem sp_Law_node {Q : xRes → xMem → Prop} {a b : Int32} {ζ g : Nat} {i : Nat → Nat → Int32} {q : Nat → Nat → Int64} {t : Bool} (hk : Wx m_Works_node 0 [some (.ref 0), some (.int a), some (.int b)] [] (56 + ζ, g, i, q, RT t) (1, 6) (WQ cd_node Q)) : Wx m_Law_node 0 [some (.ref 0), some (.int a), some (.int b), none] [] (56 + ζ, g, i, q, RT t) (1, 6) Q := by
  refine ex_aload_n (i := 0) dL_node_0 rfl rfl ?_
  refine ex_iload_n (i := 1) dL_node_1 rfl rfl ?_
  refine ex_iload_n (i := 2) dL_node_2 rfl rfl ?_
  refine ex_callX (K := (0, 0)) (a := 0) (ci := 9) (as := [.int (a), .int (b)]) (Qk := fun v M => ∃ x, v = some (.int x) ∧ Q (.ok (some (.int x))) M) (X := fun E M => ∃ c, cd_node E = some c ∧ Q (.ok (some (.int c))) M) (by decide) (by decide) dL_node_3 ln_Law_30 mf_Works_node rfl (l56 (by decide)) rfl rfl np_Works_node rfl (Nat.le_of_ble_eq_true rfl) (Nat.le_of_ble_eq_true rfl) ⟨(Nat.le_of_ble_eq_true rfl), (Nat.le_of_ble_eq_true rfl)⟩ hk ?_ ?_
  · rintro _ M' ⟨x, rfl, hP⟩
    refine ex_iret dL_node_6 rfl rfl ?_
    exact hP
  · rintro E M' ⟨c, hC, hP⟩
    unfold cd_node at hC
    by_cases e0 : E = "java/util/NoSuchElementException"
    · subst e0
      refine ⟨7, 3, 1, hd_node_1, by decide, Or.inr ⟨3, rfl, dL_node_7, rfl⟩, ?_⟩
      rw [if_pos rfl] at hC
      cases hC
      refine ex_bipush (v := -101) dL_node_8 (by decide) ?_
      refine ex_iret dL_node_10 rfl rfl ?_
      exact hP
    by_cases e1 : E = "java/lang/IllegalArgumentException"
    · subst e1
      refine ⟨11, 3, 1, hd_node_2, by decide, Or.inr ⟨3, rfl, dL_node_11, rfl⟩, ?_⟩
      rw [if_neg (by decide)] at hC
      rw [if_pos rfl] at hC
      cases hC
      refine ex_bipush (v := -102) dL_node_12 (by decide) ?_
      refine ex_iret dL_node_14 rfl rfl ?_
      exact hP
    exfalso
    rw [if_neg e0, if_neg e1] at hC
    cases hC
theorem hd_count_1 : xHd m_Law_count 2 "java/lang/IllegalArgumentException" 6 := ⟨[], [], ⟨0, 5, 6, 13⟩, "java/lang/IllegalArgumentException", rfl, rfl, rfl, by decide, cl_Law_13, by decide, fun z hz => by cases hz⟩
def cd_count (E : String) : Option Int32 := if E = "java/lang/IllegalArgumentException" then some (-101) else none
theorem sp_Law_count {Q : xRes → xMem → Prop} {a : Int32} {ζ g : Nat} {i : Nat → Nat → Int32} {q : Nat → Nat → Int64} {t : Bool} (hk : Wx m_Works_count 0 [some (.ref 0), some (.int a)] [] (56 + ζ, g, i, q, RT t) (1, 6) (WQ cd_count Q)) : Wx m_Law_count 0 [some (.ref 0), some (.int a), none] [] (56 + ζ, g, i, q, RT t) (1, 6) Q := by
  refine ex_aload_n (i := 0) dL_count_0 rfl rfl ?_
  refine ex_iload_n (i := 1) dL_count_1 rfl rfl ?_
  refine ex_callX (K := (0, 0)) (a := 0) (ci := 9) (as := [.int (a)]) (Qk := fun v M => ∃ x, v = some (.int x) ∧ Q (.ok (some (.int x))) M) (X := fun E M => ∃ c, cd_count E = some c ∧ Q (.ok (some (.int c))) M) (by decide) (by decide) dL_count_2 ln_Law_35 mf_Works_count rfl (l56 (by decide)) rfl rfl np_Works_count rfl (Nat.le_of_ble_eq_true rfl) (Nat.le_of_ble_eq_true rfl) ⟨(Nat.le_of_ble_eq_true rfl), (Nat.le_of_ble_eq_true rfl)⟩ hk ?_ ?_
  · rintro _ M' ⟨x, rfl, hP⟩
    refine ex_iret dL_count_5 rfl rfl ?_
    exact hP
  · rintro E M' ⟨c, hC, hP⟩
    unfold cd_count at hC
    by_cases e0 : E = "java/lang/IllegalArgumentException"
    · subst e0
      refine ⟨6, 2, 1, hd_count_1, by decide, Or.inr ⟨2, rfl, dL_count_6, rfl⟩, ?_⟩
      rw [if_pos rfl] at hC
      cases hC
      refine ex_bipush (v := -101) dL_count_7 (by decide) ?_
      refine ex_iret dL_count_9 rfl rfl ?_
      exact hP
    exfalso
    rw [if_neg e0] at hC
    cases hC
