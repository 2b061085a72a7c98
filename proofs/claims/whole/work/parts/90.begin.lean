/-! ===== the law: from its beginning to its loop ===== -/
def IWl : List ((Nat × Nat) × Int32) := [((0, 8), (-1)), ((0, 7), nI (0)), ((51, 2), nI (0)), ((52, 1), nI (8)), ((52, 0), nI (150)), ((46, 2), nI (0)), ((47, 1), nI (8)), ((47, 0), nI (150)), ((32, 7), nI (0)), ((32, 6), nI (0)), ((27, 3), nI (0)), ((16, 7), nI (0)), ((16, 6), nI (0)), ((25, 1), nI (7)), ((25, 0), nI (50)), ((23, 1), nI (14)), ((23, 0), nI (50)), ((21, 1), nI (75)), ((21, 0), nI (50)), ((1, 8), nI (0)), ((1, 7), nI (0)), ((14, 1), nI (15)), ((14, 0), nI (14)), ((12, 1), nI (15)), ((12, 0), nI (14)), ((10, 1), nI (15)), ((10, 0), nI (14)), ((2, 1), nI (5)), ((2, 0), nI (15))]
def RWl : List ((Nat × Nat) × Nat) := [((0, 6), 51), ((51, 1), 54), ((54, 0), 55), ((51, 0), 52), ((52, 2), 53), ((0, 5), 46), ((46, 1), 49), ((49, 0), 50), ((46, 0), 47), ((47, 2), 48), ((0, 4), 41), ((41, 2), 44), ((44, 0), 45), ((41, 1), 42), ((42, 0), 43), ((41, 0), 1), ((0, 3), 32), ((32, 5), 39), ((39, 0), 40), ((32, 4), 37), ((37, 0), 38), ((32, 3), 35), ((35, 0), 36), ((32, 2), 33), ((33, 0), 34), ((32, 1), 16), ((32, 0), 1), ((0, 2), 27), ((27, 2), 30), ((30, 0), 31), ((27, 1), 28), ((28, 0), 29), ((27, 0), 1), ((0, 1), 16), ((16, 5), 25), ((25, 2), 26), ((16, 4), 23), ((23, 2), 24), ((16, 3), 21), ((21, 2), 22), ((16, 2), 19), ((19, 0), 20), ((16, 1), 17), ((17, 0), 18), ((16, 0), 1), ((0, 0), 1), ((1, 6), 14), ((14, 2), 15), ((1, 5), 12), ((12, 2), 13), ((1, 4), 10), ((10, 2), 11), ((1, 3), 8), ((8, 0), 9), ((1, 2), 6), ((6, 0), 7), ((1, 1), 4), ((4, 0), 5), ((1, 0), 2), ((2, 2), 3)]
def IMl : List ((Nat × Nat) × Int32) := [((56, 44), (-1)), ((0, 8), (-1)), ((0, 7), nI (0)), ((51, 2), nI (0)), ((52, 1), nI (8)), ((52, 0), nI (150)), ((46, 2), nI (0)), ((47, 1), nI (8)), ((47, 0), nI (150)), ((32, 7), nI (0)), ((32, 6), nI (0)), ((27, 3), nI (0)), ((16, 7), nI (0)), ((16, 6), nI (0)), ((25, 1), nI (7)), ((25, 0), nI (50)), ((23, 1), nI (14)), ((23, 0), nI (50)), ((21, 1), nI (75)), ((21, 0), nI (50)), ((1, 8), nI (0)), ((1, 7), nI (0)), ((14, 1), nI (15)), ((14, 0), nI (14)), ((12, 1), nI (15)), ((12, 0), nI (14)), ((10, 1), nI (15)), ((10, 0), nI (14)), ((2, 1), nI (5)), ((2, 0), nI (15))]
def RMl : List ((Nat × Nat) × Nat) := [((56, 42), 92), ((56, 41), 91), ((56, 40), 90), ((56, 39), 89), ((56, 38), 88), ((56, 37), 87), ((56, 36), 86), ((56, 34), 85), ((56, 33), 84), ((56, 32), 83), ((56, 31), 82), ((56, 30), 81), ((56, 29), 80), ((56, 28), 79), ((56, 26), 78), ((56, 25), 77), ((56, 24), 76), ((56, 23), 75), ((56, 22), 74), ((56, 21), 73), ((56, 20), 72), ((56, 19), 71), ((56, 18), 70), ((56, 17), 69), ((56, 16), 68), ((56, 15), 67), ((56, 14), 66), ((56, 13), 65), ((56, 8), 64), ((56, 7), 63), ((56, 6), 62), ((56, 5), 61), ((56, 4), 60), ((56, 2), 59), ((56, 1), 58), ((56, 0), 57), ((0, 6), 51), ((51, 1), 54), ((54, 0), 55), ((51, 0), 52), ((52, 2), 53), ((0, 5), 46), ((46, 1), 49), ((49, 0), 50), ((46, 0), 47), ((47, 2), 48), ((0, 4), 41), ((41, 2), 44), ((44, 0), 45), ((41, 1), 42), ((42, 0), 43), ((41, 0), 1), ((0, 3), 32), ((32, 5), 39), ((39, 0), 40), ((32, 4), 37), ((37, 0), 38), ((32, 3), 35), ((35, 0), 36), ((32, 2), 33), ((33, 0), 34), ((32, 1), 16), ((32, 0), 1), ((0, 2), 27), ((27, 2), 30), ((30, 0), 31), ((27, 1), 28), ((28, 0), 29), ((27, 0), 1), ((0, 1), 16), ((16, 5), 25), ((25, 2), 26), ((16, 4), 23), ((23, 2), 24), ((16, 3), 21), ((21, 2), 22), ((16, 2), 19), ((19, 0), 20), ((16, 1), 17), ((17, 0), 18), ((16, 0), 1), ((0, 0), 1), ((1, 6), 14), ((14, 2), 15), ((1, 5), 12), ((12, 2), 13), ((1, 4), 10), ((10, 2), 11), ((1, 3), 8), ((8, 0), 9), ((1, 2), 6), ((6, 0), 7), ((1, 1), 4), ((4, 0), 5), ((1, 0), 2), ((2, 2), 3)]
theorem iB_hi {i0 : Nat → Nat → Int32} {l : List ((Nat × Nat) × Int32)} {c a : Nat} (h : (l.all fun p => decide (p.1.1 < c)) = true) (ha : c ≤ a) : iB i0 l a = i0 a := by
  funext k
  unfold iB
  rw [lkN h a k ha]
theorem hiW {i0 : Nat → Nat → Int32} {a : Nat} (h : 94 ≤ a) : iB i0 IWl a = i0 a := iB_hi (l := IWl) (c := 94) rfl h
theorem hiM {i0 : Nat → Nat → Int32} {a : Nat} (h : 94 ≤ a) : iB i0 IMl a = i0 a := iB_hi (l := IMl) (c := 94) rfl h
theorem lkW56 : ∀ a k, 56 ≤ a → IWl.lookup (a, k) = none := lkN (l := IWl) (c := 56) rfl
theorem lkR56 : ∀ a k, 56 ≤ a → RWl.lookup (a, k) = none := lkN (l := RWl) (c := 56) rfl
def rtO (a k : Nat) : Option Nat := if a = 0 then (if k = 5 then some 46 else if k = 6 then some 51 else ((RTl.lookup 0).getD [])[k]?) else ((RTl.lookup a).getD [])[k]?
theorem RT_rtO {a k : Nat} : RT false a k = match rtO a k with | some v => .ref v | none => .null := by
  unfold RT rtO
  by_cases h : a = 0
  · rw [if_pos h, if_pos h]
    by_cases h5 : k = 5
    · rw [if_pos h5, if_pos h5]; rfl
    · rw [if_neg h5, if_neg h5]
      by_cases h6 : k = 6
      · rw [if_pos h6, if_pos h6]; rfl
      · rw [if_neg h6, if_neg h6]
        cases ((List.lookup 0 RTl).getD [])[k]? <;> rfl
  · rw [if_neg h, if_neg h]
    cases ((List.lookup a RTl).getD [])[k]? <;> rfl
theorem rt_all : ∀ a ∈ List.range 94, ∀ k ∈ List.range 46, (match SHl[a]? with | some (.inl ci) => decide (k < xNf ci) && decide (xTy ci k ≠ 0) | _ => false) = true → RMl.lookup (a, k) = rtO a k := by decide +kernel
theorem xNf_46 : ∀ ci, ci < 11 → xNf ci ≤ 46 := by decide +kernel
theorem SHl_11 : ∀ a ∈ List.range 94, (match SHl[a]? with | some (.inl ci) => decide (ci < 11) | _ => true) = true := by decide +kernel
section S90
variable {μ ν : xMeth} {pc : Nat} {L0 : xLoc} {st stk : List Value} {M : xMem} {K : Nat × Nat} {Q : xRes → xMem → Prop} {idx : Nat} {as : List Value}
theorem ex_rq {Lc : xLoc} {n g : Nat} {i : Nat → Nat → Int32} {q : Nat → Nat → Int64} {r r' : Nat → Nat → Value} (hr : ∀ a ci k, a < n → SHl[a]? = some (.inl ci) → k < xNf ci → xTy ci k ≠ 0 → r a k = r' a k) (k : Wx μ pc Lc st (n, g, i, q, r') K Q) : Wx μ pc Lc st (n, g, i, q, r) K Q := by
  intro p l e s m args below meth c R base b D T CT ST QF hC hF H locs cells slots ls hS hL hc hs
  have hw : xWl base b T (n, g, i, q, r) = xWl base b T (n, g, i, q, r') := by
    unfold xWl
    apply List.map_congr_left
    intro a ha
    have ha := List.mem_range.mp ha
    congr 1
    unfold xE
    cases hs9 : SHl[a]? with
    | none => rfl
    | some v =>
      cases v with
      | inr w => rfl
      | inl ci =>
        show Sum.inr (ci, (List.range (xNf ci)).map (xFv base b ci (n, g, i, q, r) a)) = Sum.inr (ci, (List.range (xNf ci)).map (xFv base b ci (n, g, i, q, r') a))
        congr 2
        apply List.map_congr_left
        intro j hj
        have hj := List.mem_range.mp hj
        unfold xFv
        by_cases h0 : xTy ci j = 0
        · rw [if_pos h0, if_pos h0]
        · rw [if_neg h0, if_neg h0]
          show xV base b (r a j) = xV base b (r' a j)
          rw [hr a ci j ha hs9 hj h0]
  have hS2 : xSt μ s base b D T H locs (n, g, i, q, r') := by
    unfold xSt at hS ⊢
    rw [← hw]; exact hS
  exact k p l e s m args below meth c R base b D T CT ST QF hC hF H locs cells slots ls hS2 hL hc hs
theorem ex_cVL {a ci : Nat} {z : vw_C} {Lc : xLoc} (d : decode (xCd μ) pc = .ok (.invokevirtual idx, 3)) (ln : xLV (xOwn μ) idx ν) (mf : xMF ν) (hs : SHl[a]? = some (.inl ci)) (ha : a < M.1) (hz : vwCl[ci]? = some z) (hzn : z.1 = xOwn ν) (hnp : (parseMethodDescriptor (xNm ν).desc).map (fun d => d.parameters.length) = some as.length) (hst : stk = as.reverse ++ .ref a :: st) (hL0 : xEn (xMl ν) (.ref a :: as) = L0) (hr : (xEnA (.ref a :: as)).length ≤ xMl ν ∧ (st.map fun v => v.category).sum ≤ 8 ∧ (xFr ν + 1 ≤ xFr μ ∧ 8 + (xMl ν + 11) + xLo ν ≤ xLo μ))
    (hk : Wx ν 0 L0 [] M (0, 0) (fun r M' => ∃ v, r = .ok v ∧ (M'.2.2.1 4096 = M.2.2.1 4096 ∧ M'.2.2.1 4097 = M.2.2.1 4097) ∧ Wx μ (pc + 3) Lc (v.toList ++ st) M' K Q)) : Wx μ pc Lc stk M K Q :=
  ex_callV (Kc := (0, 0)) (Qk := fun v M' => (M'.2.2.1 4096 = M.2.2.1 4096 ∧ M'.2.2.1 4097 = M.2.2.1 4097) ∧ Wx μ (pc + 3) Lc (v.toList ++ st) M' K Q) d ln mf hs ha hz hzn hnp hst hr.1 hr.2.1 hr.2.2 (Or.inr fun _ _ h => h.1) ⟨Nat.le_refl _, Nat.le_refl _⟩ (by rw [hL0]; exact hk) (fun _ _ h => h.2)
theorem ex_cHL {Lc : xLoc} {P : Nat → Int64 → Nat → (Nat → Nat → Int32) → (Nat → Nat → Int64) → Bool → Prop} {g : Nat} {i : Nat → Nat → Int32} {q : Nat → Nat → Int64} {t : Bool} (d : decode (xCd μ) pc = .ok (.invokestatic idx, 3)) (ln : Cond.methodLink (xOwn μ) idx (xNm ν) ∈ xWd ∧ Cond.static (xNm ν) ∈ xWd) (mf : xMFH ν) (hnp : (parseMethodDescriptor (xNm ν).desc).map (fun d => d.parameters.length) = some as.length) (hst : stk = as.reverse ++ st) (hL0 : xEn (xMl ν) as = L0) (hr : (xEnA as).length ≤ xMl ν ∧ (st.map fun v => v.category).sum ≤ 8 ∧ (xFr ν + 1 ≤ xFr μ ∧ 8 + (xMl ν + 11) + xLo ν ≤ xLo μ))
    (hk : Wx ν 0 L0 [] (94, g, i, q, RT t) (1, 6) (fun r M' => ∃ v, r = .ok v ∧ WR (fun k x g' i' q' t' => (i' 4096 = i 4096 ∧ i' 4097 = i 4097) ∧ P k x g' i' q' t') v M'))
    (kk : ∀ k x g' i' q' t', k < 4 → (i' 4096 = i 4096 ∧ i' 4097 = i 4097) → P k x g' i' q' t' → Wx μ (pc + 3) Lc (.int (nI k) :: st) (94, g', i', (if k = 0 then xUL q' 93 0 x else q'), RT t') K Q) : Wx μ pc Lc stk (94, g, i, q, RT t) (K.1 + 1, K.2 + 6) Q :=
  ex_callH (Kc := (1, 6)) (Qk := WR (fun k x g' i' q' t' => (i' 4096 = i 4096 ∧ i' 4097 = i 4097) ∧ P k x g' i' q' t')) d ln mf hnp hst hr.1 hr.2.1 hr.2.2 (Or.inr fun v M' h => by obtain ⟨k, x, g', i', q', t', -, rfl, -, h1, -⟩ := h; exact h1) ⟨Nat.le_refl _, Nat.le_refl _⟩ (by rw [hL0]; exact hk) (fun v M' h => by obtain ⟨k, x, g', i', q', t', rfl, rfl, hk4, h1, h2⟩ := h; exact kk k x g' i' q' t' hk4 h1 h2)
theorem ex_slenN {Lc : xLoc} {n g L : Nat} {i : Nat → Nat → Int32} {q : Nat → Nat → Int64} {r : Nat → Nat → Value} (hlaw : (xNm μ).name = "law") (d : decode (xCd μ) pc = .ok (.arraylength, 1)) (h97 : i 4097 0 = nI L) (hL : L ≤ 3072) (kk : Wx μ (pc + 1) Lc (.int (nI L) :: st) (n, g, i, q, r) K Q) : Wx μ pc Lc (.ref 4096 :: st) (n, g, i, q, r) K Q :=
  ex_slen hlaw (N := L) (by rw [h97]; exact nI_clamp (by omega)) rfl d kk
theorem ex_sldN {Lc : xLoc} {n g L j : Nat} {x : Int32} {i : Nat → Nat → Int32} {q : Nat → Nat → Int64} {r : Nat → Nat → Value} (hlaw : (xNm μ).name = "law") (d : decode (xCd μ) pc = .ok (.iaload, 1)) (h97 : i 4097 0 = nI L) (hL : L ≤ 3072) (hj : j < L) (hx : i 4096 j = x) (kk : Wx μ (pc + 1) Lc (.int x :: st) (n, g, i, q, r) K Q) : Wx μ pc Lc (.int (nI j) :: .ref 4096 :: st) (n, g, i, q, r) K Q :=
  ex_sld hlaw d (by rw [h97, nI_clamp (by omega)]; exact vp_in_nI hj (by omega)) (by rw [nI_clamp (by omega)]; exact hx) kk
end S90
theorem lnH_rule : Cond.methodLink RL 66 (xNm m_Law_rule) ∈ xWd ∧ Cond.static (xNm m_Law_rule) ∈ xWd := by decide +kernel
theorem mfH_rule : xMFH m_Law_rule := ⟨by decide +kernel, rfl, by decide, by decide +kernel, by decide +kernel, by decide⟩
theorem npH_rule : (parseMethodDescriptor (xNm m_Law_rule).desc).map (fun d => d.parameters.length) = some 7 := by decide +kernel
theorem lnH_level : Cond.methodLink RL 75 (xNm m_Law_level) ∈ xWd ∧ Cond.static (xNm m_Law_level) ∈ xWd := by decide +kernel
theorem mfH_level : xMFH m_Law_level := ⟨by decide +kernel, rfl, by decide, by decide +kernel, by decide +kernel, by decide⟩
theorem npH_level : (parseMethodDescriptor (xNm m_Law_level).desc).map (fun d => d.parameters.length) = some 5 := by decide +kernel
theorem lnH_equation : Cond.methodLink RL 79 (xNm m_Law_equation) ∈ xWd ∧ Cond.static (xNm m_Law_equation) ∈ xWd := by decide +kernel
theorem mfH_equation : xMFH m_Law_equation := ⟨by decide +kernel, rfl, by decide, by decide +kernel, by decide +kernel, by decide⟩
theorem npH_equation : (parseMethodDescriptor (xNm m_Law_equation).desc).map (fun d => d.parameters.length) = some 7 := by decide +kernel
theorem lnH_build : Cond.methodLink RL 82 (xNm m_Law_build) ∈ xWd ∧ Cond.static (xNm m_Law_build) ∈ xWd := by decide +kernel
theorem mfH_build : xMFH m_Law_build := ⟨by decide +kernel, rfl, by decide, by decide +kernel, by decide +kernel, by decide⟩
theorem npH_build : (parseMethodDescriptor (xNm m_Law_build).desc).map (fun d => d.parameters.length) = some 2 := by decide +kernel
theorem lnH_first : Cond.methodLink RL 86 (xNm m_Law_first) ∈ xWd ∧ Cond.static (xNm m_Law_first) ∈ xWd := by decide +kernel
theorem mfH_first : xMFH m_Law_first := ⟨by decide +kernel, rfl, by decide, by decide +kernel, by decide +kernel, by decide⟩
theorem npH_first : (parseMethodDescriptor (xNm m_Law_first).desc).map (fun d => d.parameters.length) = some 3 := by decide +kernel
theorem lnH_action : Cond.methodLink RL 90 (xNm m_Law_action) ∈ xWd ∧ Cond.static (xNm m_Law_action) ∈ xWd := by decide +kernel
theorem mfH_action : xMFH m_Law_action := ⟨by decide +kernel, rfl, by decide, by decide +kernel, by decide +kernel, by decide⟩
theorem npH_action : (parseMethodDescriptor (xNm m_Law_action).desc).map (fun d => d.parameters.length) = some 4 := by decide +kernel
theorem lnH_go : Cond.methodLink RL 94 (xNm m_Law_go) ∈ xWd ∧ Cond.static (xNm m_Law_go) ∈ xWd := by decide +kernel
theorem mfH_go : xMFH m_Law_go := ⟨by decide +kernel, rfl, by decide, by decide +kernel, by decide +kernel, by decide⟩
theorem npH_go : (parseMethodDescriptor (xNm m_Law_go).desc).map (fun d => d.parameters.length) = some 4 := by decide +kernel
theorem lnH_lookaheads : Cond.methodLink RL 97 (xNm m_Law_lookaheads) ∈ xWd ∧ Cond.static (xNm m_Law_lookaheads) ∈ xWd := by decide +kernel
theorem mfH_lookaheads : xMFH m_Law_lookaheads := ⟨by decide +kernel, rfl, by decide, by decide +kernel, by decide +kernel, by decide⟩
theorem npH_lookaheads : (parseMethodDescriptor (xNm m_Law_lookaheads).desc).map (fun d => d.parameters.length) = some 4 := by decide +kernel
theorem lnH_token : Cond.methodLink RL 100 (xNm m_Law_token) ∈ xWd ∧ Cond.static (xNm m_Law_token) ∈ xWd := by decide +kernel
theorem mfH_token : xMFH m_Law_token := ⟨by decide +kernel, rfl, by decide, by decide +kernel, by decide +kernel, by decide⟩
theorem npH_token : (parseMethodDescriptor (xNm m_Law_token).desc).map (fun d => d.parameters.length) = some 4 := by decide +kernel
theorem lnH_parse : Cond.methodLink RL 103 (xNm m_Law_parse) ∈ xWd ∧ Cond.static (xNm m_Law_parse) ∈ xWd := by decide +kernel
theorem mfH_parse : xMFH m_Law_parse := ⟨by decide +kernel, rfl, by decide, by decide +kernel, by decide +kernel, by decide⟩
theorem npH_parse : (parseMethodDescriptor (xNm m_Law_parse).desc).map (fun d => d.parameters.length) = some 2 := by decide +kernel
theorem lnH_node : Cond.methodLink RL 110 (xNm m_Law_node) ∈ xWd ∧ Cond.static (xNm m_Law_node) ∈ xWd := by decide +kernel
theorem mfH_node : xMFH m_Law_node := ⟨by decide +kernel, rfl, by decide, by decide +kernel, by decide +kernel, by decide⟩
theorem npH_node : (parseMethodDescriptor (xNm m_Law_node).desc).map (fun d => d.parameters.length) = some 4 := by decide +kernel
theorem lnH_attribute : Cond.methodLink RL 113 (xNm m_Law_attribute) ∈ xWd ∧ Cond.static (xNm m_Law_attribute) ∈ xWd := by decide +kernel
theorem mfH_attribute : xMFH m_Law_attribute := ⟨by decide +kernel, rfl, by decide, by decide +kernel, by decide +kernel, by decide⟩
theorem npH_attribute : (parseMethodDescriptor (xNm m_Law_attribute).desc).map (fun d => d.parameters.length) = some 4 := by decide +kernel
theorem lnH_count : Cond.methodLink RL 120 (xNm m_Law_count) ∈ xWd ∧ Cond.static (xNm m_Law_count) ∈ xWd := by decide +kernel
theorem mfH_count : xMFH m_Law_count := ⟨by decide +kernel, rfl, by decide, by decide +kernel, by decide +kernel, by decide⟩
theorem npH_count : (parseMethodDescriptor (xNm m_Law_count).desc).map (fun d => d.parameters.length) = some 3 := by decide +kernel
theorem lw_begin {xs : Nat → Int32} {L : Nat} {Q : xRes → xMem → Prop} (hN : ∀ i1, (∀ c, c ≠ 62 → i1 c = iB (i0L xs L) IMl c) → (∀ j, j < 210 → i1 62 j = -1) → Wx m_Law_law 23 [some (.ref 4096), some (.ref 0), some (.ref 56), some (.ref 93), some (.int (nI 0)), none, none, none] [] (94, 0, i1, q0L, RT false) (512, 3072) Q) :
    Wx m_Law_law 0 [some (.ref 4096), none, none, none, none, none, none, none] [] (0, 0, i0L xs L, q0L, r0L) (601024, 7293034) Q := by
  have h0 : ∀ a, a < 94 → i0L xs L a = fun _ => 0 := fun a ha => by
    funext k
    unfold i0L
    rw [if_neg (by omega), if_neg (by omega)]
  refine ex_mem (i' := iB (i0L xs L) []) rfl ?_
  refine ex_rr (r' := rB []) rfl ?_
  refine ex_Kw (K := (601023 + 1, 7293025 + xNf 9)) ⟨by decide, by decide⟩ ?_
  refine ex_new (ci := 9) dL_law_0 cf_9 nw_Law_8.1 nw_Law_8.2.1 nw_Law_8.2.2 rfl ?_
  refine ex_mem (xZ_B (h0 0 (by decide)) (fun k => rfl)) ?_
  refine ex_rr (xZR_B (fun k => rfl)) ?_
  refine ex_dup dL_law_3 rfl ?_
  refine ex_callI (Kc := (55, 10288)) (K := (600968, 7282737)) (a := 0) (ci := 9) (as := []) (Qk := fun v M => v = none ∧ M = (56, 0, iB (i0L xs L) IWl, q0L, rB RWl)) dL_law_4 ln_Law_62 mf_Works_init rfl (Nat.le_of_ble_eq_true rfl) np_Works_init rfl (Nat.le_of_ble_eq_true rfl) (Nat.le_of_ble_eq_true rfl) ⟨(Nat.le_of_ble_eq_true rfl), (Nat.le_of_ble_eq_true rfl)⟩ (Or.inr (by rintro _ _ ⟨-, rfl⟩; exact ⟨hiW (a := 4096) (by decide), hiW (a := 4097) (by decide)⟩)) ⟨by decide, by decide⟩ (sp_Works_init_0 h0 ⟨none, rfl, rfl, rfl⟩) ?_
  rintro _ _ ⟨rfl, rfl⟩
  refine ex_astore_n (L' := [some (.ref (4096)), some (.ref (0)), none, none, none, none, none, none]) dL_law_7 (i := 1) rfl (by decide) rfl ?_
  refine ex_Kw (K := (600967 + 1, 7282691 + xNf 10)) ⟨by decide, by decide⟩ ?_
  refine ex_new (ci := 10) dL_law_8 cf_10 nw_Law_63.1 nw_Law_63.2.1 nw_Law_63.2.2 rfl ?_
  refine ex_mem (xZ_B (h0 56 (by decide)) (fun k => lkW56 56 k (by decide))) ?_
  refine ex_rr (xZR_B (fun k => lkR56 56 k (by decide))) ?_
  refine ex_dup dL_law_11 rfl ?_
  refine ex_callI (Kc := (36, 11063)) (K := (600931, 7271628)) (a := 56) (ci := 10) (as := []) (Qk := fun v M => v = none ∧ ∃ i1, M = (93, 0, i1, q0L, rB RMl) ∧ (∀ c, c ≠ 62 → i1 c = iB (i0L xs L) IMl c) ∧ ∀ j, j < 210 → i1 62 j = -1) dL_law_12 ln_Law_65 mf_Model_init rfl (Nat.le_of_ble_eq_true rfl) np_Model_init rfl (Nat.le_of_ble_eq_true rfl) (Nat.le_of_ble_eq_true rfl) ⟨(Nat.le_of_ble_eq_true rfl), (Nat.le_of_ble_eq_true rfl)⟩ (Or.inr (by rintro _ _ ⟨-, i1, rfl, h1, -⟩; exact ⟨(h1 4096 (by decide)).trans ((hiM (a := 4096) (by decide)).trans (hiW (a := 4096) (by decide)).symm), (h1 4097 (by decide)).trans ((hiM (a := 4097) (by decide)).trans (hiW (a := 4097) (by decide)).symm)⟩)) ⟨by decide, by decide⟩ (sp_Model_init h0 (fun a k h => lkW56 a k (by omega)) (fun i1 h1 h2 => ⟨none, rfl, rfl, i1, rfl, h1, h2⟩)) ?_
  rintro _ _ ⟨rfl, i1, rfl, h1, h2⟩
  refine ex_astore_n (L' := [some (.ref (4096)), some (.ref (0)), some (.ref (56)), none, none, none, none, none]) dL_law_15 (i := 2) rfl (by decide) rfl ?_

  refine ex_iconst (v := nI 1) dL_law_16 (by decide) ?_
  refine ex_Kw (K := (600930 + 1, 7271627 + 1)) ⟨by decide, by decide⟩ ?_
  refine ex_newaJ (N := 1) dL_law_17 wr_long rfl rfl (by decide) ?_
  refine ex_mq xZL_q ?_
  refine ex_astore_n (L' := [some (.ref (4096)), some (.ref (0)), some (.ref (56)), some (.ref (93)), none, none, none, none]) dL_law_19 (i := 3) rfl (by decide) rfl ?_
  refine ex_iconst (v := nI 0) dL_law_20 (by decide) ?_
  refine ex_istore (L' := [some (.ref (4096)), some (.ref (0)), some (.ref (56)), some (.ref (93)), some (.int (nI (0))), none, none, none]) dL_law_21 (by decide) rfl ?_
  refine ex_rq (r' := RT false) (fun a ci k ha hs hk ht => ?_) (ex_Kw ⟨by decide, by decide⟩ (hN i1 h1 h2))
  have h11 := SHl_11 a (List.mem_range.mpr ha)
  rw [hs] at h11
  have hk46 := Nat.lt_of_lt_of_le hk (xNf_46 ci (of_decide_eq_true h11))
  have := rt_all a (List.mem_range.mpr ha) k (List.mem_range.mpr hk46) (by rw [hs]; simp [hk, ht])
  rw [RT_rtO, ← this]
  rfl
