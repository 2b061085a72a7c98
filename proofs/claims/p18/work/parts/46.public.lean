/-! ===== the public methods ===== -/
theorem ex_K0 {μ : xMeth} {pc : Nat} {L : xLoc} {st : List Value} {M : xMem} {K : Nat × Nat} {Q : xRes → xMem → Prop} (k : Wx μ pc L st M (0, 0) Q) : Wx μ pc L st M K Q := by
  intro p l e s m args below meth c R base b D T CT ST QF hC hF H locs cells slots ls hS hL hc hs
  exact k p l e s m args below meth c R base b D T CT ST QF hC hF H locs cells slots ls hS hL (Nat.le_trans (Nat.add_le_add_left (Nat.zero_le _) _) hc) (Nat.le_trans (Nat.add_le_add_left (Nat.zero_le _) _) hs)
section S46
variable {ζ g : Nat} {i : Nat → Nat → Int32} {q : Nat → Nat → Int64} {t : Bool} {Q : xRes → xMem → Prop} {n : Nat} {sy : Nat → Nat → Nat}
theorem tmX_s {x : Int32} (h : ¬ tmX x = 0) : ∃ s, x = nI s ∧ 1 ≤ s ∧ s ≤ 6 := by
  unfold tmX at h
  by_cases c : 1 ≤ x.toInt ∧ x.toInt ≤ 6
  · obtain ⟨a, ha, rfl⟩ := nI_of (x := x) (fun z => by have := Int32.lt_iff_toInt_lt.mp z; simp at this; omega)
    rw [nI_toInt ha] at c
    exact ⟨a, rfl, by omega, by omega⟩
  · rw [if_neg c] at h; exact absurd rfl h
theorem ntX_s {x : Int32} (h : ¬ ntX x = 0) : ∃ s, x = nI s ∧ 8 ≤ s ∧ s ≤ 13 := by
  unfold ntX at h
  by_cases c : 8 ≤ x.toInt ∧ x.toInt ≤ 13
  · obtain ⟨a, ha, rfl⟩ := nI_of (x := x) (fun z => by have := Int32.lt_iff_toInt_lt.mp z; simp at this; omega)
    rw [nI_toInt ha] at c
    exact ⟨a, rfl, by omega, by omega⟩
  · rw [if_neg c] at h; exact absurd rfl h
theorem smX_s {x : Int32} (h : ¬ smX x = 0) : ∃ s, x = nI s ∧ (1 ≤ s ∧ s ≤ 6 ∨ 8 ≤ s ∧ s ≤ 13) := by
  unfold smX at h
  by_cases c : tmX x = 0
  · by_cases c2 : ntX x = 0
    · rw [if_pos ⟨c, c2⟩] at h; exact absurd rfl h
    · obtain ⟨s, e, a, b⟩ := ntX_s c2; exact ⟨s, e, Or.inr ⟨a, b⟩⟩
  · obtain ⟨s, e, a, b⟩ := tmX_s c; exact ⟨s, e, Or.inl ⟨a, b⟩⟩
theorem sp_Works_fault (hQ : Q (.ok (some (.int (i 0 8)))) (56 + ζ, g, i, q, RT t)) : Wx m_Works_fault 0 [some (.ref 0)] [] (56 + ζ, g, i, q, RT t) (0, 0) Q := by
  refine ex_aload_n (i := 0) dX9_fault_0 rfl rfl ?_
  refine ex_getI dX9_fault_1 fl_Works_62 rfl rfl (l56 (by decide)) ?_
  refine ex_iret dX9_fault_4 rfl rfl ?_
  exact hQ
end S46
