/-! ===== kernels as bits; the states as a list of kernels, found breadth first ===== -/
theorem lN_and {a b : Nat} : lN a &&& lN b = lN (a &&& b) := by
  unfold lN
  apply Int64.toBitVec_inj.mp
  simp [Int64.toBitVec_and, Int64.toBitVec_ofNat']
theorem lN_or {a b : Nat} : lN a ||| lN b = lN (a ||| b) := by
  unfold lN
  apply Int64.toBitVec_inj.mp
  simp [Int64.toBitVec_or, Int64.toBitVec_ofNat']
theorem lN_shl1 {s : Nat} (h : s < 62) : (1 : Int64) <<< ((nI s).toInt64 &&& 63) = lN (2 ^ s) := by
  have h2 : ∀ s : Fin 62, (1 : Int64) <<< ((nI s.val).toInt64 &&& 63) = lN (2 ^ s.val) := by decide +kernel
  exact h2 ⟨s, h⟩
theorem lg0 {x y : Int64} : lg_cmp x y = 0 ↔ x = y := by
  unfold lg_cmp
  constructor
  · intro h
    split at h
    · exact absurd h (by decide)
    · split at h
      · assumption
      · exact absurd h (by decide)
  · intro h
    subst h
    have : ¬ x > x := Int64.lt_irrefl
    rw [if_neg this, if_pos rfl]
/-- the bit of an item: none with the dot at the beginning -/
def kb (it : Nat) : Nat := if it % 5 = 0 then 0 else 2 ^ (it / 5 * 4 + it % 5 - 1)
theorem kb_lt {it : Nat} (h : it ≤ 75) : kb it < 2 ^ 60 := by
  unfold kb
  split
  · decide
  · exact Nat.pow_lt_pow_right (by decide) (by omega)
/-- the items of a kernel; 0 is that of state 0: the goal, dot at the beginning -/
def kst (K it : Nat) : Prop := (K = 0 ∧ it = 70) ∨ K &&& kb it ≠ 0
/-- the least closed set with K -/
def clP (n : Nat) (sy : Nat → Nat → Nat) (K : Nat → Prop) (it : Nat) : Prop := ∀ S : Nat → Prop, (∀ j, j < 75 → K j → S j) → clS n sy S → S it
theorem isCl.iff {n : Nat} {sy : Nat → Nat → Nat} {K C : Nat → Prop} (h : isCl n sy K C) {it : Nat} (hi : it < 75) : C it ↔ clP n sy K it :=
  ⟨fun hc S h1 h2 => h.2.2 S h1 h2 it hi hc, fun hp => hp C h.1 h.2.1⟩
theorem clP_congr {n : Nat} {sy : Nat → Nat → Nat} {K K' : Nat → Prop} (h : ∀ j, j < 75 → (K j ↔ K' j)) {it : Nat} : clP n sy K it ↔ clP n sy K' it :=
  ⟨fun hp S h1 h2 => hp S (fun j hj hk => h1 j hj ((h j hj).mp hk)) h2, fun hp S h1 h2 => hp S (fun j hj hk => h1 j hj ((h j hj).mpr hk)) h2⟩
noncomputable def nkU (P : Nat → Prop) (sy : Nat → Nat → Nat) (x : Nat) : Nat → Nat
  | 0 => 0
  | k + 1 => @ite Nat (P k ∧ bh sy k = x) (Classical.propDecidable _) (nkU P sy x k ||| kb (k + 1)) (nkU P sy x k)
theorem nkU_yes {P : Nat → Prop} {sy : Nat → Nat → Nat} {x k : Nat} (h : P k) (hx : bh sy k = x) : nkU P sy x (k + 1) = nkU P sy x k ||| kb (k + 1) := by
  show (@ite Nat (P k ∧ bh sy k = x) (Classical.propDecidable _) _ _) = _
  rw [if_pos ⟨h, hx⟩]
theorem nkU_no {P : Nat → Prop} {sy : Nat → Nat → Nat} {x k : Nat} (h : ¬ (P k ∧ bh sy k = x)) : nkU P sy x (k + 1) = nkU P sy x k := by
  show (@ite Nat (P k ∧ bh sy k = x) (Classical.propDecidable _) _ _) = _
  rw [if_neg h]
theorem nkU_congr {P P' : Nat → Prop} {sy : Nat → Nat → Nat} {x : Nat} : ∀ {k : Nat}, (∀ j, j < k → (P j ↔ P' j)) → nkU P sy x k = nkU P' sy x k
  | 0, _ => rfl
  | k + 1, h => by
    have ih := nkU_congr (P := P) (P' := P') (sy := sy) (x := x) (k := k) (fun j hj => h j (by omega))
    by_cases hp : P k ∧ bh sy k = x
    · rw [nkU_yes hp.1 hp.2, nkU_yes ((h k (by omega)).mp hp.1) hp.2, ih]
    · rw [nkU_no hp, nkU_no (fun q => hp ⟨(h k (by omega)).mpr q.1, q.2⟩), ih]
theorem nkU_lt {P : Nat → Prop} {sy : Nat → Nat → Nat} {x : Nat} : ∀ {k : Nat}, k ≤ 75 → nkU P sy x k < 2 ^ 60
  | 0, _ => Nat.two_pow_pos 60
  | k + 1, h => by
    have ih := nkU_lt (P := P) (sy := sy) (x := x) (k := k) (by omega)
    by_cases hp : P k ∧ bh sy k = x
    · rw [nkU_yes hp.1 hp.2]; exact Nat.or_lt_two_pow (n := 60) ih (kb_lt (by omega))
    · rw [nkU_no hp]; exact ih
/-- the kernel to which one goes by x from the state of kernel K -/
noncomputable def nx (n : Nat) (sy : Nat → Nat → Nat) (K x : Nat) : Nat := nkU (clP n sy (kst K)) sy x 75
noncomputable def stp (n : Nat) (sy : Nat → Nat → Nat) (ks : List Nat) (s x : Nat) : List Nat := if nx n sy (ks.getD s 0) x = 0 ∨ nx n sy (ks.getD s 0) x ∈ ks then ks else ks ++ [nx n sy (ks.getD s 0) x]
noncomputable def bfs (n : Nat) (sy : Nat → Nat → Nat) : Nat → Nat → Nat → List Nat → List Nat
  | 0, _, _, ks => ks
  | m + 1, s, x, ks => if s < ks.length then (if x < 14 then bfs n sy m s (x + 1) (stp n sy ks s x) else bfs n sy m (s + 1) 1 ks) else ks
/-- all kernels, in the order in which they are found -/
noncomputable def KS (n : Nat) (sy : Nat → Nat → Nat) : List Nat := bfs n sy 1000 0 1 [0]
noncomputable def tg (n : Nat) (sy : Nat → Nat → Nat) (ks : List Nat) (s x : Nat) : Nat := if nx n sy (ks.getD s 0) x = 0 then 0 else ks.idxOf (nx n sy (ks.getD s 0) x)
theorem stp_pre {n : Nat} {sy : Nat → Nat → Nat} {ks : List Nat} {s x : Nat} : ks <+: stp n sy ks s x := by
  unfold stp; split
  · exact List.prefix_refl _
  · exact List.prefix_append _ _
theorem bfs_pre {n : Nat} {sy : Nat → Nat → Nat} : ∀ {m s x : Nat} {ks : List Nat}, ks <+: bfs n sy m s x ks
  | 0, _, _, ks => List.prefix_refl _
  | m + 1, s, x, ks => by
    show ks <+: if s < ks.length then _ else ks
    split
    · split
      · exact List.IsPrefix.trans stp_pre bfs_pre
      · exact bfs_pre
    · exact List.prefix_refl _
theorem bfs_end {n : Nat} {sy : Nat → Nat → Nat} {m s x : Nat} {ks : List Nat} (h : ks.length ≤ s) : bfs n sy m s x ks = ks := by
  cases m with
  | zero => rfl
  | succ m => show (if s < ks.length then _ else ks) = ks; rw [if_neg (by omega)]
theorem bfs_x {n : Nat} {sy : Nat → Nat → Nat} {m s x : Nat} {ks : List Nat} (h : s < ks.length) (hx : x < 14) : bfs n sy (m + 1) s x ks = bfs n sy m s (x + 1) (stp n sy ks s x) := by
  show (if s < ks.length then _ else ks) = _; rw [if_pos h, if_pos hx]
theorem bfs_s {n : Nat} {sy : Nat → Nat → Nat} {m s x : Nat} {ks : List Nat} (h : s < ks.length) (hx : ¬ x < 14) : bfs n sy (m + 1) s x ks = bfs n sy m (s + 1) 1 ks := by
  show (if s < ks.length then _ else ks) = _; rw [if_pos h, if_neg hx]
theorem pre_getD {ks l : List Nat} (h : ks <+: l) {s : Nat} (hs : s < ks.length) : l.getD s 0 = ks.getD s 0 := by
  obtain ⟨t, rfl⟩ := h
  simp [List.getD_eq_getElem?_getD, List.getElem?_append_left hs]
theorem pre_idx {ks l : List Nat} (h : ks <+: l) {K : Nat} (hK : K ∈ ks) : l.idxOf K = ks.idxOf K := by
  obtain ⟨t, rfl⟩ := h
  rw [List.idxOf_append, if_pos hK]
/-- a target, once found, stays -/
theorem tg_pre {n : Nat} {sy : Nat → Nat → Nat} {ks l : List Nat} (h : ks <+: l) {s x : Nat} (hs : s < ks.length) (hK : nx n sy (ks.getD s 0) x = 0 ∨ nx n sy (ks.getD s 0) x ∈ ks) : tg n sy l s x = tg n sy ks s x := by
  unfold tg
  rw [pre_getD h hs]
  rcases hK with h0 | h0
  · rw [if_pos h0, if_pos h0]
  · rw [pre_idx h h0]
theorem kst_bits {K K' : Nat} (h1 : K < 2 ^ 60) (h2 : K' < 2 ^ 60) (h : ∀ it, it < 75 → it % 5 ≠ 0 → (K &&& kb it ≠ 0 ↔ K' &&& kb it ≠ 0)) : K = K' := by
  apply Nat.eq_of_testBit_eq
  intro j
  by_cases hj : j < 60
  · have e := h (j / 4 * 5 + j % 4 + 1) (by omega) (by omega)
    have ek : kb (j / 4 * 5 + j % 4 + 1) = 2 ^ j := by
      unfold kb
      rw [if_neg (by omega)]
      congr 1
      omega
    rw [ek] at e
    have tb : ∀ a : Nat, a &&& 2 ^ j ≠ 0 ↔ a.testBit j = true := by
      intro a
      constructor
      · intro hne
        cases hb : a.testBit j
        · exfalso
          apply hne
          apply Nat.eq_of_testBit_eq
          intro k
          rw [Nat.testBit_and, Nat.testBit_two_pow, Nat.zero_testBit]
          by_cases hk : j = k
          · subst hk; rw [hb]; rfl
          · simp [hk]
        · rfl
      · intro hb h0
        have h1 : (a &&& 2 ^ j).testBit j = true := by rw [Nat.testBit_and, Nat.testBit_two_pow, hb]; simp
        rw [h0, Nat.zero_testBit] at h1
        cases h1
    rw [tb, tb] at e
    cases ha : K.testBit j <;> cases hb : K'.testBit j <;> simp_all
  · rw [Nat.testBit_lt_two_pow (Nat.lt_of_lt_of_le h1 (Nat.pow_le_pow_right (by decide) (by omega))), Nat.testBit_lt_two_pow (Nat.lt_of_lt_of_le h2 (Nat.pow_le_pow_right (by decide) (by omega)))]
