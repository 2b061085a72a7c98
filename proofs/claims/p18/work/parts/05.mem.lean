/-! ===== fields, arrays, making ===== -/
/-- what the tables say of class ci -/
def xCF (ci : Nat) (C : String) (T : u_T) (ty : Nat → FieldType) : Prop := vwCl[ci]? = some (C, T, xNf ci) ∧ (∀ w ∈ u_ws C T (xNf ci), w ∈ xWd) ∧ (∀ k, k < xNf ci → parseFieldDescriptor (T k).2.2.1 = some (ty k)) ∧
  (∀ a, a < xNf ci → ∀ b, b < xNf ci → a ≠ b → (T a).2.1 ≠ (T b).2.1) ∧ (∀ k, k < xNf ci → defaultValue (ty k) = if xTy ci k = 0 then .int 0 else .null)
/-- entry idx of the class own names field k of class ci -/
def xLF (own : String) (idx ci k : Nat) (C : String) (T : u_T) : Prop := vwCl[ci]? = some (C, T, xNf ci) ∧ (∀ w ∈ u_ws C T (xNf ci), w ∈ xWd) ∧ k < xNf ci ∧ Cond.fieldLink own idx (T k).1 (T k).2.1 (T k).2.2.1 ∈ xWd
section XMEM
variable {μ : xMeth} {pc : Nat} {L : xLoc} {st : List Value} {n g : Nat} {i : Nat → Nat → Int32} {q : Nat → Nat → Int64} {r : Nat → Nat → Value} {K : Nat × Nat} {Q : xRes → xMem → Prop}
theorem xE_obj {base b : Nat} {T : ClassId × ClassId × ClassId} {M : xMem} {a ci : Nat} (hs : SHl[a]? = some (.inl ci)) : xE base b T M a = .inr (ci, (List.range (xNf ci)).map (xFv base b ci M a)) := by
  unfold xE; rw [hs]
theorem xE_int {base b : Nat} {T : ClassId × ClassId × ClassId} {M : xMem} {a N : Nat} (hs : SHl[a]? = some (.inr (0, N))) : xE base b T M a = .inl (T.1, (N, .inl (M.2.2.1 a))) := by
  unfold xE; rw [hs]; rfl
theorem xE_long {base b : Nat} {T : ClassId × ClassId × ClassId} {M : xMem} {a N : Nat} (hs : SHl[a]? = some (.inr (2, N))) : xE base b T M a = .inl (T.2.2, (N, .inr (.inl (M.2.2.2.1 a)))) := by
  unfold xE; rw [hs]; rfl
theorem sh_lt {a : Nat} {z : Nat ⊕ (Nat × Nat)} (h : SHl[a]? = some z) : a < 60 := (List.getElem?_eq_some_iff.mp h).1
theorem sh_ref {base b a : Nat} {z : Nat ⊕ (Nat × Nat)} (h : SHl[a]? = some z) : xV base b (.ref a) = .ref (base + a) := xV_ref (Nat.lt_of_lt_of_le (sh_lt h) (by decide))
theorem ex_getI {ci k idx a : Nat} {C : String} {T : u_T} (d : decode (xCd μ) pc = .ok (.getfield idx, 3)) (f : xLF (xOwn μ) idx ci k C T) (h0 : xTy ci k = 0) (hs : SHl[a]? = some (.inl ci)) (ha : a < n) (kk : Wx μ (pc + 3) L (.int (i a k) :: st) (n, g, i, q, r) K Q) : Wx μ pc L (.ref a :: st) (n, g, i, q, r) K Q := by
  intro p l e s m args below meth c R base b D T2 CT ST QF hC hF H locs cells slots ls hS hL hc hs1
  obtain ⟨f1, f2, f3, f4⟩ := f
  have hget := xWl_get (base := base) (b := b) (T := T2) (M := (n, g, i, q, r)) ha
  rw [xE_obj hs] at hget
  show W p l e R s m args below meth c H locs cells slots QF (F0 m pc ls (xV base b (.ref a) :: st.map (xV base b)))
  rw [sh_ref hs]
  refine va_get hC.1 hC.2.1 hC.2.2.2.2.1 f2 hC.2.2.1 hC.2.2.2.2.2.2.2.2.1 hS.1 a hget f1 k f3 (hC.2.2.2.2.1 _ f4) (fun x h => h) (v := .int (i a k)) ?_ d (kk p l e s m args below meth c R base b D T2 CT ST QF hC hF H locs cells slots ls hS hL hc hs1)
  rw [List.getElem?_map, List.getElem?_range f3]
  show some (xFv base b ci (n, g, i, q, r) a k) = _
  unfold xFv
  rw [if_pos h0]
theorem ex_getR {ci k idx a : Nat} {v : Value} {C : String} {T : u_T} (d : decode (xCd μ) pc = .ok (.getfield idx, 3)) (f : xLF (xOwn μ) idx ci k C T) (h0 : xTy ci k = 1) (hs : SHl[a]? = some (.inl ci)) (ha : a < n) (hv : r a k = v) (kk : Wx μ (pc + 3) L (v :: st) (n, g, i, q, r) K Q) : Wx μ pc L (.ref a :: st) (n, g, i, q, r) K Q := by
  intro p l e s m args below meth c R base b D T2 CT ST QF hC hF H locs cells slots ls hS hL hc hs1
  subst hv
  obtain ⟨f1, f2, f3, f4⟩ := f
  have hget := xWl_get (base := base) (b := b) (T := T2) (M := (n, g, i, q, r)) ha
  rw [xE_obj hs] at hget
  show W p l e R s m args below meth c H locs cells slots QF (F0 m pc ls (xV base b (.ref a) :: st.map (xV base b)))
  rw [sh_ref hs]
  refine va_get hC.1 hC.2.1 hC.2.2.2.2.1 f2 hC.2.2.1 hC.2.2.2.2.2.2.2.2.1 hS.1 a hget f1 k f3 (hC.2.2.2.2.1 _ f4) (fun x h => h) (v := xV base b (r a k)) ?_ d (kk p l e s m args below meth c R base b D T2 CT ST QF hC hF H locs cells slots ls hS hL hc hs1)
  rw [List.getElem?_map, List.getElem?_range f3]
  show some (xFv base b ci (n, g, i, q, r) a k) = _
  unfold xFv
  rw [if_neg (by rw [h0]; decide)]
theorem xSt_upd {s : State} {base b : Nat} {D : va_G} {T : ClassId × ClassId × ClassId} {H H1 : Heap} {locs locs1 : List Loc} {M M' : xMem} {a : Nat} {E : va_E} (hS : xSt μ s base b D T H locs M) (ha : a < M.1) (hz : H1.size = H.size) (h1 : M'.1 = M.1) (h2 : M'.2.1 = M.2.1) (hE : xE base b T M' a = E) (ho : ∀ k, k ≠ a → M.2.2.1 k = M'.2.2.1 k ∧ M.2.2.2.1 k = M'.2.2.2.1 k ∧ M.2.2.2.2 k = M'.2.2.2.2 k)
    (hP : va_P D vwCl ((xWl base b T M).set a (base + a, E)) H1) (hD : va_D (fun q => base ≤ q) ((xWl base b T M).set a (base + a, E))) (hV : va_S (fun q => base ≤ q) s.heap H1 locs1) : xSt μ s base b D T H1 locs1 M' := by
  rw [xWl_set h1 hE ho] at hP hD
  obtain ⟨-, -, -, hG, hl, hx⟩ := hS
  refine ⟨hP, hD, hV, fun h => ?_, by rw [h1]; exact hl, fun h => ?_⟩
  · rw [hz, h1]; exact hG (by rw [← h2]; exact h)
  · have e : a < 60 := Nat.lt_of_lt_of_le ha (Nat.le_trans hl (by decide))
    obtain ⟨x1, x2⟩ := hx h
    rw [← (ho 4096 (by omega)).1, ← (ho 4097 (by omega)).1]
    exact ⟨x1, x2⟩
end XMEM
