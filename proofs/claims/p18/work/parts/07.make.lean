/-! ===== making, calls, contracts ===== -/
def xZ (f : Nat → Nat → Int32) (a : Nat) : Nat → Nat → Int32 := fun b => if b = a then (fun _ => 0) else f b
def xZL (f : Nat → Nat → Int64) (a : Nat) : Nat → Nat → Int64 := fun b => if b = a then (fun _ => 0) else f b
def xZR (f : Nat → Nat → Value) (a : Nat) : Nat → Nat → Value := fun b => if b = a then (fun _ => .null) else f b
section XMAKE
variable {μ : xMeth} {pc : Nat} {L : xLoc} {st : List Value} {n g : Nat} {i : Nat → Nat → Int32} {q : Nat → Nat → Int64} {r : Nat → Nat → Value} {k1 k2 : Nat} {Q : xRes → xMem → Prop}
theorem xWl_push {base b : Nat} {T : ClassId × ClassId × ClassId} {M M' : xMem} {E : va_E} (h1 : M'.1 = M.1 + 1) (hE : xE base b T M' M.1 = E) (ho : ∀ k, k ≠ M.1 → M.2.2.1 k = M'.2.2.1 k ∧ M.2.2.2.1 k = M'.2.2.2.1 k ∧ M.2.2.2.2 k = M'.2.2.2.2 k) : xWl base b T M' = xWl base b T M ++ [(base + M.1, E)] := by
  unfold xWl
  rw [h1, List.range_succ, List.map_append]
  congr 1
  · apply List.map_congr_left
    intro k hk
    have hk := List.mem_range.mp hk
    obtain ⟨e1, e2, e3⟩ := ho k (by omega)
    rw [xE_congr e1 e2 e3]
  · show [(base + M.1, xE base b T M' M.1)] = _
    rw [hE]
theorem xSt_push {s : State} {base b : Nat} {D : va_G} {T : ClassId × ClassId × ClassId} {H H1 : Heap} {locs : List Loc} {M M' : xMem} {E : va_E} (hbs : base ≤ s.heap.size) (hS : xSt μ s base b D T H locs M) (h1 : M'.1 = M.1 + 1) (hg : M.2.1 = 0) (hl : M.1 + 1 ≤ SHl.length) (hE : xE base b T M' M.1 = E) (ho : ∀ k, k ≠ M.1 → M.2.2.1 k = M'.2.2.1 k ∧ M.2.2.2.1 k = M'.2.2.2.1 k ∧ M.2.2.2.2 k = M'.2.2.2.2 k)
    (hz : H1.size = H.size + 1) (o1 : ∀ x, x < H.size → H1[x]? = H[x]?) (hat : va_at D vwCl (base + M.1, E) H1) : xSt μ s base b D T H1 locs M' := by
  obtain ⟨hP, hD, hV, hG, hl0, hx⟩ := hS
  have hsz := hG hg
  have hk : ∀ (k : Nat) (x : Nat × va_E), (xWl base b T M)[k]? = some x → H1[x.1]? = H[x.1]? := fun k x hx => o1 x.1 ((hP k x hx).lt)
  refine ⟨?_, ?_, ⟨Nat.le_trans hV.1 (by omega), fun x a1 a2 => (o1 x (Nat.lt_of_lt_of_le a1 hV.1)).trans (hV.2.1 x a1 a2), hV.2.2⟩, fun _ => by rw [hz, hsz, h1, Nat.add_assoc], by rw [h1]; exact hl, fun h => ?_⟩
  · rw [xWl_push h1 hE ho]
    refine (hP.kept hk).app (fun k x hx => ?_)
    have hz : k < 1 := (List.getElem?_eq_some_iff.mp hx).1
    rw [show k = 0 by omega] at hx
    cases hx
    exact hat
  · rw [xWl_push h1 hE ho]
    exact hD.push hP (by rw [hsz]) (Nat.le_add_right _ _)
  · have e : M.1 < 60 := Nat.lt_of_lt_of_le (Nat.lt_succ_self _) (Nat.le_trans hl (by decide))
    obtain ⟨x1, x2⟩ := hx h
    rw [← (ho 4096 (by omega)).1, ← (ho 4097 (by omega)).1]
    exact ⟨x1, x2⟩
theorem ex_new {ci idx : Nat} {C : String} {T : u_T} {ty : Nat → FieldType} (d : decode (xCd μ) pc = .ok (.new idx, 3)) (cf : xCF ci C T ty) (hcl : Cond.classLink (xOwn μ) idx C ∈ xWd) (hin : Cond.instantiable C (xNf ci) ∈ xWd) (hini : Cond.initialized C ∈ xWd) (hs : SHl[n]? = some (.inl ci))
    (kk : Wx μ (pc + 3) L (.ref n :: st) (n + 1, 0, xZ i n, q, xZR r n) (k1, k2) Q) : Wx μ pc L st (n, 0, i, q, r) (k1 + 1, k2 + xNf ci) Q := by
  intro p l e s m args below meth c R base b D T2 CT ST QF hC hF H locs cells slots ls hS hL hc hs1
  obtain ⟨c1, c2, c3, c4, c5⟩ := cf
  have hw := hC.2.2.2.2.1
  have hR1 := hC.2.2.2.2.2.2.2.2.2.2.2.1
  have hR2 := hC.2.2.2.2.2.2.2.2.2.2.2.2.1
  have hKn := hC.2.2.2.2.2.2.2.2.1.1 ci _ c1
  have hsz : H.size = base + n := hS.2.2.2.1 rfl
  have hc' : cells + (k1 + 1) ≤ CT := hc
  have hs' : slots + (k2 + xNf ci) ≤ ST := hs1
  refine W.newcK hC.1 hC.2.1 hC.2.2.1 (hw _ hcl) (hw _ hin) (hw _ hini) rfl d (by omega) (by omega) hKn.2.1 rfl fun H1 kC hkC e1 z1 o1 => ?_
  have hlt : n + 1 ≤ SHl.length := (List.getElem?_eq_some_iff.mp hs).1
  have hst : xSt μ s base b D T2 H1 locs (n + 1, 0, xZ i n, q, xZR r n) := by
    refine xSt_push (M := (n, 0, i, q, r)) hC.2.2.2.2.2.2.2.1 hS rfl rfl hlt (xE_obj hs) (fun k hk => ⟨?_, rfl, ?_⟩) z1 o1 ⟨_, c1, ?_⟩
    · show i k = (if k = n then _ else i k)
      rw [if_neg hk]
    · show r k = (if k = n then _ else r k)
      rw [if_neg hk]
    · have hb := u_born ty hw c2 hKn hkC e1 c3
      rw [hsz] at hb
      refine hb.to (fun j hj => ?_)
      show defaultValue (ty j) = List.getD _ j .null
      rw [c5 j hj, List.getD_eq_getElem?_getD, List.getElem?_map, List.getElem?_range hj]
      show _ = xFv base b ci (n + 1, 0, xZ i n, q, xZR r n) n j
      unfold xFv
      by_cases hz : xTy ci j = 0
      · rw [if_pos hz, if_pos hz]
        show _ = Value.int ((if n = n then (fun _ => 0) else i n) j)
        rw [if_pos rfl]
      · rw [if_neg hz, if_neg hz]
        show _ = xV base b ((if n = n then (fun _ => Value.null) else r n) j)
        rw [if_pos rfl]; rfl
  have hk := kk p l e s m args below meth c R base b D T2 CT ST QF hC hF H1 locs (cells + 1) (slots + xNf ci) ls hst hL (by show cells + 1 + k1 ≤ CT; omega) (by show slots + xNf ci + k2 ≤ ST; omega)
  have ev : xV base b (.ref n) = .ref H.size := by rw [sh_ref hs, hsz]
  have hk' : W p l e R s m args below meth c H1 locs (cells + 1) (slots + xNf ci) QF (F0 m (pc + 3) ls (xV base b (.ref n) :: st.map (xV base b))) := hk
  rw [ev] at hk'
  exact hk'
theorem ex_newaI {N : Nat} {x : Int32} (d : decode (xCd μ) pc = .ok (.newarray .int, 2)) (har : Cond.arrayClass .int ∈ xWd) (hs : SHl[n]? = some (.inr (0, N))) (hx : x = nI N) (hN : N < 4096)
    (kk : Wx μ (pc + 2) L (.ref n :: st) (n + 1, 0, xZ i n, q, r) (k1, k2) Q) : Wx μ pc L (.int x :: st) (n, 0, i, q, r) (k1 + 1, k2 + N) Q := by
  intro p l e s m args below meth c R base b D T2 CT ST QF hC hF H locs cells slots ls hS hL hc hs1
  subst hx
  have hw := hC.2.2.2.2.1
  have hR1 := hC.2.2.2.2.2.2.2.2.2.2.2.1
  have hR2 := hC.2.2.2.2.2.2.2.2.2.2.2.2.1
  have hsz : H.size = base + n := hS.2.2.2.1 rfl
  have hc' : cells + (k1 + 1) ≤ CT := hc
  have hs' : slots + (k2 + N) ≤ ST := hs1
  have hb31 : N < 2 ^ 31 := by omega
  have hlt : n + 1 ≤ SHl.length := (List.getElem?_eq_some_iff.mp hs).1
  have hcb : componentBytes (newarray.typeOf .int) ≤ 8 := by decide
  refine va_newaK (N := N) hC.1 hC.2.1 (atype := .int) (hw _ har) rfl d rfl (nI_pos hb31) (nI_clamp hb31) (Nat.le_trans (Nat.mul_le_mul (Nat.le_of_lt hN) hcb) (by decide)) (by omega) (by omega) rfl fun H1 cA e1 z1 o1 hAr hNm => ?_
  have hcA : cA = T2.1 := by
    have h2 := (hC.2.2.2.2.2.2.2.2.1.2 0 _ rfl).2
    exact Option.some.inj (hNm.symm.trans h2)
  subst hcA
  have hst : xSt μ s base b D T2 H1 locs (n + 1, 0, xZ i n, q, r) := by
    refine xSt_push (M := (n, 0, i, q, r)) hC.2.2.2.2.2.2.2.1 hS rfl rfl hlt (xE_int hs) (fun k hk => ⟨?_, rfl, rfl⟩) z1 o1 ?_
    · show i k = (if k = n then _ else i k)
      rw [if_neg hk]
    · show H1[base + n]? = some (vp_cell _ _)
      rw [← hsz, e1, vp_cell_i]
      congr 2
      funext j
      show _ = Value.int ((if n = n then (fun _ => 0) else i n) j)
      rw [if_pos rfl]
      rfl
  have hk := kk p l e s m args below meth c R base b D T2 CT ST QF hC hF H1 locs (cells + 1) (slots + N) ls hst hL (by show cells + 1 + k1 ≤ CT; omega) (by show slots + N + k2 ≤ ST; omega)
  have ev : xV base b (.ref n) = .ref H.size := by rw [sh_ref hs, hsz]
  have hk' : W p l e R s m args below meth c H1 locs (cells + 1) (slots + N) QF (F0 m (pc + 2) ls (xV base b (.ref n) :: st.map (xV base b))) := hk
  rw [ev] at hk'
  exact hk'
theorem ex_newaJ {N : Nat} {x : Int32} (d : decode (xCd μ) pc = .ok (.newarray .long, 2)) (har : Cond.arrayClass .long ∈ xWd) (hs : SHl[n]? = some (.inr (2, N))) (hx : x = nI N) (hN : N < 4096)
    (kk : Wx μ (pc + 2) L (.ref n :: st) (n + 1, 0, i, xZL q n, r) (k1, k2) Q) : Wx μ pc L (.int x :: st) (n, 0, i, q, r) (k1 + 1, k2 + N) Q := by
  intro p l e s m args below meth c R base b D T2 CT ST QF hC hF H locs cells slots ls hS hL hc hs1
  subst hx
  have hw := hC.2.2.2.2.1
  have hR1 := hC.2.2.2.2.2.2.2.2.2.2.2.1
  have hR2 := hC.2.2.2.2.2.2.2.2.2.2.2.2.1
  have hsz : H.size = base + n := hS.2.2.2.1 rfl
  have hc' : cells + (k1 + 1) ≤ CT := hc
  have hs' : slots + (k2 + N) ≤ ST := hs1
  have hb31 : N < 2 ^ 31 := by omega
  have hlt : n + 1 ≤ SHl.length := (List.getElem?_eq_some_iff.mp hs).1
  have hcb : componentBytes (newarray.typeOf .long) ≤ 8 := by decide
  refine va_newaK (N := N) hC.1 hC.2.1 (atype := .long) (hw _ har) rfl d rfl (nI_pos hb31) (nI_clamp hb31) (Nat.le_trans (Nat.mul_le_mul (Nat.le_of_lt hN) hcb) (by decide)) (by omega) (by omega) rfl fun H1 cA e1 z1 o1 hAr hNm => ?_
  have hcA : cA = T2.2.2 := by
    have h2 := (hC.2.2.2.2.2.2.2.2.1.2 1 _ rfl).2
    exact Option.some.inj (hNm.symm.trans h2)
  subst hcA
  have hst : xSt μ s base b D T2 H1 locs (n + 1, 0, i, xZL q n, r) := by
    refine xSt_push (M := (n, 0, i, q, r)) hC.2.2.2.2.2.2.2.1 hS rfl rfl hlt (xE_long hs) (fun k hk => ⟨rfl, ?_, rfl⟩) z1 o1 ?_
    · show q k = (if k = n then _ else q k)
      rw [if_neg hk]
    · show H1[base + n]? = some (vp_cell _ _)
      rw [← hsz, e1, vp_cell_l]
      congr 2
      funext j
      show _ = Value.long ((if n = n then (fun _ => 0) else q n) j)
      rw [if_pos rfl]
      rfl
  have hk := kk p l e s m args below meth c R base b D T2 CT ST QF hC hF H1 locs (cells + 1) (slots + N) ls hst hL (by show cells + 1 + k1 ≤ CT; omega) (by show slots + N + k2 ≤ ST; omega)
  have ev : xV base b (.ref n) = .ref H.size := by rw [sh_ref hs, hsz]
  have hk' : W p l e R s m args below meth c H1 locs (cells + 1) (slots + N) QF (F0 m (pc + 2) ls (xV base b (.ref n) :: st.map (xV base b))) := hk
  rw [ev] at hk'
  exact hk'
end XMAKE
section XMORE
variable {μ : xMeth} {pc : Nat} {L : xLoc} {st : List Value} {M : xMem} {K : Nat × Nat} {Q : xRes → xMem → Prop}
theorem ex_objInit {idx a : Nat} (d : decode (xCd μ) pc = .ok (.invokespecial idx, 3)) (h1 : Cond.methodLink (xOwn μ) idx Lib.objectInit ∈ xWd) (h2 : Cond.instanceMethod Lib.objectInit ∈ xWd) (h3 : Cond.code Lib.objectInit ⟨#[0xb1]⟩ 1 none ∈ xWd) (hr : 1 ≤ xFr μ ∧ 20 ≤ xLo μ ∧ (st.map fun v => v.category).sum ≤ 8) (kk : Wx μ (pc + 3) L st M K Q) : Wx μ pc L (.ref a :: st) M K Q := by
  intro p l e s m args below meth c R base b D T2 CT ST QF hC hF H locs cells slots ls hS hL hc hs1
  have hw := hC.2.2.2.2.1
  have r1 := hC.2.2.2.2.2.2.2.2.2.1
  have r2 := hC.2.2.2.2.2.2.2.2.2.2.1
  refine W.objInit hC.1 hC.2.1 hC.2.2.1 (hw _ h1) (hw _ h2) (hw _ h3) rfl (by rw [hC.2.2.2.1]; exact hL.1) rfl d (Nat.le_trans hr.1 r1) ?_ (kk p l e s m args below meth c R base b D T2 CT ST QF hC hF H locs cells slots ls hS hL hc hs1)
  have e : ((st.map (xV base b)).map fun v => v.category).sum = (st.map fun v => v.category).sum := by
    rw [List.map_map]; congr 1; apply List.map_congr_left; intro v _; exact xV_cat base b v
  rw [e]
  show 2 * 0 + _ + 12 ≤ _
  omega
theorem xV_cats (base b : Nat) (st : List Value) : ((st.map (xV base b)).map fun v => v.category).sum = (st.map fun v => v.category).sum := by
  rw [List.map_map]; congr 1; apply List.map_congr_left; intro v _; exact xV_cat base b v
theorem ex_mmax {idx : Nat} {x y : Int32} (d : decode (xCd μ) pc = .ok (.invokestatic idx, 3)) (h1 : Cond.methodLink (xOwn μ) idx Lib.Math.max.name ∈ xWd) (h2 : Cond.static Lib.Math.max.name ∈ xWd) (h3 : Cond.initialized "java/lang/Math" ∈ xWd) (h4 : Cond.code Lib.Math.max.name Lib.Math.max.code 2 (some .int) ∈ xWd) (hr : 1 ≤ xFr μ ∧ 21 ≤ xLo μ ∧ (st.map fun v => v.category).sum ≤ 8) (kk : Wx μ (pc + 3) L (.int (if x < y then y else x) :: st) M K Q) : Wx μ pc L (.int y :: .int x :: st) M K Q := by
  intro p l e s m args below meth c R base b D T2 CT ST QF hC hF H locs cells slots ls hS hL hc hs1
  have hw := hC.2.2.2.2.1
  have r1 := hC.2.2.2.2.2.2.2.2.2.1
  have r2 := hC.2.2.2.2.2.2.2.2.2.2.1
  have hR1 := hC.2.2.2.2.2.2.2.2.2.2.2.1
  have hR2 := hC.2.2.2.2.2.2.2.2.2.2.2.2.1
  exact va_mmax hC.1 hC.2.1 (by rw [hC.2.2.2.1]; exact hL.1.symm) hC.2.2.1 (hw _ h1) (hw _ h2) (hw _ h3) (hw _ h4) (Nat.le_trans hr.1 r1) (by rw [xV_cats]; omega) (by omega) (by omega) d (kk p l e s m args below meth c R base b D T2 CT ST QF hC hF H locs cells slots ls hS hL hc hs1)
theorem ex_mmaxL {idx : Nat} {x y : Int64} (d : decode (xCd μ) pc = .ok (.invokestatic idx, 3)) (h1 : Cond.methodLink (xOwn μ) idx Lib.MathLoose.max_long.x ∈ xWd) (h2 : Cond.static Lib.MathLoose.max_long.x ∈ xWd) (h3 : Cond.initialized "java/lang/Math" ∈ xWd) (h4 : Cond.code Lib.MathLoose.max_long.x Lib.MathLoose.max_long.code 4 (some .long) ∈ xWd) (hr : 1 ≤ xFr μ ∧ 23 ≤ xLo μ ∧ (st.map fun v => v.category).sum ≤ 8) (kk : Wx μ (pc + 3) L (.long (if y < x then x else y) :: st) M K Q) : Wx μ pc L (.long y :: .long x :: st) M K Q := by
  intro p l e s m args below meth c R base b D T2 CT ST QF hC hF H locs cells slots ls hS hL hc hs1
  have hw := hC.2.2.2.2.1
  have r1 := hC.2.2.2.2.2.2.2.2.2.1
  have r2 := hC.2.2.2.2.2.2.2.2.2.2.1
  have hR1 := hC.2.2.2.2.2.2.2.2.2.2.2.1
  have hR2 := hC.2.2.2.2.2.2.2.2.2.2.2.2.1
  exact va_mmax_long hC.1 hC.2.1 (by rw [hC.2.2.2.1]; exact hL.1.symm) hC.2.2.1 (hw _ h1) (hw _ h2) (hw _ h3) (hw _ h4) (Nat.le_trans hr.1 r1) (by rw [xV_cats]; omega) (by omega) (by omega) d (kk p l e s m args below meth c R base b D T2 CT ST QF hC hF H locs cells slots ls hS hL hc hs1)
/-- the script -/
theorem ex_slen {n g : Nat} {i : Nat → Nat → Int32} {q : Nat → Nat → Int64} {r : Nat → Nat → Value} {N : Nat} {v : Int32} (hlaw : xLw (xNm μ).name) (hN : (i 4097 0).toNatClampNeg = N) (hv : Int32.ofNat N = v) (d : decode (xCd μ) pc = .ok (.arraylength, 1)) (kk : Wx μ (pc + 1) L (.int v :: st) (n, g, i, q, r) K Q) : Wx μ pc L (.ref 4096 :: st) (n, g, i, q, r) K Q := by
  intro p l e s m args below meth c R base b D T2 CT ST QF hC hF H locs cells slots ls hS hL hc hs1
  subst hv; subst hN
  obtain ⟨x1, x2⟩ := hS.2.2.2.2.2 hlaw
  show W p l e R s m args below meth c H locs cells slots QF (F0 m pc ls (.ref b :: st.map (xV base b)))
  exact va_slen hC.1 hC.2.1 x2 (Nat.lt_of_lt_of_le x1 hC.2.2.2.2.2.2.2.1) (Nat.not_le.mpr x1) hS.2.2.1 d (kk p l e s m args below meth c R base b D T2 CT ST QF hC hF H locs cells slots ls hS hL hc hs1)
theorem ex_sld {n g : Nat} {i : Nat → Nat → Int32} {q : Nat → Nat → Int64} {r : Nat → Nat → Value} {j x : Int32} (hlaw : xLw (xNm μ).name) (d : decode (xCd μ) pc = .ok (.iaload, 1)) (hin : vp_in j (i 4097 0).toNatClampNeg) (hx : i 4096 j.toNatClampNeg = x) (kk : Wx μ (pc + 1) L (.int x :: st) (n, g, i, q, r) K Q) : Wx μ pc L (.int j :: .ref 4096 :: st) (n, g, i, q, r) K Q := by
  intro p l e s m args below meth c R base b D T2 CT ST QF hC hF H locs cells slots ls hS hL hc hs1
  subst hx
  obtain ⟨x1, x2⟩ := hS.2.2.2.2.2 hlaw
  show W p l e R s m args below meth c H locs cells slots QF (F0 m pc ls (.int j :: .ref b :: st.map (xV base b)))
  exact va_sld hC.1 hC.2.1 x2 (Nat.lt_of_lt_of_le x1 hC.2.2.2.2.2.2.2.1) (Nat.not_le.mpr x1) hS.2.2.1 hin d (kk p l e s m args below meth c R base b D T2 CT ST QF hC hF H locs cells slots ls hS hL hc hs1)
/-- ends -/
theorem ex_ret (d : decode (xCd μ) pc = .ok (.return_, 1)) (hr : xRt μ = none) (hQ : Q (.ok none) M) : Wx μ pc L [] M (0, 0) Q := by
  intro p l e s m args below meth c R base b D T2 CT ST QF hC hF H locs cells slots ls hS hL hc hs1
  exact W.widen (Nat.le_trans (Nat.le_add_right _ _) hc) (Nat.le_trans (Nat.le_add_right _ _) hs1) (hF.1 pc ls H locs M none .return_ hS hQ d (Or.inl ⟨rfl, rfl, hr⟩))
theorem ex_iret {x : Int32} {ty : FieldType} (d : decode (xCd μ) pc = .ok (.ireturn, 1)) (hr : xRt μ = some ty) (hn : narrow ty (.int x) = .int x) (hQ : Q (.ok (some (.int x))) M) : Wx μ pc L [.int x] M (0, 0) Q := by
  intro p l e s m args below meth c R base b D T2 CT ST QF hC hF H locs cells slots ls hS hL hc hs1
  exact W.widen (Nat.le_trans (Nat.le_add_right _ _) hc) (Nat.le_trans (Nat.le_add_right _ _) hs1) (hF.1 pc ls H locs M (some (.int x)) .ireturn hS hQ d (Or.inr (Or.inl ⟨rfl, x, rfl, ty, hr, hn⟩)))
theorem ex_lret {x : Int64} (d : decode (xCd μ) pc = .ok (.lreturn, 1)) (hr : xRt μ = some .long) (hQ : Q (.ok (some (.long x))) M) : Wx μ pc L [.long x] M (0, 0) Q := by
  intro p l e s m args below meth c R base b D T2 CT ST QF hC hF H locs cells slots ls hS hL hc hs1
  exact W.widen (Nat.le_trans (Nat.le_add_right _ _) hc) (Nat.le_trans (Nat.le_add_right _ _) hs1) (hF.1 pc ls H locs M (some (.long x)) .lreturn hS hQ d (Or.inr (Or.inr ⟨rfl, x, rfl, hr⟩)))
theorem ex_throw {n g : Nat} {i : Nat → Nat → Int32} {q : Nat → Nat → Int64} {r : Nat → Nat → Value} {E : String} (h : xTh μ pc E) (hcat : (st.map fun v => v.category).sum ≤ 8) (hQ : Q (.error E) (n, g + 1, i, q, r)) : Wx μ pc L st (n, g, i, q, r) (1, 6) Q := by
  intro p l e s m args below meth c R base b D T2 CT ST QF hC hF H locs cells slots ls hS hL hc hs1
  exact hF.2 pc ls H locs n g i q r E (st.map (xV base b)) cells slots hS hL.1 hQ h (by rw [xV_cats]; exact hcat) hc hs1
end XMORE
