/-! ===== contracts out of program points; calls ===== -/
theorem tr_warm {s U : State} (hW : s.WarmedH U.vm) (h : xKs s) (hk : ∀ w ∈ xAux, va_Nw w s → va_Nw w U) : xKs U :=
  ⟨fun w hw => hk w hw (h.1 w hw), fun q hq => (h.2.1 q hq).moved hW.alike, fun q hq => (h.2.2 q hq).elim fun a ha => ⟨a, ha.warm hW⟩⟩
def xAuxOk : Cond → Prop
  | .methodLinkNest .. => True
  | .castable .. => True
  | .declares .. => True
  | _ => False
theorem xAux_ok : ∀ w ∈ xAux, xAuxOk w := by
  unfold xAux
  repeat' first | exact List.forall_mem_nil _ | refine List.forall_mem_cons.mpr ⟨trivial, ?_⟩
theorem xKs_warm {s U : State} (hW : s.WarmedH U.vm) (h : xKs s) : xKs U := by
  refine tr_warm hW h (fun w hw hz => ?_)
  have := xAux_ok w hw
  cases w <;> first | exact False.elim this | exact hz.warmM hW | exact hz.warmC hW | exact hz.warmD hW
theorem xKz_moved {base : Nat} {s U : State} {H : Heap} (hW : s.WarmedH U.vm) (h : xKz base s H) : xKz base U H := ⟨h.1.moved hW.alike, h.2.moved hW.alike⟩
def xEnA : List Value → xLoc
  | [] => []
  | v :: vs => if v.category = 2 then some v :: none :: xEnA vs else some v :: xEnA vs
def xEn (ml : Nat) (vs : List Value) : xLoc := xEnA vs ++ List.replicate (ml - (xEnA vs).length) none
theorem xlv_rep {base b : Nat} (k i : Nat) : xlvFrom base b i (List.replicate k none) = [] := by
  induction k generalizing i with
  | zero => rfl
  | succ k ih => exact ih (i + 1)
theorem xlv_app {base b : Nat} (L L' : xLoc) (i : Nat) : xlvFrom base b i (L ++ L') = xlvFrom base b i L ++ xlvFrom base b (i + L.length) L' := by
  induction L generalizing i with
  | nil => rfl
  | cons a L ih =>
    cases a with
    | none =>
      show xlvFrom base b (i + 1) (L ++ L') = xlvFrom base b (i + 1) L ++ _
      rw [ih]; congr 2; rw [List.length_cons]; omega
    | some v =>
      show (i, xV base b v) :: xlvFrom base b (i + 1) (L ++ L') = (i, xV base b v) :: (xlvFrom base b (i + 1) L ++ _)
      rw [ih]; congr 3; rw [List.length_cons]; omega
theorem xlv_args {base b : Nat} (vs : List Value) (i : Nat) : xlvFrom base b i (xEnA vs) = lv_args i (vs.map (xV base b)) := by
  induction vs generalizing i with
  | nil => rfl
  | cons v vs ih =>
    show xlvFrom base b i (if v.category = 2 then some v :: none :: xEnA vs else some v :: xEnA vs) = (i, xV base b v) :: lv_args (if (xV base b v).category = 2 then i + 2 else i + 1) (vs.map (xV base b))
    rw [xV_cat]
    by_cases h : v.category = 2
    · rw [if_pos h, if_pos h]
      show (i, xV base b v) :: xlvFrom base b (i + 1 + 1) (xEnA vs) = _
      rw [ih]
    · rw [if_neg h, if_neg h]
      show (i, xV base b v) :: xlvFrom base b (i + 1) (xEnA vs) = _
      rw [ih]
theorem xlv_en {base b ml : Nat} (vs : List Value) : xlv base b (xEn ml vs) = lv_args 0 (vs.map (xV base b)) := by
  unfold xEn xlv
  rw [xlv_app, xlv_rep, List.append_nil, xlv_args]
theorem lg_len {base b : Nat} (vs : List Value) : (lg_sl (vs.map (xV base b))).length = (xEnA vs).length := by
  induction vs with
  | nil => rfl
  | cons v vs ih =>
    show (lg_sl (xV base b v :: vs.map (xV base b))).length = (if v.category = 2 then some v :: none :: xEnA vs else some v :: xEnA vs).length
    have e : lg_sl (xV base b v :: vs.map (xV base b)) = (if (xV base b v).category = 2 then [.val (xV base b v), .second] else [.val (xV base b v)]) ++ lg_sl (vs.map (xV base b)) := rfl
    rw [e, xV_cat, List.length_append, ih]
    by_cases h : v.category = 2
    · rw [if_pos h, if_pos h]; simp; omega
    · rw [if_neg h, if_neg h]; simp; omega
/-- the world, as a method finds it and leaves it -/
def xWo (base b : Nat) (D : va_G) (T : ClassId × ClassId × ClassId) (M : xMem) (U : State) : Prop := va_P D vwCl (xWl base b T M) U.heap ∧ va_D (fun q => base ≤ q) (xWl base b T M) ∧ (M.2.1 = 0 → U.heap.size = base + M.1) ∧ M.1 ≤ SHl.length
def xPc (base b : Nat) (D : va_G) (T : ClassId × ClassId × ClassId) (as : List Value) (M : xMem) : Array Value → State → Prop := va_Pc (as.map (xV base b)) (fun U => xWo base b D T M U ∧ va_K D vwCl (xTs T) U ∧ xKs U ∧ xKz base U U.heap ∧ base ≤ U.heap.size)
def xQc (base b : Nat) (D : va_G) (T : ClassId × ClassId × ClassId) (Q : Option Value → xMem → Prop) : Array Value → State → Outcome → State → Prop := fun _ st o t =>
  (∃ (v : Option Value) (M : xMem), o = .returned (v.map (xV base b)) ∧ Q v M ∧ xWo base b D T M t) ∧ va_F (fun q => base ≤ q) st t
abbrev xWs (ν : xMeth) : List Cond := Cond.code (xNm ν) (xCd ν) (xMl ν) (xRt ν) :: xWd
abbrev xRm (ν : xMeth) (Kc : Nat × Nat) : Room := { frames := xFr ν, cells := Kc.1, slots := Kc.2, locals := xLo ν }
/-- what is decided once for each method -/
def xMF (ν : xMeth) : Prop := plainName (xNm ν).cls = true ∧ (xNm ν).cls = xOwn ν ∧ ¬ xLw (xNm ν).name ∧ xHh ν = [] ∧ Cond.code (xNm ν) (xCd ν) (xMl ν) (xRt ν) ∈ xWd ∧ Cond.initialized (xOwn ν) ∈ xWd ∧ ((xOwn ν) ≠ "java/lang/invoke/MethodHandle" ∧ (xOwn ν) ≠ "java/lang/invoke/VarHandle")
theorem xC_of {ν : xMeth} {p : Program} {l : Launch} {e : Env} {s s₁ : State} {m : MethodId} {args : Array Value} {below : List Frame} {meth : Method} {c : Code} {base b : Nat} {D : va_G} {T : ClassId × ClassId × ClassId} {as : List Value} {M : xMem} {Kc : Nat × Nat} (mf : xMF ν) (hl : l.flags = flags0)
    (B : BodyLoose p l (xNm ν) (headSpec (xWs ν) (xRm ν Kc)) (xCd ν) (xMl ν) (xRt ν) e s m args below meth c s₁) (hml : c.maxLocals = xMl ν) (hv : xPc base b D T as M args s) : xC ν p l s m args meth c (headSpec (xWs ν) (xRm ν Kc)).room base D T Kc.1 Kc.2 := by
  obtain ⟨-, hw, hK, hks, hkz, hbs⟩ := hv
  have hts := atoms_spec (ws := xWs ν) B.pre
  refine ⟨B.exec, B.bytes, ?_, hml, fun w h => hts w (List.mem_cons_of_mem _ h), hks, hkz, hbs, hK, Nat.le_refl _, Nat.le_refl _, Nat.le_refl _, Nat.le_refl _, hl, B.notSynchronized, (name_of_methodNamed B.named B.method).1, Or.inl mf.2.2.2.1⟩
  rw [← mf.2.1]
  exact findClass_of_methodNamed B.named
theorem xSt_of {ν : xMeth} {s : State} {args : Array Value} {base b : Nat} {D : va_G} {T : ClassId × ClassId × ClassId} {as : List Value} {M : xMem} (mf : xMF ν) (hv : xPc base b D T as M args s) : xSt ν s base b D T s.heap [] M := by
  obtain ⟨-, hw, hK, hks, hkz, hbs⟩ := hv
  exact ⟨hw.1, hw.2.1, va_S.rf, hw.2.2.1, hw.2.2.2, fun h => absurd h mf.2.2.1⟩
theorem xRO_ret {ν : xMeth} {p : Program} {l : Launch} {e : Env} {R : Room} {s : State} {m : MethodId} {args : Array Value} {below : List Frame} {meth : Method} {c : Code} {H : Heap} {locs : List Loc} {cells slots : Nat} {Qc : Array Value → State → Outcome → State → Prop} {free : Addr → Prop} {base b : Nat} {pc : Nat} {ls : Array Slot} {v : Option Value} {ins : Instr} (hexec : p.tables.exec = Jvm.exec) (hb : c.code = xCd ν) (hr : meth.sig.returnType = xRt ν) (hlocks : meth.locks = false)
    (d : decode (xCd ν) pc = .ok (ins, 1)) (hv : xRO ν ins v) (hq : ∀ t : State, t.heap = H → s.WarmedH t.vm → Qc args s (.returned (v.map (xV base b))) t) (hf : ∀ q ∈ locs, free q.base) : W p l e R s m args below meth c H locs cells slots (MQ below Qc args s cells slots free) (F0 m pc ls (v.map (xV base b)).toList) := by
  rcases hv with ⟨rfl, rfl, h⟩ | ⟨rfl, x, rfl, ty, h, hn⟩ | ⟨rfl, x, rfl, h⟩
  · exact W.vret hexec hb (hr.trans h) hq hf d (hlocks := hlocks)
  · exact W.zret hexec hb (hr.trans h) hn hq hf d (hlocks := hlocks)
  · exact W.lret hexec hb (hr.trans h) hq hf d (hlocks := hlocks)
theorem ex_met {ν : xMeth} {l : Launch} (mf : xMF ν) (hl : l.flags = flags0) {base b : Nat} {D : va_G} {T : ClassId × ClassId × ClassId} {as : List Value} {M : xMem} {Kc : Nat × Nat} {Qk : Option Value → xMem → Prop} (hlen : (xEnA as).length ≤ xMl ν) (hk : Wx ν 0 (xEn (xMl ν) as) [] M Kc (fun r M' => ∃ v, r = .ok v ∧ Qk v M')) :
    Met l (xNm ν) (xWs ν) (xRm ν Kc) (xPc base b D T as M) (xQc base b D T Qk) Kc.1 Kc.2 (fun q => base ≤ q) := by
  refine Met.ofW (cc := xCd ν) (maxL := xMl ν) (ret := xRt ν) mf.1 rfl ?_
  intro p e s m args below meth c s₁ B hml hv
  have hC := xC_of mf hl B hml hv
  have hS := xSt_of mf hv
  have hargs : args = (as.map (xV base b)).toArray := hv.1
  have hlg : (lg_sl (as.map (xV base b))).length ≤ xMl ν := by rw [lg_len]; exact hlen
  have hL := lv_entry (as.map (xV base b)) hlg
  rw [← xlv_en (ml := xMl ν)] at hL
  have hw := hk p l e s m args below meth c (headSpec (xWs ν) (xRm ν Kc)).room base b D T Kc.1 Kc.2 (MQ below (xQc base b D T Qk) args s Kc.1 Kc.2 (fun q => base ≤ q)) hC ⟨?_, ?_⟩ s.heap [] 0 0 _ hS hL (by omega) (by omega)
  · rw [hargs, lg_entry_eq]
    rw [hargs] at hw
    exact hw
  · intro pc ls H locs M' v ins hS' hQ d hro
    obtain ⟨v', hv', hQ'⟩ := hQ
    cases hv'
    refine xRO_ret B.exec B.bytes B.returns B.notSynchronized d hro (fun t ht hW => ⟨⟨v, M', rfl, hQ', ?_⟩, hS'.2.2.1.F ht⟩) hS'.2.2.1.2.2
    refine ⟨by rw [ht]; exact hS'.1, hS'.2.1, fun h => by rw [ht]; exact hS'.2.2.2.1 h, hS'.2.2.2.2.1⟩
  · intro pc ls H locs n g i q r E rest cells slots _ _ hQ
    obtain ⟨v', hv', _⟩ := hQ
    cases hv'
theorem xPc_blind {base b : Nat} {D : va_G} {T : ClassId × ClassId × ClassId} {as : List Value} {M : xMem} : FrameBlind (xPc base b D T as M) := by
  intro a U g mk h
  obtain ⟨h0, h1, h2, h3, h4, h5⟩ := h
  have hW : U.WarmedH (U.calling g mk a).vm := State.WarmedH.refl U
  exact ⟨h0, h1, va_K.moved (u := U) (U := U.calling g mk a) (Vm.Alike.refl U.vm) h2, xKs_warm hW h3, xKz_moved hW h4, h5⟩
theorem xPc_at {μ : xMeth} {p : Program} {l : Launch} {s : State} {m : MethodId} {args : Array Value} {meth : Method} {c : Code} {R : Room} {base b : Nat} {D : va_G} {T : ClassId × ClassId × ClassId} {CT ST : Nat} {H : Heap} {locs : List Loc} {M : xMem} {as : List Value} (hC : xC μ p l s m args meth c R base D T CT ST) (hS : xSt μ s base b D T H locs M) : ∀ U : State, U.heap = H → s.WarmedH U.vm → xPc base b D T as M (as.map (xV base b)).toArray U := by
  intro U hU hW
  refine ⟨rfl, ⟨by rw [hU]; exact hS.1, hS.2.1, fun h => by rw [hU]; exact hS.2.2.2.1 h, hS.2.2.2.2.1⟩, va_K.moved hW.alike hC.2.2.2.2.2.2.2.2.1, xKs_warm hW hC.2.2.2.2.2.1, ?_, ?_⟩
  · have hz := hC.2.2.2.2.2.2.1
    have hz2 := xKz_moved hW hz
    rw [hU]
    exact ⟨hz2.1.kept hS.2.2.1.2.1, hz2.2.kept hS.2.2.1.2.1⟩
  · rw [hU]; exact Nat.le_trans hC.2.2.2.2.2.2.2.1 hS.2.2.1.1
/-- from a call's run to the point behind it -/
theorem ex_back {μ : xMeth} {pc : Nat} {L : xLoc} {st stk : List Value} {M : xMem} {K Kc : Nat × Nat} {Q : xRes → xMem → Prop} {Qk : Option Value → xMem → Prop} {p : Program} {l : Launch} {e : Env} {s : State} {m : MethodId} {args : Array Value} {below : List Frame} {meth : Method} {c : Code} {R : Room} {base b : Nat} {D : va_G} {T : ClassId × ClassId × ClassId} {CT ST : Nat} {QF : State → Prop}
    (hC : xC μ p l s m args meth c R base D T CT ST) (hF : xF μ p l e s m args below meth c R base b D T CT ST Q QF) {H : Heap} {locs : List Loc} {cells slots : Nat} {ls : Array Slot} {a : Array Value} (hS : xSt μ s base b D T H locs M) (hL : lv_has ls (xMl μ) (xlv base b L)) (hc : cells + Kc.1 + K.1 ≤ CT) (hs : slots + Kc.2 + K.2 ≤ ST)
    (hr : va_Run p l e R s m args below meth c H locs cells slots Kc.1 Kc.2 (F0 m pc ls stk) (st.map (xV base b)) (xQc base b D T Qk a) (fun q => base ≤ q)) (hx : ¬ xLw (xNm μ).name ∨ ∀ v M', Qk v M' → M'.2.2.1 4096 = M.2.2.1 4096 ∧ M'.2.2.1 4097 = M.2.2.1 4097) (kk : ∀ v M', Qk v M' → Wx μ (pc + 3) L (v.toList ++ st) M' K Q) : W p l e R s m args below meth c H locs cells slots QF (F0 m pc ls stk) := by
  intro T0 hT X
  obtain ⟨v, st₀, t, T', L', h0, X', hL', e1, e2, ⟨⟨v', M', hv, hQ, hw⟩, hz, hk⟩, stp⟩ := hr T0 hT X
  cases hv
  rw [h0] at hz hk
  obtain ⟨w1, w2, w3, w4⟩ := hw
  rw [← e1] at w1 w3 hz
  have hV := hS.2.2.1
  have hst : xSt μ s base b D T T'.heap (locs ++ L') M' := by
    refine ⟨w1, w2, ⟨Nat.le_trans hV.1 hz, fun q h1 h2 => ?_, fun q hq => ?_⟩, w3, w4, fun h => ?_⟩
    · rw [e1, hk q (Nat.lt_of_lt_of_le h1 hV.1) h2]; exact hV.2.1 q h1 h2
    · rcases List.mem_append.mp hq with h | h
      · exact hV.2.2 q h
      · exact hL' q h
    · rcases hx with hx | hx
      · exact absurd h hx
      · obtain ⟨x1, x2⟩ := hx v' M' hQ
        rw [x1, x2]
        exact hS.2.2.2.2.2 h
  have hw2 := kk v' M' hQ p l e s m args below meth c R base b D T CT ST QF hC hF T'.heap (locs ++ L') (cells + Kc.1) (slots + Kc.2) ls hst hL hc hs
  rw [List.map_append] at hw2
  have e3 : (v'.toList).map (xV base b) = (v'.map (xV base b)).toList := by cases v' <;> rfl
  rw [e3] at hw2
  obtain ⟨t2, a1, b1⟩ := hw2 T' rfl X'
  exact ⟨t2, stp t2 a1, b1⟩
/-- entry idx of own names the method ν, and all that its call needs -/
abbrev xLV (own : String) (idx : Nat) (ν : xMeth) : Prop := Cond.methodLink own idx (xNm ν) ∈ xWd ∧ Cond.instanceMethod (xNm ν) ∈ xWd ∧ Cond.selects (xOwn ν) (xNm ν) (xNm ν) ∈ xWd
abbrev xLS (own : String) (idx : Nat) (ν : xMeth) : Prop := Cond.methodLink own idx (xNm ν) ∈ xWd ∧ Cond.static (xNm ν) ∈ xWd ∧ xOwn ν = own
abbrev xLN (own : String) (idx : Nat) (ν : xMeth) (host : String) : Prop := Cond.methodLinkNest own idx (xNm ν) host ∈ xAux ∧ Cond.static (xNm ν) ∈ xWd
abbrev xLI (own : String) (idx : Nat) (ν : xMeth) : Prop := Cond.methodLink own idx (xNm ν) ∈ xWd ∧ Cond.instanceMethod (xNm ν) ∈ xWd ∧ (xNm ν).name = "<init>" ∧ xRt ν = none
theorem good_ws {ν : xMeth} (mf : xMF ν) {ws : List Cond} (h : ∀ w ∈ ws, w ∈ xWd) : GoodIn xWd (ws ++ xWs ν) := by
  intro w hw
  have hm : w ∈ xWd := by
    rcases List.mem_append.mp hw with h1 | h1
    · exact h w h1
    · rcases List.mem_cons.mp h1 with h2 | h2
      · rw [h2]; exact mf.2.2.2.2.1
      · exact h2
  exact ⟨hm, good_of_word (xWd_good w hm)⟩
theorem cls_name {ci : Nat} {C : String} {T : u_T} {N : Nat} (h : vwCl[ci]? = some (C, T, N)) : ∃ z, vwCl[ci]? = some z ∧ z.1 = C := ⟨_, h, rfl⟩
section XCALL
variable {μ ν : xMeth} {pc : Nat} {L : xLoc} {st stk : List Value} {M : xMem} {K K' Kc : Nat × Nat} {Q : xRes → xMem → Prop} {Qk : Option Value → xMem → Prop} {idx : Nat} {as : List Value}
theorem ex_callV {a ci : Nat} {z : vw_C} (d : decode (xCd μ) pc = .ok (.invokevirtual idx, 3)) (ln : xLV (xOwn μ) idx ν) (mf : xMF ν) (hs : SHl[a]? = some (.inl ci)) (ha : a < M.1) (hz : vwCl[ci]? = some z) (hzn : z.1 = xOwn ν) (hnp : (parseMethodDescriptor (xNm ν).desc).map (fun d => d.parameters.length) = some as.length) (hst : stk = as.reverse ++ .ref a :: st) (hlen : (xEnA (.ref a :: as)).length ≤ xMl ν) (hcat : (st.map fun v => v.category).sum ≤ 8) (hfr : xFr ν + 1 ≤ xFr μ ∧ 8 + (xMl ν + 11) + xLo ν ≤ xLo μ)
    (hx : ¬ xLw (xNm μ).name ∨ ∀ v M', Qk v M' → M'.2.2.1 4096 = M.2.2.1 4096 ∧ M'.2.2.1 4097 = M.2.2.1 4097) (hK : K.1 + Kc.1 ≤ K'.1 ∧ K.2 + Kc.2 ≤ K'.2)
    (hk : Wx ν 0 (xEn (xMl ν) (.ref a :: as)) [] M Kc (fun r M' => ∃ v, r = .ok v ∧ Qk v M')) (kk : ∀ v M', Qk v M' → Wx μ (pc + 3) L (v.toList ++ st) M' K Q) : Wx μ pc L stk M K' Q := by
  intro p l e s m args below meth c R base b D T2 CT ST QF hC hF H locs cells slots ls hS hL hc hs1
  subst hst
  have hw := hC.2.2.2.2.1
  have r1 := hC.2.2.2.2.2.2.2.2.2.1
  have r2 := hC.2.2.2.2.2.2.2.2.2.2.1
  have hR1 := hC.2.2.2.2.2.2.2.2.2.2.2.1
  have hR2 := hC.2.2.2.2.2.2.2.2.2.2.2.2.1
  have hfl := hC.2.2.2.2.2.2.2.2.2.2.2.2.2.1
  have hget := xWl_get (base := base) (b := b) (T := T2) (M := M) ha
  rw [xE_obj hs] at hget
  have hM := ex_met mf hfl (base := base) (b := b) (D := D) (T := T2) hlen hk
  have cw : CallW R s args (xOwn μ) (xOwn ν) idx (xNm ν) (xCd ν) (xMl ν) (xRt ν) (xWs ν) (xRm ν Kc) Kc.1 Kc.2 as.length := by
    refine cwV as.length (Ts := xWd) hw ?_ rfl rfl rfl ⟨mf.2.1, ?_, ?_, hnp⟩ ⟨Nat.le_trans hfr.1 r1, Nat.le_trans hfr.2 r2⟩
    · refine good_ws mf (ws := [.methodLink (xOwn μ) idx (xNm ν), .instanceMethod (xNm ν), .selects (xOwn ν) (xNm ν) (xNm ν), .initialized (xOwn ν)]) (fun w hw => ?_)
      simp only [List.mem_cons, List.not_mem_nil, or_false] at hw
      rcases hw with rfl | rfl | rfl | rfl
      · exact ln.1
      · exact ln.2.1
      · exact ln.2.2
      · exact mf.2.2.2.2.2.1
    · rw [mf.2.1]; exact mf.2.2.2.2.2.2.1
    · rw [mf.2.1]; exact mf.2.2.2.2.2.2.2
  have hrec := va_recv hC.2.2.2.2.2.2.2.2.1 hS.1 hz hget
  rw [hzn] at hrec
  have epc : (Value.ref (base + a) :: as.map (xV base b)) = (Value.ref a :: as).map (xV base b) := by
    show _ = xV base b (.ref a) :: _
    rw [sh_ref hs]
  have hrun := va_runV (p := p) (l := l) (e := e) (below := below) (meth := meth) (locs := locs) (cells := cells) (slots := slots) (g := F0 m pc ls ((as.reverse ++ .ref a :: st).map (xV base b))) (As := as.map (xV base b)) (rest := st.map (xV base b)) ⟨hC.1, hC.2.1, hC.2.2.2.1, hC.2.2.1, hw⟩ hM cw ⟨xPc_blind, hrec, by rw [epc]; exact xPc_at hC hS⟩ rfl (by rw [List.length_map]) hL.1
    (by show (as.reverse ++ .ref a :: st).map (xV base b) = _; rw [List.map_append, List.map_reverse]; show _ ++ xV base b (.ref a) :: _ = _; rw [sh_ref hs]) (by rw [xV_cats]; exact (by show 2 * 0 + _ ≤ 8; omega)) d (by omega)
  exact ex_back hC hF hS hL (by omega) (by omega) hrun hx kk
theorem ex_callS (d : decode (xCd μ) pc = .ok (.invokestatic idx, 3)) (ln : xLS (xOwn μ) idx ν) (mf : xMF ν) (hnp : (parseMethodDescriptor (xNm ν).desc).map (fun d => d.parameters.length) = some as.length) (hst : stk = as.reverse ++ st) (hlen : (xEnA as).length ≤ xMl ν) (hcat : (st.map fun v => v.category).sum ≤ 8) (hfr : xFr ν + 1 ≤ xFr μ ∧ 8 + (xMl ν + 11) + xLo ν ≤ xLo μ)
    (hx : ¬ xLw (xNm μ).name ∨ ∀ v M', Qk v M' → M'.2.2.1 4096 = M.2.2.1 4096 ∧ M'.2.2.1 4097 = M.2.2.1 4097) (hK : K.1 + Kc.1 ≤ K'.1 ∧ K.2 + Kc.2 ≤ K'.2)
    (hk : Wx ν 0 (xEn (xMl ν) as) [] M Kc (fun r M' => ∃ v, r = .ok v ∧ Qk v M')) (kk : ∀ v M', Qk v M' → Wx μ (pc + 3) L (v.toList ++ st) M' K Q) : Wx μ pc L stk M K' Q := by
  intro p l e s m args below meth c R base b D T2 CT ST QF hC hF H locs cells slots ls hS hL hc hs1
  subst hst
  have hw := hC.2.2.2.2.1
  have r1 := hC.2.2.2.2.2.2.2.2.2.1
  have r2 := hC.2.2.2.2.2.2.2.2.2.2.1
  have hR1 := hC.2.2.2.2.2.2.2.2.2.2.2.1
  have hR2 := hC.2.2.2.2.2.2.2.2.2.2.2.2.1
  have hfl := hC.2.2.2.2.2.2.2.2.2.2.2.2.2.1
  have hM := ex_met mf hfl (base := base) (b := b) (D := D) (T := T2) hlen hk
  have cw : CallB R s args (xOwn μ) idx (xNm ν) (xCd ν) (xMl ν) (xRt ν) (xWs ν) (xRm ν Kc) Kc.1 Kc.2 as.length ∧ (Cond.static (xNm ν)).before args s = true := by
    refine cwS as.length (Ts := xWd) hw ?_ rfl rfl rfl ⟨mf.2.1.trans ln.2.2, ?_, ?_, hnp⟩ ⟨Nat.le_trans hfr.1 r1, Nat.le_trans hfr.2 r2⟩
    · refine good_ws mf (ws := [.methodLink (xOwn μ) idx (xNm ν), .static (xNm ν), .initialized (xOwn μ)]) (fun w hw => ?_)
      simp only [List.mem_cons, List.not_mem_nil, or_false] at hw
      rcases hw with rfl | rfl | rfl
      · exact ln.1
      · exact ln.2.1
      · rw [← ln.2.2]; exact mf.2.2.2.2.2.1
    · rw [mf.2.1]; exact mf.2.2.2.2.2.2.1
    · rw [mf.2.1]; exact mf.2.2.2.2.2.2.2
  have hrun := va_runS (p := p) (l := l) (e := e) (below := below) (meth := meth) (locs := locs) (cells := cells) (slots := slots) (g := F0 m pc ls ((as.reverse ++ st).map (xV base b))) (As := as.map (xV base b)) (rest := st.map (xV base b)) ⟨hC.1, hC.2.1, hC.2.2.2.1, hC.2.2.1, hw⟩ hM cw ⟨xPc_blind, xPc_at hC hS⟩ rfl (by rw [List.length_map]) hL.1
    (by show (as.reverse ++ st).map (xV base b) = _; rw [List.map_append, List.map_reverse]) (by rw [xV_cats]; exact (by show 2 * 0 + _ ≤ 8; omega)) d (by omega)
  exact ex_back hC hF hS hL (by omega) (by omega) hrun hx kk
theorem ex_callN {host : String} (d : decode (xCd μ) pc = .ok (.invokestatic idx, 3)) (ln : xLN (xOwn μ) idx ν host) (mf : xMF ν) (hnp : (parseMethodDescriptor (xNm ν).desc).map (fun d => d.parameters.length) = some as.length) (hst : stk = as.reverse ++ st) (hlen : (xEnA as).length ≤ xMl ν) (hcat : (st.map fun v => v.category).sum ≤ 8) (hfr : xFr ν + 1 ≤ xFr μ ∧ 8 + (xMl ν + 11) + xLo ν ≤ xLo μ)
    (hx : ¬ xLw (xNm μ).name ∨ ∀ v M', Qk v M' → M'.2.2.1 4096 = M.2.2.1 4096 ∧ M'.2.2.1 4097 = M.2.2.1 4097) (hK : K.1 + Kc.1 ≤ K'.1 ∧ K.2 + Kc.2 ≤ K'.2)
    (hk : Wx ν 0 (xEn (xMl ν) as) [] M Kc (fun r M' => ∃ v, r = .ok v ∧ Qk v M')) (kk : ∀ v M', Qk v M' → Wx μ (pc + 3) L (v.toList ++ st) M' K Q) : Wx μ pc L stk M K' Q := by
  intro p l e s m args below meth c R base b D T2 CT ST QF hC hF H locs cells slots ls hS hL hc hs1
  subst hst
  have hw := hC.2.2.2.2.1
  have r1 := hC.2.2.2.2.2.2.2.2.2.1
  have r2 := hC.2.2.2.2.2.2.2.2.2.2.1
  have hR1 := hC.2.2.2.2.2.2.2.2.2.2.2.1
  have hR2 := hC.2.2.2.2.2.2.2.2.2.2.2.2.1
  have hfl := hC.2.2.2.2.2.2.2.2.2.2.2.2.2.1
  have hM := ex_met mf hfl (base := base) (b := b) (D := D) (T := T2) hlen hk
  have hini : (Cond.initialized (xNm ν).cls).before args s = true := by rw [mf.2.1]; exact hw _ mf.2.2.2.2.2.1
  have cw : va_CN R s args (xOwn μ) idx (xNm ν) host (xCd ν) (xMl ν) (xRt ν) (xWs ν) (xRm ν Kc) Kc.1 Kc.2 as.length := by
    refine va_cnB as.length (Ts := xWd) hw (good_ws mf (ws := []) (fun w hw => by cases hw)) rfl rfl rfl (hC.2.2.2.2.2.1.1 _ ln.1) hini ⟨?_, ?_, hnp⟩ ⟨Nat.le_trans hfr.1 r1, Nat.le_trans hfr.2 r2⟩
    · rw [mf.2.1]; exact mf.2.2.2.2.2.2.1
    · rw [mf.2.1]; exact mf.2.2.2.2.2.2.2
  have hrun := va_runSN (p := p) (l := l) (e := e) (below := below) (meth := meth) (locs := locs) (cells := cells) (slots := slots) (g := F0 m pc ls ((as.reverse ++ st).map (xV base b))) (As := as.map (xV base b)) (rest := st.map (xV base b)) ⟨hC.1, hC.2.1, hC.2.2.2.1, hC.2.2.1, hw⟩ hM ⟨cw, hw _ ln.2, trivial⟩ ⟨xPc_blind, xPc_at hC hS⟩ rfl (by rw [List.length_map]) hL.1
    (by show (as.reverse ++ st).map (xV base b) = _; rw [List.map_append, List.map_reverse]) (by rw [xV_cats]; exact (by show 2 * 0 + _ ≤ 8; omega)) d (by omega)
  exact ex_back hC hF hS hL (by omega) (by omega) hrun hx kk
theorem ex_callI {a ci : Nat} (d : decode (xCd μ) pc = .ok (.invokespecial idx, 3)) (ln : xLI (xOwn μ) idx ν) (mf : xMF ν) (hs : SHl[a]? = some (.inl ci)) (ha : a < M.1) (hnp : (parseMethodDescriptor (xNm ν).desc).map (fun d => d.parameters.length) = some as.length) (hst : stk = as.reverse ++ .ref a :: st) (hlen : (xEnA (.ref a :: as)).length ≤ xMl ν) (hcat : (st.map fun v => v.category).sum ≤ 8) (hfr : xFr ν + 1 ≤ xFr μ ∧ 8 + (xMl ν + 11) + xLo ν ≤ xLo μ)
    (hx : ¬ xLw (xNm μ).name ∨ ∀ v M', Qk v M' → M'.2.2.1 4096 = M.2.2.1 4096 ∧ M'.2.2.1 4097 = M.2.2.1 4097) (hK : K.1 + Kc.1 ≤ K'.1 ∧ K.2 + Kc.2 ≤ K'.2)
    (hk : Wx ν 0 (xEn (xMl ν) (.ref a :: as)) [] M Kc (fun r M' => ∃ v, r = .ok v ∧ Qk v M')) (kk : ∀ v M', Qk v M' → Wx μ (pc + 3) L (v.toList ++ st) M' K Q) : Wx μ pc L stk M K' Q := by
  intro p l e s m args below meth c R base b D T2 CT ST QF hC hF H locs cells slots ls hS hL hc hs1
  subst hst
  have hw := hC.2.2.2.2.1
  have r1 := hC.2.2.2.2.2.2.2.2.2.1
  have r2 := hC.2.2.2.2.2.2.2.2.2.2.1
  have hR1 := hC.2.2.2.2.2.2.2.2.2.2.2.1
  have hR2 := hC.2.2.2.2.2.2.2.2.2.2.2.2.1
  have hfl := hC.2.2.2.2.2.2.2.2.2.2.2.2.2.1
  have hM := ex_met mf hfl (base := base) (b := b) (D := D) (T := T2) hlen hk
  have hini : (Cond.initialized (xNm ν).cls).before args s = true := by rw [mf.2.1]; exact hw _ mf.2.2.2.2.2.1
  have cw : CallB R s args (xOwn μ) idx (xNm ν) (xCd ν) (xMl ν) none (xWs ν) (xRm ν Kc) Kc.1 Kc.2 as.length ∧ (xNm ν).name = "<init>" ∧ (Cond.instanceMethod (xNm ν)).before args s = true := by
    refine cwI as.length (Ts := xWd) hw (good_ws mf (ws := []) (fun w hw => by cases hw)) (by show xWs ν = _; unfold xWs; rw [ln.2.2.2]) rfl rfl hini (hw _ ln.1) (hw _ ln.2.1) ln.2.2.1 ⟨?_, ?_, hnp⟩ ⟨Nat.le_trans hfr.1 r1, Nat.le_trans hfr.2 r2⟩
    · rw [mf.2.1]; exact mf.2.2.2.2.2.2.1
    · rw [mf.2.1]; exact mf.2.2.2.2.2.2.2
  have epc : (Value.ref (base + a) :: as.map (xV base b)) = (Value.ref a :: as).map (xV base b) := by
    show _ = xV base b (.ref a) :: _
    rw [sh_ref hs]
  have hrun := va_runI (p := p) (l := l) (e := e) (below := below) (meth := meth) (locs := locs) (cells := cells) (slots := slots) (g := F0 m pc ls ((as.reverse ++ .ref a :: st).map (xV base b))) (As := as.map (xV base b)) (b := base + a) (rest := st.map (xV base b)) ⟨hC.1, hC.2.1, hC.2.2.2.1, hC.2.2.1, hw⟩ hM cw ⟨xPc_blind, by rw [epc]; exact xPc_at hC hS⟩ rfl (by rw [List.length_map]) hL.1
    (by show (as.reverse ++ .ref a :: st).map (xV base b) = _; rw [List.map_append, List.map_reverse]; show _ ++ xV base b (.ref a) :: _ = _; rw [sh_ref hs]) (by rw [xV_cats]; exact (by show 2 * 0 + _ ≤ 8; omega)) d (by omega)
  exact ex_back hC hF hS hL (by omega) (by omega) hrun hx kk
end XCALL

/-! methods that read the script, called by those that read it -/
def xMFZ (ν : xMeth) : Prop := plainName (xNm ν).cls = true ∧ (xNm ν).cls = xOwn ν ∧ xLw (xNm ν).name ∧ xHh ν = [] ∧ Cond.code (xNm ν) (xCd ν) (xMl ν) (xRt ν) ∈ xWd ∧ Cond.initialized (xOwn ν) ∈ xWd ∧ ((xOwn ν) ≠ "java/lang/invoke/MethodHandle" ∧ (xOwn ν) ≠ "java/lang/invoke/VarHandle")
def xPcZ (base b : Nat) (D : va_G) (T : ClassId × ClassId × ClassId) (as : List Value) (M : xMem) : Array Value → State → Prop := fun a U => xPc base b D T as M a U ∧ (b < base ∧ va_X b (M.2.2.1 4097 0).toNatClampNeg (M.2.2.1 4096) U U.heap)
theorem xC_ofZ {ν : xMeth} {p : Program} {l : Launch} {e : Env} {s s₁ : State} {m : MethodId} {args : Array Value} {below : List Frame} {meth : Method} {c : Code} {base b : Nat} {D : va_G} {T : ClassId × ClassId × ClassId} {as : List Value} {M : xMem} {Kc : Nat × Nat} (mf : xMFZ ν) (hl : l.flags = flags0)
    (B : BodyLoose p l (xNm ν) (headSpec (xWs ν) (xRm ν Kc)) (xCd ν) (xMl ν) (xRt ν) e s m args below meth c s₁) (hml : c.maxLocals = xMl ν) (hv : xPc base b D T as M args s) : xC ν p l s m args meth c (headSpec (xWs ν) (xRm ν Kc)).room base D T Kc.1 Kc.2 := by
  obtain ⟨-, hw, hK, hks, hkz, hbs⟩ := hv
  have hts := atoms_spec (ws := xWs ν) B.pre
  refine ⟨B.exec, B.bytes, ?_, hml, fun w h => hts w (List.mem_cons_of_mem _ h), hks, hkz, hbs, hK, Nat.le_refl _, Nat.le_refl _, Nat.le_refl _, Nat.le_refl _, hl, B.notSynchronized, (name_of_methodNamed B.named B.method).1, Or.inl mf.2.2.2.1⟩
  rw [← mf.2.1]
  exact findClass_of_methodNamed B.named
theorem ex_metZ {ν : xMeth} {l : Launch} (mf : xMFZ ν) (hl : l.flags = flags0) {base b : Nat} {D : va_G} {T : ClassId × ClassId × ClassId} {as : List Value} {M : xMem} {Kc : Nat × Nat} {Qk : Option Value → xMem → Prop} (hlen : (xEnA as).length ≤ xMl ν) (hk : Wx ν 0 (xEn (xMl ν) as) [] M Kc (fun r M' => ∃ v, r = .ok v ∧ Qk v M')) :
    Met l (xNm ν) (xWs ν) (xRm ν Kc) (xPcZ base b D T as M) (xQc base b D T Qk) Kc.1 Kc.2 (fun q => base ≤ q) := by
  refine Met.ofW (cc := xCd ν) (maxL := xMl ν) (ret := xRt ν) mf.1 rfl ?_
  intro p e s m args below meth c s₁ B hml hvz
  obtain ⟨hv, hz1, hz2⟩ := hvz
  have hC := xC_ofZ mf hl B hml hv
  have hS : xSt ν s base b D T s.heap [] M := ⟨hv.2.1.1, hv.2.1.2.1, va_S.rf, hv.2.1.2.2.1, hv.2.1.2.2.2, fun _ => ⟨hz1, hz2⟩⟩
  have hargs : args = (as.map (xV base b)).toArray := hv.1
  have hlg : (lg_sl (as.map (xV base b))).length ≤ xMl ν := by rw [lg_len]; exact hlen
  have hL := lv_entry (as.map (xV base b)) hlg
  rw [← xlv_en (ml := xMl ν)] at hL
  have hw := hk p l e s m args below meth c (headSpec (xWs ν) (xRm ν Kc)).room base b D T Kc.1 Kc.2 (MQ below (xQc base b D T Qk) args s Kc.1 Kc.2 (fun q => base ≤ q)) hC ⟨?_, ?_⟩ s.heap [] 0 0 _ hS hL (by omega) (by omega)
  · rw [hargs, lg_entry_eq]
    rw [hargs] at hw
    exact hw
  · intro pc ls H locs M' v ins hS' hQ d hro
    obtain ⟨v', hv', hQ'⟩ := hQ
    cases hv'
    refine xRO_ret B.exec B.bytes B.returns B.notSynchronized d hro (fun t ht hW => ⟨⟨v, M', rfl, hQ', ?_⟩, hS'.2.2.1.F ht⟩) hS'.2.2.1.2.2
    refine ⟨by rw [ht]; exact hS'.1, hS'.2.1, fun h => by rw [ht]; exact hS'.2.2.2.1 h, hS'.2.2.2.2.1⟩
  · intro pc ls H locs n g i q r E rest cells slots _ _ hQ
    obtain ⟨v', hv', _⟩ := hQ
    cases hv'
theorem xPcZ_blind {base b : Nat} {D : va_G} {T : ClassId × ClassId × ClassId} {as : List Value} {M : xMem} : FrameBlind (xPcZ base b D T as M) := by
  intro a U g mk h
  obtain ⟨h0, h1, h2⟩ := h
  exact ⟨xPc_blind a U g mk h0, h1, va_X.moved (u := U) (U := U.calling g mk a) (Vm.Alike.refl U.vm) h2⟩
theorem xPcZ_at {μ : xMeth} {p : Program} {l : Launch} {s : State} {m : MethodId} {args : Array Value} {meth : Method} {c : Code} {R : Room} {base b : Nat} {D : va_G} {T : ClassId × ClassId × ClassId} {CT ST : Nat} {H : Heap} {locs : List Loc} {M : xMem} {as : List Value} (hC : xC μ p l s m args meth c R base D T CT ST) (hS : xSt μ s base b D T H locs M) (hz : xLw (xNm μ).name) : ∀ U : State, U.heap = H → s.WarmedH U.vm → xPcZ base b D T as M (as.map (xV base b)).toArray U := by
  intro U hU hW
  obtain ⟨x1, x2⟩ := hS.2.2.2.2.2 hz
  refine ⟨xPc_at hC hS U hU hW, x1, ?_⟩
  have h2 := (x2.kept (hS.2.2.1.2.1 b (Nat.lt_of_lt_of_le x1 hC.2.2.2.2.2.2.2.1) (Nat.not_le.mpr x1)))
  rw [hU]
  exact va_X.moved hW.alike h2
theorem good_wsZ {ν : xMeth} (mf : xMFZ ν) {ws : List Cond} (h : ∀ w ∈ ws, w ∈ xWd) : GoodIn xWd (ws ++ xWs ν) := by
  intro w hw
  have hm : w ∈ xWd := by
    rcases List.mem_append.mp hw with h1 | h1
    · exact h w h1
    · rcases List.mem_cons.mp h1 with h2 | h2
      · rw [h2]; exact mf.2.2.2.2.1
      · exact h2
  exact ⟨hm, good_of_word (xWd_good w hm)⟩
section XCALLZ
variable {μ ν : xMeth} {pc : Nat} {L : xLoc} {st stk : List Value} {M : xMem} {K K' Kc : Nat × Nat} {Q : xRes → xMem → Prop} {Qk : Option Value → xMem → Prop} {idx : Nat} {as : List Value}
theorem ex_callZ (d : decode (xCd μ) pc = .ok (.invokestatic idx, 3)) (ln : xLS (xOwn μ) idx ν) (hz : xLw (xNm μ).name) (mf : xMFZ ν) (hnp : (parseMethodDescriptor (xNm ν).desc).map (fun d => d.parameters.length) = some as.length) (hst : stk = as.reverse ++ st) (hlen : (xEnA as).length ≤ xMl ν) (hcat : (st.map fun v => v.category).sum ≤ 8) (hfr : xFr ν + 1 ≤ xFr μ ∧ 8 + (xMl ν + 11) + xLo ν ≤ xLo μ)
    (hx : ¬ xLw (xNm μ).name ∨ ∀ v M', Qk v M' → M'.2.2.1 4096 = M.2.2.1 4096 ∧ M'.2.2.1 4097 = M.2.2.1 4097) (hK : K.1 + Kc.1 ≤ K'.1 ∧ K.2 + Kc.2 ≤ K'.2)
    (hk : Wx ν 0 (xEn (xMl ν) as) [] M Kc (fun r M' => ∃ v, r = .ok v ∧ Qk v M')) (kk : ∀ v M', Qk v M' → Wx μ (pc + 3) L (v.toList ++ st) M' K Q) : Wx μ pc L stk M K' Q := by
  intro p l e s m args below meth c R base b D T2 CT ST QF hC hF H locs cells slots ls hS hL hc hs1
  subst hst
  have hw := hC.2.2.2.2.1
  have r1 := hC.2.2.2.2.2.2.2.2.2.1
  have r2 := hC.2.2.2.2.2.2.2.2.2.2.1
  have hR1 := hC.2.2.2.2.2.2.2.2.2.2.2.1
  have hR2 := hC.2.2.2.2.2.2.2.2.2.2.2.2.1
  have hfl := hC.2.2.2.2.2.2.2.2.2.2.2.2.2.1
  have hM := ex_metZ mf hfl (base := base) (b := b) (D := D) (T := T2) hlen hk
  have cw : CallB R s args (xOwn μ) idx (xNm ν) (xCd ν) (xMl ν) (xRt ν) (xWs ν) (xRm ν Kc) Kc.1 Kc.2 as.length ∧ (Cond.static (xNm ν)).before args s = true := by
    refine cwS as.length (Ts := xWd) hw ?_ rfl rfl rfl ⟨mf.2.1.trans ln.2.2, ?_, ?_, hnp⟩ ⟨Nat.le_trans hfr.1 r1, Nat.le_trans hfr.2 r2⟩
    · refine good_wsZ mf (ws := [.methodLink (xOwn μ) idx (xNm ν), .static (xNm ν), .initialized (xOwn μ)]) (fun w hw => ?_)
      simp only [List.mem_cons, List.not_mem_nil, or_false] at hw
      rcases hw with rfl | rfl | rfl
      · exact ln.1
      · exact ln.2.1
      · rw [← ln.2.2]; exact mf.2.2.2.2.2.1
    · rw [mf.2.1]; exact mf.2.2.2.2.2.2.1
    · rw [mf.2.1]; exact mf.2.2.2.2.2.2.2
  have hrun := va_runS (p := p) (l := l) (e := e) (below := below) (meth := meth) (locs := locs) (cells := cells) (slots := slots) (g := F0 m pc ls ((as.reverse ++ st).map (xV base b))) (As := as.map (xV base b)) (rest := st.map (xV base b)) ⟨hC.1, hC.2.1, hC.2.2.2.1, hC.2.2.1, hw⟩ hM cw ⟨xPcZ_blind, xPcZ_at hC hS hz⟩ rfl (by rw [List.length_map]) hL.1
    (by show (as.reverse ++ st).map (xV base b) = _; rw [List.map_append, List.map_reverse]) (by rw [xV_cats]; exact (by show 2 * 0 + _ ≤ 8; omega)) d (by omega)
  exact ex_back hC hF hS hL (by omega) (by omega) hrun hx kk
end XCALLZ
