/-! ===== exceptions: thrown by the class's own methods, caught by the law's ===== -/
theorem stackTraces0 {l : Launch} (h : l.flags = flags0) : l.stackTraces = false := by
  unfold Launch.stackTraces
  rw [h]
  decide +kernel
def xXc (base b : Nat) (D : va_G) (T : ClassId × ClassId × ClassId) (X : String → xMem → Prop) : String → State → State → Prop := fun E st t => (∃ M : xMem, X E M ∧ xWo base b D T M t) ∧ va_F (fun q => base ≤ q) st t
theorem ex_metX {ν : xMeth} {l : Launch} (mf : xMF ν) (hl : l.flags = flags0) {base b : Nat} {D : va_G} {T : ClassId × ClassId × ClassId} {as : List Value} {M : xMem} {Kc : Nat × Nat} {Qk : Option Value → xMem → Prop} {X : String → xMem → Prop} (hlen : (xEnA as).length ≤ xMl ν) (hk : Wx ν 0 (xEn (xMl ν) as) [] M Kc (fun r M' => (∀ v, r = .ok v → Qk v M') ∧ ∀ E, r = .error E → X E M')) :
    vx_Met l (xNm ν) (xWs ν) (xRm ν Kc) (xPc base b D T as M) (xQc base b D T Qk) (xXc base b D T X) Kc.1 Kc.2 (fun q => base ≤ q) := by
  refine vx_ofW (cc := xCd ν) (maxL := xMl ν) (ret := xRt ν) mf.1 rfl ?_
  intro p e s m args below meth c s₁ B hml htab hv
  have hC := xC_of mf hl B hml hv
  have hS := xSt_of mf hv
  have hargs : args = (as.map (xV base b)).toArray := hv.1
  have hlg : (lg_sl (as.map (xV base b))).length ≤ xMl ν := by rw [lg_len]; exact hlen
  have hL := lv_entry (as.map (xV base b)) hlg
  rw [← xlv_en (ml := xMl ν)] at hL
  have hw := hk p l e s m args below meth c (headSpec (xWs ν) (xRm ν Kc)).room base b D T Kc.1 Kc.2 (vx_MQ below (xQc base b D T Qk) (xXc base b D T X) args s Kc.1 Kc.2 (fun q => base ≤ q)) hC ⟨?_, ?_⟩ s.heap [] 0 0 _ hS hL (by omega) (by omega)
  · rw [hargs, lg_entry_eq]
    rw [hargs] at hw
    exact hw
  · intro pc ls H locs M' v ins hS' hQ d hro
    refine vx_ret ?_
    refine xRO_ret B.exec B.bytes B.returns B.notSynchronized d hro (fun t ht hW => ⟨⟨v, M', rfl, hQ.1 v rfl, ?_⟩, hS'.2.2.1.F ht⟩) hS'.2.2.1.2.2
    refine ⟨by rw [ht]; exact hS'.1, hS'.2.1, fun h => by rw [ht]; exact hS'.2.2.2.1 h, hS'.2.2.2.2.1⟩
  · intro pc ls H locs n g i q r E rest cells slots hS' hlsz hQ hth hcat hc1 hs1
    obtain ⟨ik, is, ic, ix, rx, text, names, hrx, d0, d3, d4, d6, d9, hfit, hnames, hk1, hini, hstr, hat, hot, hfr, hlo, hhh⟩ := hth
    have hw2 := hC.2.2.2.2.1
    have hks := hC.2.2.2.2.2.1
    have hkz := hC.2.2.2.2.2.2.1
    obtain ⟨sa, hsa⟩ := hks.2.2 _ hstr
    have hbs := hC.2.2.2.2.2.2.2.1
    refine nse_throw (hrx := hrx) (A := fun q => base ≤ q) (mc := Kc.1) (ms := Kc.2) B.exec B.bytes (stackTraces0 hl) hC.2.2.1 hfit hnames (hw2 _ hk1) (hw2 _ hini) hsa (fun w hw3 => ?_) (fun w hw3 => ?_) hkz.1 hkz.2 hS'.2.2.1 (by rw [hlsz]; exact hml.symm) d0 d3 d4 d6 d9 (fun x hx => (htab x hx).elim) hfr ?_ hc1 hs1 B.notSynchronized (fun t hA hsz hold => ?_) hS'.2.2.1.2.2 hc1 hs1
    · rcases hat w hw3 with h | h
      · exact hw2 _ h
      · have hz := hks.1 _ h
        have hon : w.onTables = true := by
          have := xAux_ok w h
          cases w <;> first | exact False.elim this | rfl
        exact hz.use hon
    · rcases List.mem_cons.mp hw3 with rfl | hw3
      · unfold vx_ot; rw [xWd_good _ hk1]; simp
      · rcases List.mem_cons.mp hw3 with rfl | hw3
        · unfold vx_ot; rw [xWd_good _ hini]; simp
        · exact hot w hw3
    · show (rest.map fun v => v.category).sum + (13 * (names.length + 1) + 43) ≤ xLo ν
      omega
    · refine ⟨⟨(n, g + 1, i, q, r), hQ.2 E rfl, ?_, hS'.2.1, fun h => (by cases h), hS'.2.2.2.2.1⟩, Nat.le_trans hS'.2.2.1.1 hsz, fun x hx hnx => ?_⟩
      · exact hS'.1.kept (fun k x hx => hold x.1 ((hS'.1 k x hx).lt))
      · rw [hold x (Nat.lt_of_lt_of_le hx hS'.2.2.1.1)]; exact hS'.2.2.1.2.1 x hx hnx
/-- where E, thrown at pc, is caught -/
def xHd (μ : xMeth) (pc : Nat) (E : String) (hpc : Nat) : Prop := ∃ (pre suf : List ExceptionTableEntry) (x : ExceptionTableEntry) (name : String), tableOf (xHh μ) = pre ++ x :: suf ∧ x.handlerPc = hpc ∧ covers x pc = true ∧ x.catchType ≠ 0 ∧ Cond.classLink (xOwn μ) x.catchType name ∈ xWd ∧ Cond.castable E name ∈ xAux ∧
  ∀ z ∈ pre, covers z pc = false ∨ (z.catchType ≠ 0 ∧ ∃ nm : String, Cond.classLink (xOwn μ) z.catchType nm ∈ xWd ∧ (E, nm) ∈ xNcs)
theorem xlv_none {base b : Nat} {L : xLoc} {i : Nat} {u : Value} {q : Nat × Value} (h : q ∈ xlv base b (xPut L i none)) : q ∈ (i, u) :: (xlv base b L).filter (fun q => !(q.1 == i) && !(q.1 + 1 == i && q.2.category == 2)) := by
  obtain ⟨j, w⟩ := q
  obtain ⟨k, v, h1, h2, h3⟩ := xlv_mem.mp h
  rw [Nat.zero_add] at h1
  subst h1
  unfold xPut at h2
  rw [List.getElem?_set] at h2
  split at h2
  · split at h2 <;> simp at h2
  · rename_i hne
    obtain ⟨h4, h5⟩ := xKill_get h2
    refine List.mem_cons_of_mem _ (List.mem_filter.mpr ⟨xlv_mem.mpr ⟨j, v, by omega, h4, h3⟩, ?_⟩)
    have e1 : (j == i) = false := by simpa using fun e => hne e.symm
    have e2 : (j + 1 == i && w.category == 2) = false := by
      rw [h3, xV_cat]
      cases hz : (j + 1 == i && v.category == 2)
      · rfl
      · simp at hz
        exact absurd ⟨hz.1, hz.2⟩ h5
    show (!(j == i) && !(j + 1 == i && w.category == 2)) = true
    rw [e1, e2]; rfl
theorem ex_callX {μ ν : xMeth} {pc : Nat} {L : xLoc} {st stk : List Value} {M : xMem} {K : Nat × Nat} {Q : xRes → xMem → Prop} {idx a ci : Nat} {as : List Value} {z : vw_C} {Qk : Option Value → xMem → Prop} {X : String → xMem → Prop} (hlaw : ¬ xLw (xNm μ).name) (hhne : xHh μ ≠ []) (d : decode (xCd μ) pc = .ok (.invokevirtual idx, 3)) (ln : xLV (xOwn μ) idx ν) (mf : xMF ν) (hs : SHl[a]? = some (.inl ci)) (ha : a < M.1) (hz : vwCl[ci]? = some z) (hzn : z.1 = xOwn ν) (hnp : (parseMethodDescriptor (xNm ν).desc).map (fun d => d.parameters.length) = some as.length) (hst : stk = as.reverse ++ .ref a :: st) (hlen : (xEnA (.ref a :: as)).length ≤ xMl ν) (hcat : (st.map fun v => v.category).sum ≤ 8) (hfr : xFr ν + 1 ≤ xFr μ ∧ 8 + (xMl ν + 11) + xLo ν ≤ xLo μ)
    (hk : Wx ν 0 (xEn (xMl ν) (.ref a :: as)) [] M (1, 6) (fun r M' => (∀ v, r = .ok v → Qk v M') ∧ ∀ E, r = .error E → X E M')) (kk : ∀ v M', Qk v M' → Wx μ (pc + 3) L (v.toList ++ st) M' K Q)
    (kx : ∀ E M', X E M' → ∃ hpc n len, xHd μ pc E hpc ∧ n < xMl μ ∧ (decode (xCd μ) hpc = .ok (.astore n, 2) ∧ len = 2 ∨ ∃ f : Fin 4, (f : Nat) = n ∧ decode (xCd μ) hpc = .ok (.astore_n f, 1) ∧ len = 1) ∧ Wx μ (hpc + len) (xPut L n none) [] M' K Q) : Wx μ pc L stk M (K.1 + 1, K.2 + 6) Q := by
  intro p l e s m args below meth c R base b D T2 CT ST QF hC hF H locs cells slots ls hS hL hc hs1
  subst hst
  have hw := hC.2.2.2.2.1
  have r1 := hC.2.2.2.2.2.2.2.2.2.1
  have r2 := hC.2.2.2.2.2.2.2.2.2.2.1
  have hR1 := hC.2.2.2.2.2.2.2.2.2.2.2.1
  have hR2 := hC.2.2.2.2.2.2.2.2.2.2.2.2.1
  have hfl := hC.2.2.2.2.2.2.2.2.2.2.2.2.2.1
  have htb : c.exceptionTable.toList = tableOf (xHh μ) := hC.2.2.2.2.2.2.2.2.2.2.2.2.2.2.2.2.resolve_left hhne
  have hc' : cells + (K.1 + 1) ≤ CT := hc
  have hs' : slots + (K.2 + 6) ≤ ST := hs1
  have hget := xWl_get (base := base) (b := b) (T := T2) (M := M) ha
  rw [xE_obj hs] at hget
  have hM := ex_metX mf hfl (base := base) (b := b) (D := D) (T := T2) hlen hk
  have cw : CallW R s args (xOwn μ) (xOwn ν) idx (xNm ν) (xCd ν) (xMl ν) (xRt ν) (xWs ν) (xRm ν (1, 6)) 1 6 as.length := by
    refine cwV as.length (Ts := xWd) hw ?_ rfl rfl rfl ⟨mf.2.1, ?_, ?_, hnp⟩ ⟨Nat.le_trans hfr.1 r1, Nat.le_trans hfr.2 r2⟩
    · refine good_ws mf (ws := [.methodLink (xOwn μ) idx (xNm ν), .instanceMethod (xNm ν), .selects (xOwn ν) (xNm ν) (xNm ν), .initialized (xOwn ν)]) (fun w hw => ?_)
      simp only [List.mem_cons, List.not_mem_nil, or_false] at hw
      rcases hw with rfl | rfl | rfl | rfl
      · exact ln.1
      · exact ln.2.1
      · exact ln.2.2
      · exact mf.2.2.2.2.2.1
    · rw [mf.2.1]; exact mf.2.2.2.2.2.2.1
    · rw [mf.2.1]; exact mf.2.2.2.2.2.2.2
  have hrec := va_recv hC.2.2.2.2.2.2.2.2.1 hS.1 hz hget
  rw [hzn] at hrec
  have epc : (Value.ref (base + a) :: as.map (xV base b)) = (Value.ref a :: as).map (xV base b) := by
    show _ = xV base b (.ref a) :: _
    rw [sh_ref hs]
  have hrun := vx_runV (p := p) (l := l) (e := e) (below := below) (meth := meth) (locs := locs) (cells := cells) (slots := slots) (g := F0 m pc ls ((as.reverse ++ .ref a :: st).map (xV base b))) (As := as.map (xV base b)) (rest := st.map (xV base b)) ⟨hC.1, hC.2.1, hC.2.2.2.1, hC.2.2.1, hw⟩ hM cw ⟨xPc_blind, hrec, by rw [epc]; exact xPc_at hC hS⟩ rfl (by rw [List.length_map]) hL.1
    (by show (as.reverse ++ .ref a :: st).map (xV base b) = _; rw [List.map_append, List.map_reverse]; show _ ++ xV base b (.ref a) :: _ = _; rw [sh_ref hs]) (by rw [xV_cats]; exact (by show 2 * 0 + _ ≤ 8; omega)) d (by omega)
  have hV := hS.2.2.1
  have mkS : ∀ (M' : xMem) (st₀ t T' : State) (L' : List Loc), st₀.heap = H → (∀ q ∈ L', base ≤ q.base) → T'.heap = t.heap → xWo base b D T2 M' t → va_F (fun q => base ≤ q) st₀ t → xSt μ s base b D T2 T'.heap (locs ++ L') M' := by
    intro M' st₀ t T' L' h0 hL' e1 hwo hF9
    obtain ⟨w1, w2, w3, w4⟩ := hwo
    obtain ⟨hz9, hk9⟩ := hF9
    rw [h0] at hz9 hk9
    rw [← e1] at w1 w3 hz9
    refine ⟨w1, w2, ⟨Nat.le_trans hV.1 hz9, fun q h1 h2 => ?_, fun q hq => ?_⟩, w3, w4, fun h => absurd h hlaw⟩
    · rw [e1, hk9 q (Nat.lt_of_lt_of_le h1 hV.1) h2]; exact hV.2.1 q h1 h2
    · rcases List.mem_append.mp hq with h | h
      · exact hV.2.2 q h
      · exact hL' q h
  intro T0 hT X0
  rcases hrun T0 hT X0 with ⟨v, st₀, t, T', L', h0, X', hL', e1, e2, ⟨⟨v', M', hv, hQ, hwo⟩, hF9⟩, stp⟩ | ⟨q9, st₀, t, T', L', E, ce, h0, X', hL', e1, e2, ⟨⟨M', hX, hwo⟩, hF9⟩, hce, hcv, hcl, stp⟩
  · cases hv
    have hst := mkS M' st₀ t T' L' h0 hL' e1 hwo hF9
    have hw2 := kk v' M' hQ p l e s m args below meth c R base b D T2 CT ST QF hC hF T'.heap (locs ++ L') (cells + 1) (slots + 6) ls hst hL (by omega) (by omega)
    rw [List.map_append] at hw2
    have e3 : (v'.toList).map (xV base b) = (v'.map (xV base b)).toList := by cases v' <;> rfl
    rw [e3] at hw2
    obtain ⟨t2, a1, b1⟩ := hw2 T' rfl X'
    exact ⟨t2, stp t2 a1, b1⟩
  · have hst := mkS M' st₀ t T' L' h0 hL' e1 hwo hF9
    obtain ⟨hpc, nn, len, ⟨pre, suf, x, name, hsp, hxp, hxc, hx0, hxl, hxcast, hpre⟩, hnl, hdec, hwx⟩ := kx E M' hX
    have hks := hC.2.2.2.2.2.1
    have hcast : (Cond.castable E name).before args s = true := (hks.1 _ hxcast).use rfl
    subst hxp
    have hcat9 : vx_W p l e R s m args below meth c T'.heap (locs ++ L') (cells + 1) (slots + 6) QF (F0 m pc ls (st.map (xV base b))) q9 := by
      refine vx_catch (own := xOwn μ) (name := name) (E := E) (ce := ce) hC.2.2.1 pre x suf (htb.trans hsp) (fun z hz => ?_) hxc hx0 (hw _ hxl) hcast (by rw [e1]; exact hce) hcv hcl ?_
      · rcases hpre z hz with h | ⟨h1, nm, h2, h3⟩
        · exact Or.inl h
        · exact Or.inr ⟨h1, nm, hw _ h2, hks.2.1 _ h3⟩
      · rcases hdec with ⟨hd, hlen9⟩ | ⟨f, hfn, hd, hlen9⟩
        · subst hlen9
          exact lv_astore hC.1 hC.2.1 hd hL hnl rfl (fun ls' hl' => hwx p l e s m args below meth c R base b D T2 CT ST QF hC hF T'.heap (locs ++ L') (cells + 1) (slots + 6) ls' hst (lv_less hl' fun q hq => xlv_none hq) (by omega) (by omega))
        · subst hlen9
          exact lv_astore_n hC.1 hC.2.1 hd hfn hL hnl rfl (fun ls' hl' => hwx p l e s m args below meth c R base b D T2 CT ST QF hC hF T'.heap (locs ++ L') (cells + 1) (slots + 6) ls' hst (lv_less hl' fun q hq => xlv_none hq) (by omega) (by omega))
    obtain ⟨t2, a1, b1⟩ := hcat9 T' rfl X'
    exact ⟨t2, stp.trans a1, b1⟩
/-! a method with a table of its own, called by the law -/
abbrev xWsH (ν : xMeth) : List Cond := Cond.codeWith (xNm ν) (xCd ν) (xMl ν) (xRt ν) (xHh ν) :: xWd
def xMFH (ν : xMeth) : Prop := plainName (xNm ν).cls = true ∧ (xNm ν).cls = xOwn ν ∧ ¬ xLw (xNm ν).name ∧ Cond.codeWith (xNm ν) (xCd ν) (xMl ν) (xRt ν) (xHh ν) ∈ xWd ∧ Cond.initialized (xOwn ν) ∈ xWd ∧ ((xOwn ν) ≠ "java/lang/invoke/MethodHandle" ∧ (xOwn ν) ≠ "java/lang/invoke/VarHandle")
theorem ex_metH {ν : xMeth} {l : Launch} (mf : xMFH ν) (hl : l.flags = flags0) {base b : Nat} {D : va_G} {T : ClassId × ClassId × ClassId} {as : List Value} {M : xMem} {Kc : Nat × Nat} {Qk : Option Value → xMem → Prop} (hlen : (xEnA as).length ≤ xMl ν) (hk : Wx ν 0 (xEn (xMl ν) as) [] M Kc (fun r M' => ∃ v, r = .ok v ∧ Qk v M')) :
    Met l (xNm ν) (xWsH ν) (xRm ν Kc) (xPc base b D T as M) (xQc base b D T Qk) Kc.1 Kc.2 (fun q => base ≤ q) := by
  refine va_MetW (cc := xCd ν) (maxL := xMl ν) (ret := xRt ν) (hh := xHh ν) mf.1 rfl ?_
  intro p e s m args below meth c s₁ B hml hv
  have hts := atoms_spec (ws := xWsH ν) B.pre
  have htab := vx_table (x := xNm ν) B (hts _ List.mem_cons_self)
  obtain ⟨hargs, hw0, hK, hks, hkz, hbs⟩ := id hv
  have hC : xC ν p l s m args meth c (headSpec (xWsH ν) (xRm ν Kc)).room base D T Kc.1 Kc.2 := by
    refine ⟨B.exec, B.bytes, ?_, hml, fun w h => hts w (List.mem_cons_of_mem _ h), hks, hkz, hbs, hK, Nat.le_refl _, Nat.le_refl _, Nat.le_refl _, Nat.le_refl _, hl, B.notSynchronized, (name_of_methodNamed B.named B.method).1, Or.inr htab⟩
    rw [← mf.2.1]
    exact findClass_of_methodNamed B.named
  have hS : xSt ν s base b D T s.heap [] M := ⟨hw0.1, hw0.2.1, va_S.rf, hw0.2.2.1, hw0.2.2.2, fun h => absurd h mf.2.2.1⟩
  have hlg : (lg_sl (as.map (xV base b))).length ≤ xMl ν := by rw [lg_len]; exact hlen
  have hL := lv_entry (as.map (xV base b)) hlg
  rw [← xlv_en (ml := xMl ν)] at hL
  have hw := hk p l e s m args below meth c (headSpec (xWsH ν) (xRm ν Kc)).room base b D T Kc.1 Kc.2 (MQ below (xQc base b D T Qk) args s Kc.1 Kc.2 (fun q => base ≤ q)) hC ⟨?_, ?_⟩ s.heap [] 0 0 _ hS hL (by omega) (by omega)
  · rw [hargs, lg_entry_eq]
    rw [hargs] at hw
    exact hw
  · intro pc ls H locs M' v ins hS' hQ d hro
    obtain ⟨v', hv', hQ'⟩ := hQ
    cases hv'
    refine xRO_ret B.exec B.bytes B.returns B.notSynchronized d hro (fun t ht hW => ⟨⟨v, M', rfl, hQ', ?_⟩, hS'.2.2.1.F ht⟩) hS'.2.2.1.2.2
    refine ⟨by rw [ht]; exact hS'.1, hS'.2.1, fun h => by rw [ht]; exact hS'.2.2.2.1 h, hS'.2.2.2.2.1⟩
  · intro pc ls H locs n g i q r E rest cells slots _ _ hQ
    obtain ⟨v', hv', _⟩ := hQ
    cases hv'
theorem ex_callH {μ ν : xMeth} {pc : Nat} {L : xLoc} {st stk : List Value} {M : xMem} {K K' Kc : Nat × Nat} {Q : xRes → xMem → Prop} {Qk : Option Value → xMem → Prop} {idx : Nat} {as : List Value} (d : decode (xCd μ) pc = .ok (.invokestatic idx, 3)) (ln : Cond.methodLink (xOwn μ) idx (xNm ν) ∈ xWd ∧ Cond.static (xNm ν) ∈ xWd) (mf : xMFH ν) (hnp : (parseMethodDescriptor (xNm ν).desc).map (fun d => d.parameters.length) = some as.length) (hst : stk = as.reverse ++ st) (hlen : (xEnA as).length ≤ xMl ν) (hcat : (st.map fun v => v.category).sum ≤ 8) (hfr : xFr ν + 1 ≤ xFr μ ∧ 8 + (xMl ν + 11) + xLo ν ≤ xLo μ)
    (hx : ¬ xLw (xNm μ).name ∨ ∀ v M', Qk v M' → M'.2.2.1 4096 = M.2.2.1 4096 ∧ M'.2.2.1 4097 = M.2.2.1 4097) (hK : K.1 + Kc.1 ≤ K'.1 ∧ K.2 + Kc.2 ≤ K'.2)
    (hk : Wx ν 0 (xEn (xMl ν) as) [] M Kc (fun r M' => ∃ v, r = .ok v ∧ Qk v M')) (kk : ∀ v M', Qk v M' → Wx μ (pc + 3) L (v.toList ++ st) M' K Q) : Wx μ pc L stk M K' Q := by
  intro p l e s m args below meth c R base b D T2 CT ST QF hC hF H locs cells slots ls hS hL hc hs1
  subst hst
  have hw := hC.2.2.2.2.1
  have r1 := hC.2.2.2.2.2.2.2.2.2.1
  have r2 := hC.2.2.2.2.2.2.2.2.2.2.1
  have hR1 := hC.2.2.2.2.2.2.2.2.2.2.2.1
  have hR2 := hC.2.2.2.2.2.2.2.2.2.2.2.2.1
  have hfl := hC.2.2.2.2.2.2.2.2.2.2.2.2.2.1
  have hM := ex_metH mf hfl (base := base) (b := b) (D := D) (T := T2) hlen hk
  have cw : vx_CSW R s args (xOwn μ) idx (xNm ν) (xCd ν) (xMl ν) (xRt ν) (xHh ν) (xWsH ν) (xRm ν Kc) Kc.1 Kc.2 as.length := by
    refine vx_cwSW as.length (Ts := xWd) hw ?_ rfl rfl rfl ⟨?_, ?_, hnp⟩ ⟨Nat.le_trans hfr.1 r1, Nat.le_trans hfr.2 r2⟩
    · intro w hw9
      have hm : w ∈ xWd := by
        rcases List.mem_append.mp hw9 with h1 | h1
        · simp only [List.mem_cons, List.not_mem_nil, or_false] at h1
          rcases h1 with rfl | rfl | rfl
          · exact ln.1
          · exact ln.2
          · rw [mf.2.1]; exact mf.2.2.2.2.1
        · rcases List.mem_cons.mp h1 with h2 | h2
          · rw [h2]; exact mf.2.2.2.1
          · exact h2
      exact ⟨hm, good_of_word (xWd_good w hm)⟩
    · rw [mf.2.1]; exact mf.2.2.2.2.2.1
    · rw [mf.2.1]; exact mf.2.2.2.2.2.2
  have hrun := vx_runSW (p := p) (l := l) (e := e) (below := below) (meth := meth) (locs := locs) (cells := cells) (slots := slots) (g := F0 m pc ls ((as.reverse ++ st).map (xV base b))) (As := as.map (xV base b)) (rest := st.map (xV base b)) ⟨hC.1, hC.2.1, hC.2.2.2.1, hC.2.2.1, hw⟩ hM cw ⟨xPc_blind, xPc_at hC hS⟩ rfl (by rw [List.length_map]) hL.1
    (by show (as.reverse ++ st).map (xV base b) = _; rw [List.map_append, List.map_reverse]) (by rw [xV_cats]; exact (by show 2 * 0 + _ ≤ 8; omega)) d (by omega)
  exact ex_back hC hF hS hL (by omega) (by omega) hrun hx kk
