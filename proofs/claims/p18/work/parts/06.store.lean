/-! ===== stores, with the heap's size kept ===== -/
section XW
variable {p : Program} {l : Launch} {e : Env} {R : Room} {s : State} {m : MethodId} {args : Array Value} {below : List Frame} {meth : Method} {c : Code} {H : Heap} {locs : List Loc} {cells slots : Nat} {Q : State → Prop}
variable {cc : ByteArray} {pc : Nat} {ls : Array Slot} {rest : List Value} {D : va_G} {cl : List vw_C} {A : Nat → Prop} {a : Nat} {tys : List (ClassId × FieldType)} {ws : va_W} {H0 : Heap}
theorem xw_iast (hexec : p.tables.exec = Jvm.exec) (hb : c.code = cc) (hK : va_K D cl tys s) (hP : va_P D cl ws H) (hD : va_D A ws) (hS : va_S A H0 H locs) (q0 t0 : Nat) {cA : ClassId} {n : Nat} {f : Nat → Int32} (ha : ws[q0]? = some (a, .inl (cA, n, .inl f))) (ht : tys[t0]? = some (cA, .int)) {i x : Int32} (hin : vp_in i n) (hdg : decode cc pc = .ok (.iastore, 1))
    (kk : ∀ (H1 : Heap) (locs1 : List Loc), va_P D cl (ws.set q0 (a, .inl (cA, n, .inl (upd f i.toNatClampNeg x)))) H1 → va_D A (ws.set q0 (a, .inl (cA, n, .inl (upd f i.toNatClampNeg x)))) → va_S A H0 H1 locs1 → H1.size = H.size → W p l e R s m args below meth c H1 locs1 cells slots Q (F0 m (pc + 1) ls rest)) : W p l e R s m args below meth c H locs cells slots Q (F0 m pc ls (.int x :: .int i :: .ref a :: rest)) := by
  refine W.iast hexec hb (hP q0 _ ha) ((hK.2 t0 _ ht).1 n (fun j => .int (f j))) (fun q => by cases q) (by show ¬ (i < 0 ∨ (arrV _ _ _).slots.size ≤ _); rw [arrV_size]; exact hin) rfl rfl hdg fun H1 e z oq => ?_
  refine kk H1 _ (hP.set hD ha ?_ oq) (hD.set ha) (hS.put z oq (hD.2 q0 _ ha)) z
  show H1[a]? = some (vp_cell _ _)
  rw [e, vp_cell_i, vp_cell_i, arrV_store]
  congr 2
  funext q
  by_cases hq : q = i.toNatClampNeg
  · subst hq; simp [updV, upd]
  · simp [updV, upd, hq]
theorem xw_last (hexec : p.tables.exec = Jvm.exec) (hb : c.code = cc) (hK : va_K D cl tys s) (hP : va_P D cl ws H) (hD : va_D A ws) (hS : va_S A H0 H locs) (q0 t0 : Nat) {cA : ClassId} {n : Nat} {f : Nat → Int64} (ha : ws[q0]? = some (a, .inl (cA, n, .inr (.inl f)))) (ht : tys[t0]? = some (cA, .long)) {i : Int32} {x : Int64} (hin : vp_in i n) (hdg : decode cc pc = .ok (.lastore, 1))
    (kk : ∀ (H1 : Heap) (locs1 : List Loc), va_P D cl (ws.set q0 (a, .inl (cA, n, .inr (.inl (vp_updL f i.toNatClampNeg x))))) H1 → va_D A (ws.set q0 (a, .inl (cA, n, .inr (.inl (vp_updL f i.toNatClampNeg x))))) → va_S A H0 H1 locs1 → H1.size = H.size → W p l e R s m args below meth c H1 locs1 cells slots Q (F0 m (pc + 1) ls rest)) : W p l e R s m args below meth c H locs cells slots Q (F0 m pc ls (.long x :: .int i :: .ref a :: rest)) := by
  refine W.last hexec hb (hP q0 _ ha) ((hK.2 t0 _ ht).1 n (fun j => .long (f j))) (fun q => by cases q) (by show ¬ (i < 0 ∨ (arrV _ _ _).slots.size ≤ _); rw [arrV_size]; exact hin) rfl rfl hdg fun H1 e z oq => ?_
  refine kk H1 _ (hP.set hD ha ?_ oq) (hD.set ha) (hS.put z oq (hD.2 q0 _ ha)) z
  show H1[a]? = some (vp_cell _ _)
  rw [e, vp_cell_l, vp_cell_l, arrV_store]
  congr 2
  funext q
  by_cases hq : q = i.toNatClampNeg
  · subst hq; simp [updV, vp_updL]
  · simp [updV, vp_updL, hq]
theorem xw_put (hexec : p.tables.exec = Jvm.exec) (hb : c.code = cc) {own C : String} {T : u_T} {N ci index : Nat} {Ts : List Cond} (hts : ∀ w ∈ Ts, w.before args s = true) (hin : ∀ w ∈ u_ws C T N, w ∈ Ts) (ty0 : Nat → FieldType) (hty : ∀ k, k < N → parseFieldDescriptor (T k).2.2.1 = some (ty0 k)) (hnm : ∀ a, a < N → ∀ b, b < N → a ≠ b → (T a).2.1 ≠ (T b).2.1) (hown : s.vm.findClass own = some m.cls) (hK : va_K D cl tys s) (hP : va_P D cl ws H) (hD : va_D A ws) (hS0 : va_S A H0 H locs) (q0 : Nat) {fs : List Value} (he : ws[q0]? = some (a, .inr (ci, fs))) (hc : cl[ci]? = some (C, T, N)) (k : Nat) (hk : k < N) (hlink : (Cond.fieldLink own index (T k).1 (T k).2.1 (T k).2.2.1).before args s = true) (hfin : (T k).2.2.2 = false ∨ ((T k).2.2.2 = true ∧ meth.name = "<init>" ∧ (T k).1 = own)) {v : Value} (hn : narrow (ty0 k) v = v) (hfit : fits (ty0 k) v = true) (hl : k < fs.length)
    (hdg : decode cc pc = .ok (.putfield index, 3)) (kk : ∀ (H1 : Heap) (locs1 : List Loc), va_P D cl (ws.set q0 (a, .inr (ci, fs.set k v))) H1 → va_D A (ws.set q0 (a, .inr (ci, fs.set k v))) → va_S A H0 H1 locs1 → H1.size = H.size → W p l e R s m args below meth c H1 locs1 cells slots Q (F0 m (pc + 3) ls rest)) : W p l e R s m args below meth c H locs cells slots Q (F0 m pc ls (v :: .ref a :: rest)) := by
  have hap := va_apart (own := own) hts hin ty0 hty hnm hK hc
  obtain ⟨r, h1, cell, q1, q2, q3, q4⟩ := hP q0 _ he
  have hr : r = (C, T, N) := Option.some.inj (h1.symm.trans hc)
  subst hr
  obtain ⟨hS, hfc, kC, hkC, hkind⟩ := hK.1 ci _ hc
  obtain ⟨cf, kf, fi, f, hi, hsl⟩ := hS k hk
  have hlay := hts _ (hin _ (u_in_lay hk))
  unfold u_lay at hlay
  have hst := (u_facts hfc hkC (u_lays hts hin hk) hi).1
  rcases hfin with hfin | ⟨hfin, hin2, hdecl⟩
  · rw [if_neg (by rw [hfin]; decide)] at hlay
    have h6 := u_store hfc hkC hkind hlay hi (hty k hk) hn hfit
    refine W.putK hexec hb (f := f) ⟨hown, hlink, ⟨_, _, _, hi⟩, hst⟩ (by rw [q2]; exact h6) q1 q3 (by rw [hsl]; exact k2_hasslot (q4 k hk)) rfl rfl hdg fun H' e1 e2 e3 => ?_
    rw [hsl] at e1 ⊢
    exact kk H' _ (hP.set hD he ⟨_, hc, t_OB.to (V := updV (vp_V fs) k v) ⟨_, e1, q2, q3, t_set q4 hap hk v⟩ (fun j _ => vp_updV_set hl v j)⟩ e3) (hD.set he) (hS0.put e2 e3 (hD.2 q0 _ he)) e2
  · rw [if_pos hfin] at hlay
    have hcf : m.cls = cf := by
      obtain ⟨_, _, c', _, _, _, -, -, hf', -, -, -, hown2, -⟩ := Cond.laysFinal_spec hlay
      have e1 : c' = cf := by have := hi.symm.trans hf'; simp at this; exact this.1.symm
      rw [hdecl] at hown2
      rw [← e1]; exact Option.some.inj (hown.symm.trans hown2)
    have h6 := u_fits hfc hkC hkind (Or.inr hlay) hi (hty k hk) hn hfit
    refine W.putFinK hexec hb hown hlink hi hst hcf hin2 (by rw [q2]; exact h6) q1 q3 (by rw [hsl]; exact k2_hasslot (q4 k hk)) rfl rfl hdg fun H' e1 e2 e3 => ?_
    rw [hsl] at e1 ⊢
    exact kk H' _ (hP.set hD he ⟨_, hc, t_OB.to (V := updV (vp_V fs) k v) ⟨_, e1, q2, q3, t_set q4 hap hk v⟩ (fun j _ => vp_updV_set hl v j)⟩ e3) (hD.set he) (hS0.put e2 e3 (hD.2 q0 _ he)) e2
end XW
section XMEM2
variable {μ : xMeth} {pc : Nat} {L : xLoc} {st : List Value} {n g : Nat} {i : Nat → Nat → Int32} {q : Nat → Nat → Int64} {r : Nat → Nat → Value} {K : Nat × Nat} {Q : xRes → xMem → Prop}
theorem xU_at (f : Nat → Nat → Int32) (a k : Nat) (x : Int32) : xU f a k x a = upd (f a) k x := by unfold xU; rw [if_pos rfl]
theorem xU_ne (f : Nat → Nat → Int32) {a b : Nat} (k : Nat) (x : Int32) (h : b ≠ a) : xU f a k x b = f b := by unfold xU; rw [if_neg h]
theorem xUL_at (f : Nat → Nat → Int64) (a k : Nat) (x : Int64) : xUL f a k x a = vp_updL (f a) k x := by unfold xUL; rw [if_pos rfl]
theorem xUL_ne (f : Nat → Nat → Int64) {a b : Nat} (k : Nat) (x : Int64) (h : b ≠ a) : xUL f a k x b = f b := by unfold xUL; rw [if_neg h]
theorem xUR_ne (f : Nat → Nat → Value) {a b : Nat} (k : Nat) (x : Value) (h : b ≠ a) : xUR f a k x b = f b := by unfold xUR; rw [if_neg h]
theorem ex_iald {a N : Nat} {j x : Int32} (d : decode (xCd μ) pc = .ok (.iaload, 1)) (hs : SHl[a]? = some (.inr (0, N))) (ha : a < n) (hin : vp_in j N) (hx : i a j.toNatClampNeg = x) (kk : Wx μ (pc + 1) L (.int x :: st) (n, g, i, q, r) K Q) : Wx μ pc L (.int j :: .ref a :: st) (n, g, i, q, r) K Q := by
  intro p l e s m args below meth c R base b D T2 CT ST QF hC hF H locs cells slots ls hS hL hc hs1
  subst hx
  have hget := xWl_get (base := base) (b := b) (T := T2) (M := (n, g, i, q, r)) ha
  rw [xE_int hs] at hget
  show W p l e R s m args below meth c H locs cells slots QF (F0 m pc ls (.int j :: xV base b (.ref a) :: st.map (xV base b)))
  rw [sh_ref hs]
  exact va_iald hC.1 hC.2.1 hC.2.2.2.2.2.2.2.2.1 hS.1 a 0 hget rfl hin d (kk p l e s m args below meth c R base b D T2 CT ST QF hC hF H locs cells slots ls hS hL hc hs1)
theorem ex_lald {a N : Nat} {j : Int32} {x : Int64} (d : decode (xCd μ) pc = .ok (.laload, 1)) (hs : SHl[a]? = some (.inr (2, N))) (ha : a < n) (hin : vp_in j N) (hx : q a j.toNatClampNeg = x) (kk : Wx μ (pc + 1) L (.long x :: st) (n, g, i, q, r) K Q) : Wx μ pc L (.int j :: .ref a :: st) (n, g, i, q, r) K Q := by
  intro p l e s m args below meth c R base b D T2 CT ST QF hC hF H locs cells slots ls hS hL hc hs1
  subst hx
  have hget := xWl_get (base := base) (b := b) (T := T2) (M := (n, g, i, q, r)) ha
  rw [xE_long hs] at hget
  show W p l e R s m args below meth c H locs cells slots QF (F0 m pc ls (.int j :: xV base b (.ref a) :: st.map (xV base b)))
  rw [sh_ref hs]
  exact va_lald hC.1 hC.2.1 hC.2.2.2.2.2.2.2.2.1 hS.1 a 1 hget rfl hin d (kk p l e s m args below meth c R base b D T2 CT ST QF hC hF H locs cells slots ls hS hL hc hs1)
theorem ex_iast {a N : Nat} {j x : Int32} (d : decode (xCd μ) pc = .ok (.iastore, 1)) (hs : SHl[a]? = some (.inr (0, N))) (ha : a < n) (hin : vp_in j N) (kk : Wx μ (pc + 1) L st (n, g, xU i a j.toNatClampNeg x, q, r) K Q) : Wx μ pc L (.int x :: .int j :: .ref a :: st) (n, g, i, q, r) K Q := by
  intro p l e s m args below meth c R base b D T2 CT ST QF hC hF H locs cells slots ls hS hL hc hs1
  have hget := xWl_get (base := base) (b := b) (T := T2) (M := (n, g, i, q, r)) ha
  rw [xE_int hs] at hget
  show W p l e R s m args below meth c H locs cells slots QF (F0 m pc ls (.int x :: .int j :: xV base b (.ref a) :: st.map (xV base b)))
  rw [sh_ref hs]
  refine xw_iast hC.1 hC.2.1 hC.2.2.2.2.2.2.2.2.1 hS.1 hS.2.1 hS.2.2.1 a 0 hget rfl hin d fun H1 locs1 hP hD hV hz => ?_
  refine kk p l e s m args below meth c R base b D T2 CT ST QF hC hF H1 locs1 cells slots ls (xSt_upd hS ha hz rfl rfl ?_ (fun k hk => ⟨(xU_ne _ _ _ hk).symm, rfl, rfl⟩) hP hD hV) hL hc hs1
  rw [xE_int hs]
  show (Sum.inl (T2.1, N, Sum.inl (xU i a j.toNatClampNeg x a)) : va_E) = _
  rw [xU_at]
theorem ex_last {a N : Nat} {j : Int32} {x : Int64} (d : decode (xCd μ) pc = .ok (.lastore, 1)) (hs : SHl[a]? = some (.inr (2, N))) (ha : a < n) (hin : vp_in j N) (kk : Wx μ (pc + 1) L st (n, g, i, xUL q a j.toNatClampNeg x, r) K Q) : Wx μ pc L (.long x :: .int j :: .ref a :: st) (n, g, i, q, r) K Q := by
  intro p l e s m args below meth c R base b D T2 CT ST QF hC hF H locs cells slots ls hS hL hc hs1
  have hget := xWl_get (base := base) (b := b) (T := T2) (M := (n, g, i, q, r)) ha
  rw [xE_long hs] at hget
  show W p l e R s m args below meth c H locs cells slots QF (F0 m pc ls (.long x :: .int j :: xV base b (.ref a) :: st.map (xV base b)))
  rw [sh_ref hs]
  refine xw_last hC.1 hC.2.1 hC.2.2.2.2.2.2.2.2.1 hS.1 hS.2.1 hS.2.2.1 a 1 hget rfl hin d fun H1 locs1 hP hD hV hz => ?_
  refine kk p l e s m args below meth c R base b D T2 CT ST QF hC hF H1 locs1 cells slots ls (xSt_upd hS ha hz rfl rfl ?_ (fun k hk => ⟨rfl, (xUL_ne _ _ _ hk).symm, rfl⟩) hP hD hV) hL hc hs1
  rw [xE_long hs]
  show (Sum.inl (T2.2.2, N, Sum.inr (Sum.inl (xUL q a j.toNatClampNeg x a))) : va_E) = _
  rw [xUL_at]
theorem ex_alen {a N t : Nat} {v : Int32} (d : decode (xCd μ) pc = .ok (.arraylength, 1)) (hs : SHl[a]? = some (.inr (t, N))) (ha : a < n) (hv : Int32.ofNat N = v) (kk : Wx μ (pc + 1) L (.int v :: st) (n, g, i, q, r) K Q) : Wx μ pc L (.ref a :: st) (n, g, i, q, r) K Q := by
  intro p l e s m args below meth c R base b D T2 CT ST QF hC hF H locs cells slots ls hS hL hc hs1
  have hget := xWl_get (base := base) (b := b) (T := T2) (M := (n, g, i, q, r)) ha
  show W p l e R s m args below meth c H locs cells slots QF (F0 m pc ls (xV base b (.ref a) :: st.map (xV base b)))
  rw [sh_ref hs]
  unfold xE at hget
  rw [hs] at hget
  simp only at hget
  by_cases h0 : t = 0
  · rw [if_pos h0] at hget
    exact va_alen hC.1 hC.2.1 hC.2.2.2.2.2.2.2.2.1 hS.1 a 0 hget rfl hv d (kk p l e s m args below meth c R base b D T2 CT ST QF hC hF H locs cells slots ls hS hL hc hs1)
  · rw [if_neg h0] at hget
    exact va_alen hC.1 hC.2.1 hC.2.2.2.2.2.2.2.2.1 hS.1 a 1 hget rfl hv d (kk p l e s m args below meth c R base b D T2 CT ST QF hC hF H locs cells slots ls hS hL hc hs1)
theorem ex_putI {ci k idx a : Nat} {x : Int32} {C : String} {T : u_T} {ty : Nat → FieldType} (d : decode (xCd μ) pc = .ok (.putfield idx, 3)) (f : xLF (xOwn μ) idx ci k C T) (cf : xCF ci C T ty) (h0 : xTy ci k = 0) (hfin : (T k).2.2.2 = false ∨ ((T k).2.2.2 = true ∧ (xNm μ).name = "<init>" ∧ (T k).1 = xOwn μ)) (hn : narrow (ty k) (.int x) = .int x) (hfit : fits (ty k) (.int x) = true) (hs : SHl[a]? = some (.inl ci)) (ha : a < n)
    (kk : Wx μ (pc + 3) L st (n, g, xU i a k x, q, r) K Q) : Wx μ pc L (.int x :: .ref a :: st) (n, g, i, q, r) K Q := by
  intro p l e s m args below meth c R base b D T2 CT ST QF hC hF H locs cells slots ls hS hL hc hs1
  obtain ⟨f1, f2, f3, f4⟩ := f
  obtain ⟨-, -, c3, c4, -⟩ := cf
  have hget := xWl_get (base := base) (b := b) (T := T2) (M := (n, g, i, q, r)) ha
  rw [xE_obj hs] at hget
  show W p l e R s m args below meth c H locs cells slots QF (F0 m pc ls (.int x :: xV base b (.ref a) :: st.map (xV base b)))
  rw [sh_ref hs]
  refine xw_put hC.1 hC.2.1 hC.2.2.2.2.1 f2 ty c3 c4 hC.2.2.1 hC.2.2.2.2.2.2.2.2.1 hS.1 hS.2.1 hS.2.2.1 a hget f1 k f3 (hC.2.2.2.2.1 _ f4) (by rw [hC.2.2.2.2.2.2.2.2.2.2.2.2.2.2.2.1]; exact hfin) hn hfit (by rw [List.length_map, List.length_range]; exact f3) d fun H1 locs1 hP hD hV hz => ?_
  refine kk p l e s m args below meth c R base b D T2 CT ST QF hC hF H1 locs1 cells slots ls (xSt_upd hS ha hz rfl rfl ?_ (fun k hk => ⟨(xU_ne _ _ _ hk).symm, rfl, rfl⟩) hP hD hV) hL hc hs1
  rw [xE_obj hs]
  congr 2
  apply List.ext_getElem?
  intro j
  rw [List.getElem?_set, List.length_map, List.length_range, List.getElem?_map, List.getElem?_map]
  by_cases hj : k = j
  · subst hj
    rw [if_pos rfl, if_pos f3, List.getElem?_range f3]
    show some (xFv base b ci (n, g, xU i a k x, q, r) a k) = _
    unfold xFv
    rw [if_pos h0]
    show some (Value.int (xU i a k x a k)) = _
    rw [xU_at]
    simp [upd]
  · rw [if_neg hj]
    have : xFv base b ci (n, g, xU i a k x, q, r) a j = xFv base b ci (n, g, i, q, r) a j := by
      unfold xFv
      show (if xTy ci j = 0 then Value.int (xU i a k x a j) else _) = (if xTy ci j = 0 then Value.int (i a j) else _)
      rw [xU_at]
      simp [upd, Ne.symm hj]
    by_cases hl : j < xNf ci
    · rw [List.getElem?_range hl]
      show some _ = some _
      rw [this]
    · rw [List.getElem?_eq_none (by rw [List.length_range]; omega)]; rfl
theorem ex_putR {ci k idx a : Nat} {v : Value} {C : String} {T : u_T} {ty : Nat → FieldType} (d : decode (xCd μ) pc = .ok (.putfield idx, 3)) (f : xLF (xOwn μ) idx ci k C T) (cf : xCF ci C T ty) (h0 : xTy ci k = 1) (hfin : (T k).2.2.2 = false ∨ ((T k).2.2.2 = true ∧ (xNm μ).name = "<init>" ∧ (T k).1 = xOwn μ)) (hn : ∀ z : Nat, narrow (ty k) (.ref z) = .ref z) (hfit : ∀ z : Nat, fits (ty k) (.ref z) = true) (hv : ∃ z, v = .ref z) (hs : SHl[a]? = some (.inl ci)) (ha : a < n)
    (kk : Wx μ (pc + 3) L st (n, g, i, q, xUR r a k v) K Q) : Wx μ pc L (v :: .ref a :: st) (n, g, i, q, r) K Q := by
  intro p l e s m args below meth c R base b D T2 CT ST QF hC hF H locs cells slots ls hS hL hc hs1
  obtain ⟨f1, f2, f3, f4⟩ := f
  obtain ⟨-, -, c3, c4, -⟩ := cf
  obtain ⟨z, rfl⟩ := hv
  have hget := xWl_get (base := base) (b := b) (T := T2) (M := (n, g, i, q, r)) ha
  rw [xE_obj hs] at hget
  show W p l e R s m args below meth c H locs cells slots QF (F0 m pc ls (xV base b (.ref z) :: xV base b (.ref a) :: st.map (xV base b)))
  rw [sh_ref hs]
  refine xw_put (v := xV base b (.ref z)) hC.1 hC.2.1 hC.2.2.2.2.1 f2 ty c3 c4 hC.2.2.1 hC.2.2.2.2.2.2.2.2.1 hS.1 hS.2.1 hS.2.2.1 a hget f1 k f3 (hC.2.2.2.2.1 _ f4) (by rw [hC.2.2.2.2.2.2.2.2.2.2.2.2.2.2.2.1]; exact hfin) (hn _) (hfit _) (by rw [List.length_map, List.length_range]; exact f3) d fun H1 locs1 hP hD hV hz => ?_
  refine kk p l e s m args below meth c R base b D T2 CT ST QF hC hF H1 locs1 cells slots ls (xSt_upd hS ha hz rfl rfl ?_ (fun k hk => ⟨rfl, rfl, (xUR_ne _ _ _ hk).symm⟩) hP hD hV) hL hc hs1
  rw [xE_obj hs]
  congr 2
  apply List.ext_getElem?
  intro j
  rw [List.getElem?_set, List.length_map, List.length_range, List.getElem?_map, List.getElem?_map]
  by_cases hj : k = j
  · subst hj
    rw [if_pos rfl, if_pos f3, List.getElem?_range f3]
    show some (xFv base b ci (n, g, i, q, xUR r a k (.ref z)) a k) = _
    unfold xFv
    rw [if_neg (by rw [h0]; decide)]
    show some (xV base b (xUR r a k (.ref z) a k)) = _
    unfold xUR
    rw [if_pos rfl, if_pos rfl]
  · rw [if_neg hj]
    have : xFv base b ci (n, g, i, q, xUR r a k (.ref z)) a j = xFv base b ci (n, g, i, q, r) a j := by
      unfold xFv
      show (if xTy ci j = 0 then _ else xV base b (xUR r a k (.ref z) a j)) = _
      unfold xUR
      rw [if_pos rfl, if_neg (Ne.symm hj)]
    by_cases hl : j < xNf ci
    · rw [List.getElem?_range hl]
      show some _ = some _
      rw [this]
    · rw [List.getElem?_eq_none (by rw [List.length_range]; omega)]; rfl
end XMEM2
