/-! ===== the law: a sentence is derived ===== -/
theorem ex_idecN {μ : xMeth} {pc : Nat} {Lc L' : xLoc} {st : List Value} {M : xMem} {K : Nat × Nat} {Q : xRes → xMem → Prop} {i a b : Nat} (d : decode (xCd μ) pc = .ok (.iinc i (-1), 3)) (h : Lc[i]? = some (some (.int (nI a)))) (hab : a = b + 1) (hn : i < xMl μ) (he : xPut Lc i (some (.int (nI b))) = L') (k : Wx μ (pc + 3) L' st M K Q) : Wx μ pc Lc st M K Q := by
  refine ex_iinc (v := nI b) d h ?_ hn he k
  rw [hab, show Int32.ofInt (-1) = -1 by decide]
  have e : nI (b + 1) = nI b + 1 := by rw [← nI_add]; rfl
  rw [e, Int32.add_assoc, show (1 : Int32) + -1 = 0 by decide, Int32.add_zero]
/-- a node as the law notes it -/
def enc (e : Nat) : Int32 := if e < 8 then -(nI e) else nI (e - 20)
/-- what waits, as the law's stack has it -/
def STV (i : Nat → Nat → Int32) (σ : List Nat) : Prop := ∀ (j e : Nat), σ[j]? = some e → i 58 (σ.length - 1 - j) = nI e
theorem stv_push {i : Nat → Nat → Int32} {σ : List Nat} {h e : Nat} (hs : STV i σ) (hh : h = σ.length) : STV (xU i 58 h (nI e)) (e :: σ) := by
  intro j a ha
  rw [xU_at]; unfold upd
  rw [List.length_cons]
  cases j with
  | zero =>
    have : e = a := by simpa using ha
    rw [if_pos (by omega), this]
  | succ j =>
    have ha : σ[j]? = some a := by simpa using ha
    have hj := (List.getElem?_eq_some_iff.mp ha).1
    rw [if_neg (by omega), show σ.length + 1 - 1 - (j + 1) = σ.length - 1 - j by omega]
    exact hs j a ha
theorem stv_pop {i : Nat → Nat → Int32} {σ : List Nat} {e : Nat} (hs : STV i (e :: σ)) : STV i σ ∧ i 58 σ.length = nI e := by
  refine ⟨fun j a ha => ?_, ?_⟩
  · have hj := (List.getElem?_eq_some_iff.mp ha).1
    have := hs (j + 1) a (by simpa using ha)
    rw [List.length_cons] at this
    rw [← this]; congr 1; omega
  · have := hs 0 e rfl
    rw [List.length_cons] at this
    rw [← this]; congr 1
theorem stv_cg {i i1 : Nat → Nat → Int32} {σ : List Nat} (hs : STV i σ) (h : i1 58 = i 58) : STV i1 σ := fun j e hj => by rw [h]; exact hs j e hj
/-- what may wait; what may be noted -/
def okS (n e : Nat) : Prop := 1 ≤ e ∧ e ≤ 6 ∨ 8 ≤ e ∧ e ≤ 13 ∨ 20 ≤ e ∧ e < 20 + n
def okN (n e : Nat) : Prop := 1 ≤ e ∧ e ≤ 6 ∨ 20 ≤ e ∧ e < 20 + n
/-- nodes noted, tokens added -/
def NTD (n : Nat) (i : Nat → Nat → Int32) (w : List Nat) : Prop := (∀ (j e : Nat), w[j]? = some e → i 59 j = enc e) ∧ (∀ e ∈ w, okN n e) ∧ i 32 6 = nI (tks w).length ∧ ∀ (j x : Nat), (tks w)[j]? = some x → i 34 j = nI x
theorem ntd_cg {n : Nat} {i i1 : Nat → Nat → Int32} {w : List Nat} (h : NTD n i w) (hf : Fr [58] i i1) : NTD n i1 w := ⟨fun j e hj => by rw [hf 59 (by decide)]; exact h.1 j e hj, h.2.1, by rw [hf 32 (by decide)]; exact h.2.2.1, fun j x hj => by rw [hf 34 (by decide)]; exact h.2.2.2 j x hj⟩
theorem getElem?_snoc {w : List Nat} {e j a : Nat} (h : (w ++ [e])[j]? = some a) : w[j]? = some a ∧ j < w.length ∨ j = w.length ∧ a = e := by
  rw [List.getElem?_append] at h
  by_cases c : j < w.length
  · rw [if_pos c] at h; exact Or.inl ⟨h, c⟩
  · rw [if_neg c] at h
    have hj := (List.getElem?_eq_some_iff.mp h).1
    simp at hj
    have e0 : j - w.length = 0 := by omega
    rw [e0] at h
    have : e = a := by simpa using h
    exact Or.inr ⟨by omega, this.symm⟩
theorem ntd_rule {n : Nat} {i i1 : Nat → Nat → Int32} {w : List Nat} {r : Nat} (h : NTD n i w) (hr : r < n) (hf : Fr [59] i i1) (h9 : i1 59 = upd (i 59) w.length (nI r)) : NTD n i1 (w ++ [20 + r]) := by
  have et : tks (w ++ [20 + r]) = tks w := by
    rw [tks_app, tks_rl (by omega)]; exact List.append_nil _
  refine ⟨fun j e hj => ?_, fun e he => ?_, by rw [et, hf 32 (by decide)]; exact h.2.2.1, fun j x hj => by rw [et] at hj; rw [hf 34 (by decide)]; exact h.2.2.2 j x hj⟩
  · rw [h9]; unfold upd
    rcases getElem?_snoc hj with ⟨h1, h2⟩ | ⟨h1, h2⟩
    · rw [if_neg (by omega)]; exact h.1 j e h1
    · rw [if_pos h1, h2]; unfold enc; rw [if_neg (by omega), show 20 + r - 20 = r by omega]
  · rw [List.mem_append, List.mem_singleton] at he
    rcases he with he | rfl
    · exact h.2.1 e he
    · exact Or.inr ⟨by omega, by omega⟩
theorem ntd_tok {n : Nat} {i i1 : Nat → Nat → Int32} {w : List Nat} {e : Nat} {y : Int32} (h : NTD n i w) (he : 1 ≤ e ∧ e ≤ 6) (h1 : i1 = xU (xU (xU (xU i 59 w.length (-(nI e))) 34 (tks w).length (nI e)) 36 (tks w).length y) 32 6 (nI ((tks w).length + 1))) : NTD n i1 (w ++ [e]) := by
  have et : tks (w ++ [e]) = tks w ++ [e] := by
    rw [tks_app, tks_tm (by omega)]; rfl
  have f1 : Fr [59, 34, 36, 32] i i1 := by rw [h1]; exact (((Fr.rf.U (by decide)).U (by decide)).U (by decide)).U (by decide)
  refine ⟨fun j a hj => ?_, fun a ha => ?_, ?_, fun j x hj => ?_⟩
  · have e59 : i1 59 = upd (i 59) w.length (-(nI e)) := by
      rw [h1, xU_ne _ _ _ (show (59 : Nat) ≠ 32 by decide), xU_ne _ _ _ (show (59 : Nat) ≠ 36 by decide), xU_ne _ _ _ (show (59 : Nat) ≠ 34 by decide), xU_at]
    rw [e59]; unfold upd
    rcases getElem?_snoc hj with ⟨a1, a2⟩ | ⟨a1, a2⟩
    · rw [if_neg (by omega)]; exact h.1 j a a1
    · rw [if_pos a1, a2]; unfold enc; rw [if_pos (by omega)]
  · rw [List.mem_append, List.mem_singleton] at ha
    rcases ha with ha | rfl
    · exact h.2.1 a ha
    · exact Or.inl he
  · rw [h1, xU_at, et, List.length_append]; unfold upd; rw [if_pos rfl]; rfl
  · have e34 : i1 34 = upd (i 34) (tks w).length (nI e) := by
      rw [h1, xU_ne _ _ _ (show (34 : Nat) ≠ 32 by decide), xU_ne _ _ _ (show (34 : Nat) ≠ 36 by decide), xU_at, xU_ne _ _ _ (show (34 : Nat) ≠ 59 by decide)]
    rw [et] at hj
    rw [e34]; unfold upd
    rcases getElem?_snoc hj with ⟨a1, a2⟩ | ⟨a1, a2⟩
    · rw [if_neg (by omega)]; exact h.2.2.2 j x a1
    · rw [if_pos a1, a2]
abbrev NXD (xs : Nat → Int32) (L n : Nat) (sy : Nat → Nat → Nat) : Prop := ∀ i q w f, PV xs L i n sy → NTD n i w → Drv n sy f [8] w → w.length ≤ 61 → (tks w).length ≤ 40 → Wx m_Law_law 608 [some (.ref 4096), some (.ref 0), none, some (.int (nI n)), some (.ref 56), some (.ref 57), some (.ref 58), some (.ref 59), none, some (.int (nI w.length)), none, none, none, none, none] [] (60, 0, i, q, RT false) (500, 5000) Qf
section S94
variable {xs : Nat → Int32} {L n : Nat} {sy : Nat → Nat → Nat}
/-- where the loop stands: steps left d, what waits σ (h of it), nodes w (m of them), tokens k -/
abbrev DLP (xs : Nat → Int32) (L n : Nat) (sy : Nat → Nat → Nat) (d : Nat) : Prop := ∀ step σ w h m k i q x12 x13 x14, step + d = 201 → PV xs L i n sy → STV i σ → (∀ e ∈ σ, okS n e) → NTD n i w → (∀ f w', Drv n sy f σ w' → ∃ f', Drv n sy f' [8] (w ++ w')) → h = σ.length → m = w.length → k = (tks w).length → h ≤ 63 → m ≤ 61 → k ≤ 40 →
  Wx m_Law_law 395 [some (.ref 4096), some (.ref 0), none, some (.int (nI n)), some (.ref 56), some (.ref 57), some (.ref 58), some (.ref 59), some (.int (nI h)), some (.int (nI m)), some (.int (nI k)), some (.int (nI step)), x12, x13, x14] [] (60, 0, i, q, RT false) (500 + d, 5000 + 6 * d) Qf
theorem dlp_end {d : Nat} (hN : NXD xs L n sy) {step m k : Nat} {w : List Nat} {i : Nat → Nat → Int32} {q : Nat → Nat → Int64} {x12 x13 x14 : Option Value} (hp : PV xs L i n sy) (hn : NTD n i w) (hd : ∀ f w', Drv n sy f [] w' → ∃ f', Drv n sy f' [8] (w ++ w')) (hm : m = w.length) (hk : k = (tks w).length) (hm1 : m ≤ 61) (hk1 : k ≤ 40) :
    Wx m_Law_law 395 [some (.ref 4096), some (.ref 0), none, some (.int (nI n)), some (.ref 56), some (.ref 57), some (.ref 58), some (.ref 59), some (.int (nI 0)), some (.int (nI m)), some (.int (nI k)), some (.int (nI step)), x12, x13, x14] [] (60, 0, i, q, RT false) (500 + d, 5000 + 6 * d) Qf := by
  subst hm hk
  refine ex_less (L' := [some (.ref 4096), some (.ref 0), none, some (.int (nI n)), some (.ref 56), some (.ref 57), some (.ref 58), some (.ref 59), some (.int (nI 0)), some (.int (nI w.length)), some (.int (nI (tks w).length)), some (.int (nI step)), none, none, none]) ⟨rfl, rfl, rfl, rfl, rfl, rfl, rfl, rfl, rfl, rfl, rfl, trivial⟩ ?_
  obtain ⟨f, hf⟩ := hd 0 [] ⟨rfl, rfl⟩
  rw [List.append_nil] at hf
  refine ex_iload dL_law_395 rfl ?_
  refine ex_if_leN (tgt := 608) dL_law_397 (by decide) (by omega) (fun h397 => ?_) (fun h397 => by exact absurd h397 (by decide))
  refine ex_less (L' := [some (.ref 4096), some (.ref 0), none, some (.int (nI n)), some (.ref 56), some (.ref 57), some (.ref 58), some (.ref 59), none, some (.int (nI w.length)), none, none, none, none, none]) ⟨rfl, rfl, rfl, rfl, rfl, rfl, rfl, rfl, trivial⟩ ?_
  exact ex_Kw ⟨by show 500 ≤ 500 + d; omega, by show 5000 ≤ 5000 + 6 * d; omega⟩ (hN i q w f hp hn hf hm1 hk1)
/-- too much: the law ends -/
theorem dlp_ret {K : Nat × Nat} {Lc : xLoc} {M : xMem} : Wx m_Law_law 429 Lc [] M K Qf := by
  refine ex_iconst (v := nI 1) dL_law_429 (by decide) ?_
  refine ex_K0 ?_
  refine ex_iret dL_law_430 rfl (by decide) ?_
  rfl
/-- a rule's symbols come on the stack -/
theorem dlp_push {d step r e m k : Nat} {σ w : List Nat} {i : Nat → Nat → Int32} {q : Nat → Nat → Int64} (ih : DLP xs L n sy d) (hst : step + 1 + d = 201) (hp : PV xs L i n sy) (hs : STV i σ) (hok : ∀ e ∈ σ, okS n e) (hn : NTD n i w) (hd : ∀ f w', Drv n sy f (e :: σ) w' → ∃ f', Drv n sy f' [8] (w ++ w')) (he : 8 ≤ e ∧ e ≤ 13) (hr : r < n) (hre : sy r 0 = e) (hm : m = w.length) (hk : k = (tks w).length) (hl57 : σ.length ≤ 57) (hm1 : m ≤ 61) (hk1 : k ≤ 40) :
    Wx m_Law_law 544 [some (.ref 4096), some (.ref 0), none, some (.int (nI n)), some (.ref 56), some (.ref 57), some (.ref 58), some (.ref 59), some (.int (nI σ.length)), some (.int (nI m)), some (.int (nI k)), some (.int (nI step)), none, some (.int (nI r)), none] [] (60, 0, i, q, RT false) (500 + d, 5000 + 6 * d) Qf := by
  obtain ⟨p1, p2, p3, p4, ⟨p5, p6⟩, p7, p8, p9, p10, p11⟩ := id hp
  have gw := p2.2.2
  have hl4 := lnR_le sy r
  have hs1 := stv_push (e := 20 + r) hs rfl
  have hr6 : r < 6 := by omega
  have sl : ∀ k, k < 5 → sy r k < 2 ^ 31 := fun k hk => by have := gw.le (r := r) (k := k) (by omega) hk; omega
  have key : ∀ i' h', Fr [58] i i' → STV i' (rhL sy r ++ (20 + r) :: σ) → h' = (rhL sy r ++ (20 + r) :: σ).length → ∀ x12 x13 x14, Wx m_Law_law 395 [some (.ref 4096), some (.ref 0), none, some (.int (nI n)), some (.ref 56), some (.ref 57), some (.ref 58), some (.ref 59), some (.int (nI h')), some (.int (nI m)), some (.int (nI k)), some (.int (nI (step + 1))), x12, x13, x14] [] (60, 0, i', q, RT false) (500 + d, 5000 + 6 * d) Qf := fun i' h' hf hs' hh' x12 x13 x14 =>
    ih (step + 1) _ w h' m k i' q x12 x13 x14 hst (hp.fr hf (by decide)) hs' (fun a ha => by
      rcases List.mem_append.mp ha with h | h
      · rcases rhL_ok gw (show r < 15 by omega) h with z | z
        · exact Or.inl z
        · exact Or.inr (Or.inl z)
      · rcases List.mem_cons.mp h with rfl | h
        · exact Or.inr (Or.inr ⟨by omega, by omega⟩)
        · exact hok a h) (ntd_cg hn hf) (fun f w' h => hd (f + 1) w' (drv_nt he.1 (by omega) hr hre h)) hh' hm hk (by rw [hh', List.length_append, rhL_len, List.length_cons]; omega) hm1 hk1
  have z : ∀ k, lnR sy r < k → k < 5 → sy r k = 0 := fun k h1 h2 => sy_z gw (by omega) h1 h2
  have nz : ∀ k, 1 ≤ k → k ≤ lnR sy r → 0 < sy r k := fun k h1 h2 => lnR_nz h1 h2
  have rl : ∀ l, lnR sy r = l → rhL sy r = (List.range l).map (fun k => sy r (k + 1)) := fun l h => by unfold rhL; rw [h]
  rcases (show lnR sy r = 0 ∨ lnR sy r = 1 ∨ lnR sy r = 2 ∨ lnR sy r = 3 ∨ lnR sy r = 4 by omega) with l | l | l | l | l
  · have z1 := z 1 (by omega) (by decide)
    have z2 := z 2 (by omega) (by decide)
    have z3 := z 3 (by omega) (by decide)
    have z4 := z 4 (by omega) (by decide)
    have er := rl _ l
    refine ex_aload dL_law_544 rfl ?_
    refine ex_iload dL_law_546 rfl ?_
    refine ex_bipush (v := nI 20) dL_law_548 (by decide) ?_
    refine ex_iload dL_law_550 rfl ?_
    refine ex_iaddN dL_law_552 ?_
    refine ex_iastN dL_law_553 rfl (by decide) (by omega) ?_
    refine ex_iincN (L' := [some (.ref (4096)), some (.ref (0)), none, some (.int (nI (n))), some (.ref (56)), some (.ref (57)), some (.ref (58)), some (.ref (59)), some (.int (nI (σ.length + 1))), some (.int (nI (m))), some (.int (nI (k))), some (.int (nI (step))), none, some (.int (nI (r))), none]) dL_law_554 rfl rfl (by decide) rfl ?_
    refine ex_iconst (v := nI 3) dL_law_557 (by decide) ?_
    refine ex_istore (L' := [some (.ref (4096)), some (.ref (0)), none, some (.int (nI (n))), some (.ref (56)), some (.ref (57)), some (.ref (58)), some (.ref (59)), some (.int (nI (σ.length + 1))), some (.int (nI (m))), some (.int (nI (k))), some (.int (nI (step))), none, some (.int (nI (r))), some (.int (nI (3)))]) dL_law_558 (by decide) rfl ?_
    refine ex_iload dL_law_560 rfl ?_
    refine ex_if_ltN (tgt := 602) dL_law_562 (by decide) (by omega) ?_
    refine ex_aload dL_law_565 rfl ?_
    refine ex_iconst (v := nI 4) dL_law_567 (by decide) ?_
    refine ex_iload dL_law_568 rfl ?_
    refine ex_imulN dL_law_570 ?_
    refine ex_iload dL_law_571 rfl ?_
    refine ex_iaddN dL_law_573 ?_
    refine ex_ialdN dL_law_574 rfl (by decide) (by omega) rfl ?_
    refine ex_asN (a := sy r 4) (p6 r 3 hr (by decide)) ?_
    refine ex_if_leN (tgt := 596) dL_law_575 (by decide) (by omega) (fun h575 => ?_) (fun h575 => by omega)
    refine ex_idecN (b := 2) (L' := [some (.ref (4096)), some (.ref (0)), none, some (.int (nI (n))), some (.ref (56)), some (.ref (57)), some (.ref (58)), some (.ref (59)), some (.int (nI (σ.length + 1))), some (.int (nI (m))), some (.int (nI (k))), some (.int (nI (step))), none, some (.int (nI (r))), some (.int (nI (2)))]) dL_law_596 rfl (by decide) (by decide) rfl ?_
    refine ex_goto (tgt := 560) dL_law_599 (by decide) ?_
    refine ex_iload dL_law_560 rfl ?_
    refine ex_if_ltN (tgt := 602) dL_law_562 (by decide) (by omega) ?_
    refine ex_aload dL_law_565 rfl ?_
    refine ex_iconst (v := nI 4) dL_law_567 (by decide) ?_
    refine ex_iload dL_law_568 rfl ?_
    refine ex_imulN dL_law_570 ?_
    refine ex_iload dL_law_571 rfl ?_
    refine ex_iaddN dL_law_573 ?_
    refine ex_ialdN dL_law_574 rfl (by decide) (by omega) rfl ?_
    refine ex_asN (a := sy r 3) (p6 r 2 hr (by decide)) ?_
    refine ex_if_leN (tgt := 596) dL_law_575 (by decide) (by omega) (fun h575 => ?_) (fun h575 => by omega)
    refine ex_idecN (b := 1) (L' := [some (.ref (4096)), some (.ref (0)), none, some (.int (nI (n))), some (.ref (56)), some (.ref (57)), some (.ref (58)), some (.ref (59)), some (.int (nI (σ.length + 1))), some (.int (nI (m))), some (.int (nI (k))), some (.int (nI (step))), none, some (.int (nI (r))), some (.int (nI (1)))]) dL_law_596 rfl (by decide) (by decide) rfl ?_
    refine ex_goto (tgt := 560) dL_law_599 (by decide) ?_
    refine ex_iload dL_law_560 rfl ?_
    refine ex_if_ltN (tgt := 602) dL_law_562 (by decide) (by omega) ?_
    refine ex_aload dL_law_565 rfl ?_
    refine ex_iconst (v := nI 4) dL_law_567 (by decide) ?_
    refine ex_iload dL_law_568 rfl ?_
    refine ex_imulN dL_law_570 ?_
    refine ex_iload dL_law_571 rfl ?_
    refine ex_iaddN dL_law_573 ?_
    refine ex_ialdN dL_law_574 rfl (by decide) (by omega) rfl ?_
    refine ex_asN (a := sy r 2) (p6 r 1 hr (by decide)) ?_
    refine ex_if_leN (tgt := 596) dL_law_575 (by decide) (by omega) (fun h575 => ?_) (fun h575 => by omega)
    refine ex_idecN (b := 0) (L' := [some (.ref (4096)), some (.ref (0)), none, some (.int (nI (n))), some (.ref (56)), some (.ref (57)), some (.ref (58)), some (.ref (59)), some (.int (nI (σ.length + 1))), some (.int (nI (m))), some (.int (nI (k))), some (.int (nI (step))), none, some (.int (nI (r))), some (.int (nI (0)))]) dL_law_596 rfl (by decide) (by decide) rfl ?_
    refine ex_goto (tgt := 560) dL_law_599 (by decide) ?_
    refine ex_iload dL_law_560 rfl ?_
    refine ex_if_ltN (tgt := 602) dL_law_562 (by decide) (by omega) ?_
    refine ex_aload dL_law_565 rfl ?_
    refine ex_iconst (v := nI 4) dL_law_567 (by decide) ?_
    refine ex_iload dL_law_568 rfl ?_
    refine ex_imulN dL_law_570 ?_
    refine ex_iload dL_law_571 rfl ?_
    refine ex_iaddN dL_law_573 ?_
    refine ex_ialdN dL_law_574 rfl (by decide) (by omega) rfl ?_
    refine ex_asN (a := sy r 1) (p6 r 0 hr (by decide)) ?_
    refine ex_if_leN (tgt := 596) dL_law_575 (by decide) (by omega) (fun h575 => ?_) (fun h575 => by omega)
    refine ex_iinc (v := -1) (L' := [some (.ref (4096)), some (.ref (0)), none, some (.int (nI (n))), some (.ref (56)), some (.ref (57)), some (.ref (58)), some (.ref (59)), some (.int (nI (σ.length + 1))), some (.int (nI (m))), some (.int (nI (k))), some (.int (nI (step))), none, some (.int (nI (r))), some (.int ((-1)))]) dL_law_596 rfl (by decide) (by decide) rfl ?_
    refine ex_goto (tgt := 560) dL_law_599 (by decide) ?_
    refine ex_iload dL_law_560 rfl ?_
    refine ex_if_lt (tgt := 602) dL_law_562 (by decide) (fun h562 => ?_) (fun h562 => by exact absurd (by decide) h562)
    refine ex_iincN (L' := [some (.ref (4096)), some (.ref (0)), none, some (.int (nI (n))), some (.ref (56)), some (.ref (57)), some (.ref (58)), some (.ref (59)), some (.int (nI (σ.length + 1))), some (.int (nI (m))), some (.int (nI (k))), some (.int (nI (step + 1))), none, some (.int (nI (r))), some (.int ((-1)))]) dL_law_602 rfl rfl (by decide) rfl ?_
    refine ex_goto (tgt := 395) dL_law_605 (by decide) ?_
    refine key _ _ (Fr.rf.U (by decide)) ?_ ?_ _ _ _
    · rw [er]; exact hs1
    · rw [er]; rfl
  · have z1 := nz 1 (by decide) (by omega)
    have z2 := z 2 (by omega) (by decide)
    have z3 := z 3 (by omega) (by decide)
    have z4 := z 4 (by omega) (by decide)
    have b1 := sl 1 (by decide)
    have er := rl _ l
    refine ex_aload dL_law_544 rfl ?_
    refine ex_iload dL_law_546 rfl ?_
    refine ex_bipush (v := nI 20) dL_law_548 (by decide) ?_
    refine ex_iload dL_law_550 rfl ?_
    refine ex_iaddN dL_law_552 ?_
    refine ex_iastN dL_law_553 rfl (by decide) (by omega) ?_
    refine ex_iincN (L' := [some (.ref (4096)), some (.ref (0)), none, some (.int (nI (n))), some (.ref (56)), some (.ref (57)), some (.ref (58)), some (.ref (59)), some (.int (nI (σ.length + 1))), some (.int (nI (m))), some (.int (nI (k))), some (.int (nI (step))), none, some (.int (nI (r))), none]) dL_law_554 rfl rfl (by decide) rfl ?_
    refine ex_iconst (v := nI 3) dL_law_557 (by decide) ?_
    refine ex_istore (L' := [some (.ref (4096)), some (.ref (0)), none, some (.int (nI (n))), some (.ref (56)), some (.ref (57)), some (.ref (58)), some (.ref (59)), some (.int (nI (σ.length + 1))), some (.int (nI (m))), some (.int (nI (k))), some (.int (nI (step))), none, some (.int (nI (r))), some (.int (nI (3)))]) dL_law_558 (by decide) rfl ?_
    refine ex_iload dL_law_560 rfl ?_
    refine ex_if_ltN (tgt := 602) dL_law_562 (by decide) (by omega) ?_
    refine ex_aload dL_law_565 rfl ?_
    refine ex_iconst (v := nI 4) dL_law_567 (by decide) ?_
    refine ex_iload dL_law_568 rfl ?_
    refine ex_imulN dL_law_570 ?_
    refine ex_iload dL_law_571 rfl ?_
    refine ex_iaddN dL_law_573 ?_
    refine ex_ialdN dL_law_574 rfl (by decide) (by omega) rfl ?_
    refine ex_asN (a := sy r 4) (p6 r 3 hr (by decide)) ?_
    refine ex_if_leN (tgt := 596) dL_law_575 (by decide) (by omega) (fun h575 => ?_) (fun h575 => by omega)
    refine ex_idecN (b := 2) (L' := [some (.ref (4096)), some (.ref (0)), none, some (.int (nI (n))), some (.ref (56)), some (.ref (57)), some (.ref (58)), some (.ref (59)), some (.int (nI (σ.length + 1))), some (.int (nI (m))), some (.int (nI (k))), some (.int (nI (step))), none, some (.int (nI (r))), some (.int (nI (2)))]) dL_law_596 rfl (by decide) (by decide) rfl ?_
    refine ex_goto (tgt := 560) dL_law_599 (by decide) ?_
    refine ex_iload dL_law_560 rfl ?_
    refine ex_if_ltN (tgt := 602) dL_law_562 (by decide) (by omega) ?_
    refine ex_aload dL_law_565 rfl ?_
    refine ex_iconst (v := nI 4) dL_law_567 (by decide) ?_
    refine ex_iload dL_law_568 rfl ?_
    refine ex_imulN dL_law_570 ?_
    refine ex_iload dL_law_571 rfl ?_
    refine ex_iaddN dL_law_573 ?_
    refine ex_ialdN dL_law_574 rfl (by decide) (by omega) rfl ?_
    refine ex_asN (a := sy r 3) (p6 r 2 hr (by decide)) ?_
    refine ex_if_leN (tgt := 596) dL_law_575 (by decide) (by omega) (fun h575 => ?_) (fun h575 => by omega)
    refine ex_idecN (b := 1) (L' := [some (.ref (4096)), some (.ref (0)), none, some (.int (nI (n))), some (.ref (56)), some (.ref (57)), some (.ref (58)), some (.ref (59)), some (.int (nI (σ.length + 1))), some (.int (nI (m))), some (.int (nI (k))), some (.int (nI (step))), none, some (.int (nI (r))), some (.int (nI (1)))]) dL_law_596 rfl (by decide) (by decide) rfl ?_
    refine ex_goto (tgt := 560) dL_law_599 (by decide) ?_
    refine ex_iload dL_law_560 rfl ?_
    refine ex_if_ltN (tgt := 602) dL_law_562 (by decide) (by omega) ?_
    refine ex_aload dL_law_565 rfl ?_
    refine ex_iconst (v := nI 4) dL_law_567 (by decide) ?_
    refine ex_iload dL_law_568 rfl ?_
    refine ex_imulN dL_law_570 ?_
    refine ex_iload dL_law_571 rfl ?_
    refine ex_iaddN dL_law_573 ?_
    refine ex_ialdN dL_law_574 rfl (by decide) (by omega) rfl ?_
    refine ex_asN (a := sy r 2) (p6 r 1 hr (by decide)) ?_
    refine ex_if_leN (tgt := 596) dL_law_575 (by decide) (by omega) (fun h575 => ?_) (fun h575 => by omega)
    refine ex_idecN (b := 0) (L' := [some (.ref (4096)), some (.ref (0)), none, some (.int (nI (n))), some (.ref (56)), some (.ref (57)), some (.ref (58)), some (.ref (59)), some (.int (nI (σ.length + 1))), some (.int (nI (m))), some (.int (nI (k))), some (.int (nI (step))), none, some (.int (nI (r))), some (.int (nI (0)))]) dL_law_596 rfl (by decide) (by decide) rfl ?_
    refine ex_goto (tgt := 560) dL_law_599 (by decide) ?_
    refine ex_iload dL_law_560 rfl ?_
    refine ex_if_ltN (tgt := 602) dL_law_562 (by decide) (by omega) ?_
    refine ex_aload dL_law_565 rfl ?_
    refine ex_iconst (v := nI 4) dL_law_567 (by decide) ?_
    refine ex_iload dL_law_568 rfl ?_
    refine ex_imulN dL_law_570 ?_
    refine ex_iload dL_law_571 rfl ?_
    refine ex_iaddN dL_law_573 ?_
    refine ex_ialdN dL_law_574 rfl (by decide) (by omega) rfl ?_
    refine ex_asN (a := sy r 1) (p6 r 0 hr (by decide)) ?_
    refine ex_if_leN (tgt := 596) dL_law_575 (by decide) (by omega) (fun h575 => by omega) (fun h575 => ?_)
    refine ex_aload dL_law_578 rfl ?_
    refine ex_iload dL_law_580 rfl ?_
    refine ex_aload dL_law_582 rfl ?_
    refine ex_iconst (v := nI 4) dL_law_584 (by decide) ?_
    refine ex_iload dL_law_585 rfl ?_
    refine ex_imulN dL_law_587 ?_
    refine ex_iload dL_law_588 rfl ?_
    refine ex_iaddN dL_law_590 ?_
    refine ex_ialdN dL_law_591 rfl (by decide) (by omega) rfl ?_
    refine ex_asN (a := sy r 1) (p6 r 0 hr (by decide)) ?_
    refine ex_iastN dL_law_592 rfl (by decide) (by omega) ?_
    refine ex_iincN (L' := [some (.ref (4096)), some (.ref (0)), none, some (.int (nI (n))), some (.ref (56)), some (.ref (57)), some (.ref (58)), some (.ref (59)), some (.int (nI (σ.length + 1 + 1))), some (.int (nI (m))), some (.int (nI (k))), some (.int (nI (step))), none, some (.int (nI (r))), some (.int (nI (0)))]) dL_law_593 rfl rfl (by decide) rfl ?_
    refine ex_iinc (v := -1) (L' := [some (.ref (4096)), some (.ref (0)), none, some (.int (nI (n))), some (.ref (56)), some (.ref (57)), some (.ref (58)), some (.ref (59)), some (.int (nI (σ.length + 1 + 1))), some (.int (nI (m))), some (.int (nI (k))), some (.int (nI (step))), none, some (.int (nI (r))), some (.int ((-1)))]) dL_law_596 rfl (by decide) (by decide) rfl ?_
    refine ex_goto (tgt := 560) dL_law_599 (by decide) ?_
    refine ex_iload dL_law_560 rfl ?_
    refine ex_if_lt (tgt := 602) dL_law_562 (by decide) (fun h562 => ?_) (fun h562 => by exact absurd (by decide) h562)
    refine ex_iincN (L' := [some (.ref (4096)), some (.ref (0)), none, some (.int (nI (n))), some (.ref (56)), some (.ref (57)), some (.ref (58)), some (.ref (59)), some (.int (nI (σ.length + 1 + 1))), some (.int (nI (m))), some (.int (nI (k))), some (.int (nI (step + 1))), none, some (.int (nI (r))), some (.int ((-1)))]) dL_law_602 rfl rfl (by decide) rfl ?_
    refine ex_goto (tgt := 395) dL_law_605 (by decide) ?_
    refine key _ _ ((Fr.rf.U (by decide)).U (by decide)) ?_ ?_ _ _ _
    · rw [er]; exact stv_push (e := sy r 1) hs1 rfl
    · rw [er]; rfl
  · have z1 := nz 1 (by decide) (by omega)
    have z2 := nz 2 (by decide) (by omega)
    have z3 := z 3 (by omega) (by decide)
    have z4 := z 4 (by omega) (by decide)
    have b1 := sl 1 (by decide)
    have b2 := sl 2 (by decide)
    have er := rl _ l
    refine ex_aload dL_law_544 rfl ?_
    refine ex_iload dL_law_546 rfl ?_
    refine ex_bipush (v := nI 20) dL_law_548 (by decide) ?_
    refine ex_iload dL_law_550 rfl ?_
    refine ex_iaddN dL_law_552 ?_
    refine ex_iastN dL_law_553 rfl (by decide) (by omega) ?_
    refine ex_iincN (L' := [some (.ref (4096)), some (.ref (0)), none, some (.int (nI (n))), some (.ref (56)), some (.ref (57)), some (.ref (58)), some (.ref (59)), some (.int (nI (σ.length + 1))), some (.int (nI (m))), some (.int (nI (k))), some (.int (nI (step))), none, some (.int (nI (r))), none]) dL_law_554 rfl rfl (by decide) rfl ?_
    refine ex_iconst (v := nI 3) dL_law_557 (by decide) ?_
    refine ex_istore (L' := [some (.ref (4096)), some (.ref (0)), none, some (.int (nI (n))), some (.ref (56)), some (.ref (57)), some (.ref (58)), some (.ref (59)), some (.int (nI (σ.length + 1))), some (.int (nI (m))), some (.int (nI (k))), some (.int (nI (step))), none, some (.int (nI (r))), some (.int (nI (3)))]) dL_law_558 (by decide) rfl ?_
    refine ex_iload dL_law_560 rfl ?_
    refine ex_if_ltN (tgt := 602) dL_law_562 (by decide) (by omega) ?_
    refine ex_aload dL_law_565 rfl ?_
    refine ex_iconst (v := nI 4) dL_law_567 (by decide) ?_
    refine ex_iload dL_law_568 rfl ?_
    refine ex_imulN dL_law_570 ?_
    refine ex_iload dL_law_571 rfl ?_
    refine ex_iaddN dL_law_573 ?_
    refine ex_ialdN dL_law_574 rfl (by decide) (by omega) rfl ?_
    refine ex_asN (a := sy r 4) (p6 r 3 hr (by decide)) ?_
    refine ex_if_leN (tgt := 596) dL_law_575 (by decide) (by omega) (fun h575 => ?_) (fun h575 => by omega)
    refine ex_idecN (b := 2) (L' := [some (.ref (4096)), some (.ref (0)), none, some (.int (nI (n))), some (.ref (56)), some (.ref (57)), some (.ref (58)), some (.ref (59)), some (.int (nI (σ.length + 1))), some (.int (nI (m))), some (.int (nI (k))), some (.int (nI (step))), none, some (.int (nI (r))), some (.int (nI (2)))]) dL_law_596 rfl (by decide) (by decide) rfl ?_
    refine ex_goto (tgt := 560) dL_law_599 (by decide) ?_
    refine ex_iload dL_law_560 rfl ?_
    refine ex_if_ltN (tgt := 602) dL_law_562 (by decide) (by omega) ?_
    refine ex_aload dL_law_565 rfl ?_
    refine ex_iconst (v := nI 4) dL_law_567 (by decide) ?_
    refine ex_iload dL_law_568 rfl ?_
    refine ex_imulN dL_law_570 ?_
    refine ex_iload dL_law_571 rfl ?_
    refine ex_iaddN dL_law_573 ?_
    refine ex_ialdN dL_law_574 rfl (by decide) (by omega) rfl ?_
    refine ex_asN (a := sy r 3) (p6 r 2 hr (by decide)) ?_
    refine ex_if_leN (tgt := 596) dL_law_575 (by decide) (by omega) (fun h575 => ?_) (fun h575 => by omega)
    refine ex_idecN (b := 1) (L' := [some (.ref (4096)), some (.ref (0)), none, some (.int (nI (n))), some (.ref (56)), some (.ref (57)), some (.ref (58)), some (.ref (59)), some (.int (nI (σ.length + 1))), some (.int (nI (m))), some (.int (nI (k))), some (.int (nI (step))), none, some (.int (nI (r))), some (.int (nI (1)))]) dL_law_596 rfl (by decide) (by decide) rfl ?_
    refine ex_goto (tgt := 560) dL_law_599 (by decide) ?_
    refine ex_iload dL_law_560 rfl ?_
    refine ex_if_ltN (tgt := 602) dL_law_562 (by decide) (by omega) ?_
    refine ex_aload dL_law_565 rfl ?_
    refine ex_iconst (v := nI 4) dL_law_567 (by decide) ?_
    refine ex_iload dL_law_568 rfl ?_
    refine ex_imulN dL_law_570 ?_
    refine ex_iload dL_law_571 rfl ?_
    refine ex_iaddN dL_law_573 ?_
    refine ex_ialdN dL_law_574 rfl (by decide) (by omega) rfl ?_
    refine ex_asN (a := sy r 2) (p6 r 1 hr (by decide)) ?_
    refine ex_if_leN (tgt := 596) dL_law_575 (by decide) (by omega) (fun h575 => by omega) (fun h575 => ?_)
    refine ex_aload dL_law_578 rfl ?_
    refine ex_iload dL_law_580 rfl ?_
    refine ex_aload dL_law_582 rfl ?_
    refine ex_iconst (v := nI 4) dL_law_584 (by decide) ?_
    refine ex_iload dL_law_585 rfl ?_
    refine ex_imulN dL_law_587 ?_
    refine ex_iload dL_law_588 rfl ?_
    refine ex_iaddN dL_law_590 ?_
    refine ex_ialdN dL_law_591 rfl (by decide) (by omega) rfl ?_
    refine ex_asN (a := sy r 2) (p6 r 1 hr (by decide)) ?_
    refine ex_iastN dL_law_592 rfl (by decide) (by omega) ?_
    refine ex_iincN (L' := [some (.ref (4096)), some (.ref (0)), none, some (.int (nI (n))), some (.ref (56)), some (.ref (57)), some (.ref (58)), some (.ref (59)), some (.int (nI (σ.length + 1 + 1))), some (.int (nI (m))), some (.int (nI (k))), some (.int (nI (step))), none, some (.int (nI (r))), some (.int (nI (1)))]) dL_law_593 rfl rfl (by decide) rfl ?_
    refine ex_idecN (b := 0) (L' := [some (.ref (4096)), some (.ref (0)), none, some (.int (nI (n))), some (.ref (56)), some (.ref (57)), some (.ref (58)), some (.ref (59)), some (.int (nI (σ.length + 1 + 1))), some (.int (nI (m))), some (.int (nI (k))), some (.int (nI (step))), none, some (.int (nI (r))), some (.int (nI (0)))]) dL_law_596 rfl (by decide) (by decide) rfl ?_
    refine ex_goto (tgt := 560) dL_law_599 (by decide) ?_
    refine ex_iload dL_law_560 rfl ?_
    refine ex_if_ltN (tgt := 602) dL_law_562 (by decide) (by omega) ?_
    refine ex_aload dL_law_565 rfl ?_
    refine ex_iconst (v := nI 4) dL_law_567 (by decide) ?_
    refine ex_iload dL_law_568 rfl ?_
    refine ex_imulN dL_law_570 ?_
    refine ex_iload dL_law_571 rfl ?_
    refine ex_iaddN dL_law_573 ?_
    refine ex_ialdN dL_law_574 rfl (by decide) (by omega) rfl ?_
    refine ex_asN (a := sy r 1) (p6 r 0 hr (by decide)) ?_
    refine ex_if_leN (tgt := 596) dL_law_575 (by decide) (by omega) (fun h575 => by omega) (fun h575 => ?_)
    refine ex_aload dL_law_578 rfl ?_
    refine ex_iload dL_law_580 rfl ?_
    refine ex_aload dL_law_582 rfl ?_
    refine ex_iconst (v := nI 4) dL_law_584 (by decide) ?_
    refine ex_iload dL_law_585 rfl ?_
    refine ex_imulN dL_law_587 ?_
    refine ex_iload dL_law_588 rfl ?_
    refine ex_iaddN dL_law_590 ?_
    refine ex_ialdN dL_law_591 rfl (by decide) (by omega) rfl ?_
    refine ex_asN (a := sy r 1) (p6 r 0 hr (by decide)) ?_
    refine ex_iastN dL_law_592 rfl (by decide) (by omega) ?_
    refine ex_iincN (L' := [some (.ref (4096)), some (.ref (0)), none, some (.int (nI (n))), some (.ref (56)), some (.ref (57)), some (.ref (58)), some (.ref (59)), some (.int (nI (σ.length + 1 + 1 + 1))), some (.int (nI (m))), some (.int (nI (k))), some (.int (nI (step))), none, some (.int (nI (r))), some (.int (nI (0)))]) dL_law_593 rfl rfl (by decide) rfl ?_
    refine ex_iinc (v := -1) (L' := [some (.ref (4096)), some (.ref (0)), none, some (.int (nI (n))), some (.ref (56)), some (.ref (57)), some (.ref (58)), some (.ref (59)), some (.int (nI (σ.length + 1 + 1 + 1))), some (.int (nI (m))), some (.int (nI (k))), some (.int (nI (step))), none, some (.int (nI (r))), some (.int ((-1)))]) dL_law_596 rfl (by decide) (by decide) rfl ?_
    refine ex_goto (tgt := 560) dL_law_599 (by decide) ?_
    refine ex_iload dL_law_560 rfl ?_
    refine ex_if_lt (tgt := 602) dL_law_562 (by decide) (fun h562 => ?_) (fun h562 => by exact absurd (by decide) h562)
    refine ex_iincN (L' := [some (.ref (4096)), some (.ref (0)), none, some (.int (nI (n))), some (.ref (56)), some (.ref (57)), some (.ref (58)), some (.ref (59)), some (.int (nI (σ.length + 1 + 1 + 1))), some (.int (nI (m))), some (.int (nI (k))), some (.int (nI (step + 1))), none, some (.int (nI (r))), some (.int ((-1)))]) dL_law_602 rfl rfl (by decide) rfl ?_
    refine ex_goto (tgt := 395) dL_law_605 (by decide) ?_
    refine key _ _ (((Fr.rf.U (by decide)).U (by decide)).U (by decide)) ?_ ?_ _ _ _
    · rw [er]; exact stv_push (e := sy r 1) (stv_push (e := sy r 2) hs1 rfl) rfl
    · rw [er]; rfl
  · have z1 := nz 1 (by decide) (by omega)
    have z2 := nz 2 (by decide) (by omega)
    have z3 := nz 3 (by decide) (by omega)
    have z4 := z 4 (by omega) (by decide)
    have b1 := sl 1 (by decide)
    have b2 := sl 2 (by decide)
    have b3 := sl 3 (by decide)
    have er := rl _ l
    refine ex_aload dL_law_544 rfl ?_
    refine ex_iload dL_law_546 rfl ?_
    refine ex_bipush (v := nI 20) dL_law_548 (by decide) ?_
    refine ex_iload dL_law_550 rfl ?_
    refine ex_iaddN dL_law_552 ?_
    refine ex_iastN dL_law_553 rfl (by decide) (by omega) ?_
    refine ex_iincN (L' := [some (.ref (4096)), some (.ref (0)), none, some (.int (nI (n))), some (.ref (56)), some (.ref (57)), some (.ref (58)), some (.ref (59)), some (.int (nI (σ.length + 1))), some (.int (nI (m))), some (.int (nI (k))), some (.int (nI (step))), none, some (.int (nI (r))), none]) dL_law_554 rfl rfl (by decide) rfl ?_
    refine ex_iconst (v := nI 3) dL_law_557 (by decide) ?_
    refine ex_istore (L' := [some (.ref (4096)), some (.ref (0)), none, some (.int (nI (n))), some (.ref (56)), some (.ref (57)), some (.ref (58)), some (.ref (59)), some (.int (nI (σ.length + 1))), some (.int (nI (m))), some (.int (nI (k))), some (.int (nI (step))), none, some (.int (nI (r))), some (.int (nI (3)))]) dL_law_558 (by decide) rfl ?_
    refine ex_iload dL_law_560 rfl ?_
    refine ex_if_ltN (tgt := 602) dL_law_562 (by decide) (by omega) ?_
    refine ex_aload dL_law_565 rfl ?_
    refine ex_iconst (v := nI 4) dL_law_567 (by decide) ?_
    refine ex_iload dL_law_568 rfl ?_
    refine ex_imulN dL_law_570 ?_
    refine ex_iload dL_law_571 rfl ?_
    refine ex_iaddN dL_law_573 ?_
    refine ex_ialdN dL_law_574 rfl (by decide) (by omega) rfl ?_
    refine ex_asN (a := sy r 4) (p6 r 3 hr (by decide)) ?_
    refine ex_if_leN (tgt := 596) dL_law_575 (by decide) (by omega) (fun h575 => ?_) (fun h575 => by omega)
    refine ex_idecN (b := 2) (L' := [some (.ref (4096)), some (.ref (0)), none, some (.int (nI (n))), some (.ref (56)), some (.ref (57)), some (.ref (58)), some (.ref (59)), some (.int (nI (σ.length + 1))), some (.int (nI (m))), some (.int (nI (k))), some (.int (nI (step))), none, some (.int (nI (r))), some (.int (nI (2)))]) dL_law_596 rfl (by decide) (by decide) rfl ?_
    refine ex_goto (tgt := 560) dL_law_599 (by decide) ?_
    refine ex_iload dL_law_560 rfl ?_
    refine ex_if_ltN (tgt := 602) dL_law_562 (by decide) (by omega) ?_
    refine ex_aload dL_law_565 rfl ?_
    refine ex_iconst (v := nI 4) dL_law_567 (by decide) ?_
    refine ex_iload dL_law_568 rfl ?_
    refine ex_imulN dL_law_570 ?_
    refine ex_iload dL_law_571 rfl ?_
    refine ex_iaddN dL_law_573 ?_
    refine ex_ialdN dL_law_574 rfl (by decide) (by omega) rfl ?_
    refine ex_asN (a := sy r 3) (p6 r 2 hr (by decide)) ?_
    refine ex_if_leN (tgt := 596) dL_law_575 (by decide) (by omega) (fun h575 => by omega) (fun h575 => ?_)
    refine ex_aload dL_law_578 rfl ?_
    refine ex_iload dL_law_580 rfl ?_
    refine ex_aload dL_law_582 rfl ?_
    refine ex_iconst (v := nI 4) dL_law_584 (by decide) ?_
    refine ex_iload dL_law_585 rfl ?_
    refine ex_imulN dL_law_587 ?_
    refine ex_iload dL_law_588 rfl ?_
    refine ex_iaddN dL_law_590 ?_
    refine ex_ialdN dL_law_591 rfl (by decide) (by omega) rfl ?_
    refine ex_asN (a := sy r 3) (p6 r 2 hr (by decide)) ?_
    refine ex_iastN dL_law_592 rfl (by decide) (by omega) ?_
    refine ex_iincN (L' := [some (.ref (4096)), some (.ref (0)), none, some (.int (nI (n))), some (.ref (56)), some (.ref (57)), some (.ref (58)), some (.ref (59)), some (.int (nI (σ.length + 1 + 1))), some (.int (nI (m))), some (.int (nI (k))), some (.int (nI (step))), none, some (.int (nI (r))), some (.int (nI (2)))]) dL_law_593 rfl rfl (by decide) rfl ?_
    refine ex_idecN (b := 1) (L' := [some (.ref (4096)), some (.ref (0)), none, some (.int (nI (n))), some (.ref (56)), some (.ref (57)), some (.ref (58)), some (.ref (59)), some (.int (nI (σ.length + 1 + 1))), some (.int (nI (m))), some (.int (nI (k))), some (.int (nI (step))), none, some (.int (nI (r))), some (.int (nI (1)))]) dL_law_596 rfl (by decide) (by decide) rfl ?_
    refine ex_goto (tgt := 560) dL_law_599 (by decide) ?_
    refine ex_iload dL_law_560 rfl ?_
    refine ex_if_ltN (tgt := 602) dL_law_562 (by decide) (by omega) ?_
    refine ex_aload dL_law_565 rfl ?_
    refine ex_iconst (v := nI 4) dL_law_567 (by decide) ?_
    refine ex_iload dL_law_568 rfl ?_
    refine ex_imulN dL_law_570 ?_
    refine ex_iload dL_law_571 rfl ?_
    refine ex_iaddN dL_law_573 ?_
    refine ex_ialdN dL_law_574 rfl (by decide) (by omega) rfl ?_
    refine ex_asN (a := sy r 2) (p6 r 1 hr (by decide)) ?_
    refine ex_if_leN (tgt := 596) dL_law_575 (by decide) (by omega) (fun h575 => by omega) (fun h575 => ?_)
    refine ex_aload dL_law_578 rfl ?_
    refine ex_iload dL_law_580 rfl ?_
    refine ex_aload dL_law_582 rfl ?_
    refine ex_iconst (v := nI 4) dL_law_584 (by decide) ?_
    refine ex_iload dL_law_585 rfl ?_
    refine ex_imulN dL_law_587 ?_
    refine ex_iload dL_law_588 rfl ?_
    refine ex_iaddN dL_law_590 ?_
    refine ex_ialdN dL_law_591 rfl (by decide) (by omega) rfl ?_
    refine ex_asN (a := sy r 2) (p6 r 1 hr (by decide)) ?_
    refine ex_iastN dL_law_592 rfl (by decide) (by omega) ?_
    refine ex_iincN (L' := [some (.ref (4096)), some (.ref (0)), none, some (.int (nI (n))), some (.ref (56)), some (.ref (57)), some (.ref (58)), some (.ref (59)), some (.int (nI (σ.length + 1 + 1 + 1))), some (.int (nI (m))), some (.int (nI (k))), some (.int (nI (step))), none, some (.int (nI (r))), some (.int (nI (1)))]) dL_law_593 rfl rfl (by decide) rfl ?_
    refine ex_idecN (b := 0) (L' := [some (.ref (4096)), some (.ref (0)), none, some (.int (nI (n))), some (.ref (56)), some (.ref (57)), some (.ref (58)), some (.ref (59)), some (.int (nI (σ.length + 1 + 1 + 1))), some (.int (nI (m))), some (.int (nI (k))), some (.int (nI (step))), none, some (.int (nI (r))), some (.int (nI (0)))]) dL_law_596 rfl (by decide) (by decide) rfl ?_
    refine ex_goto (tgt := 560) dL_law_599 (by decide) ?_
    refine ex_iload dL_law_560 rfl ?_
    refine ex_if_ltN (tgt := 602) dL_law_562 (by decide) (by omega) ?_
    refine ex_aload dL_law_565 rfl ?_
    refine ex_iconst (v := nI 4) dL_law_567 (by decide) ?_
    refine ex_iload dL_law_568 rfl ?_
    refine ex_imulN dL_law_570 ?_
    refine ex_iload dL_law_571 rfl ?_
    refine ex_iaddN dL_law_573 ?_
    refine ex_ialdN dL_law_574 rfl (by decide) (by omega) rfl ?_
    refine ex_asN (a := sy r 1) (p6 r 0 hr (by decide)) ?_
    refine ex_if_leN (tgt := 596) dL_law_575 (by decide) (by omega) (fun h575 => by omega) (fun h575 => ?_)
    refine ex_aload dL_law_578 rfl ?_
    refine ex_iload dL_law_580 rfl ?_
    refine ex_aload dL_law_582 rfl ?_
    refine ex_iconst (v := nI 4) dL_law_584 (by decide) ?_
    refine ex_iload dL_law_585 rfl ?_
    refine ex_imulN dL_law_587 ?_
    refine ex_iload dL_law_588 rfl ?_
    refine ex_iaddN dL_law_590 ?_
    refine ex_ialdN dL_law_591 rfl (by decide) (by omega) rfl ?_
    refine ex_asN (a := sy r 1) (p6 r 0 hr (by decide)) ?_
    refine ex_iastN dL_law_592 rfl (by decide) (by omega) ?_
    refine ex_iincN (L' := [some (.ref (4096)), some (.ref (0)), none, some (.int (nI (n))), some (.ref (56)), some (.ref (57)), some (.ref (58)), some (.ref (59)), some (.int (nI (σ.length + 1 + 1 + 1 + 1))), some (.int (nI (m))), some (.int (nI (k))), some (.int (nI (step))), none, some (.int (nI (r))), some (.int (nI (0)))]) dL_law_593 rfl rfl (by decide) rfl ?_
    refine ex_iinc (v := -1) (L' := [some (.ref (4096)), some (.ref (0)), none, some (.int (nI (n))), some (.ref (56)), some (.ref (57)), some (.ref (58)), some (.ref (59)), some (.int (nI (σ.length + 1 + 1 + 1 + 1))), some (.int (nI (m))), some (.int (nI (k))), some (.int (nI (step))), none, some (.int (nI (r))), some (.int ((-1)))]) dL_law_596 rfl (by decide) (by decide) rfl ?_
    refine ex_goto (tgt := 560) dL_law_599 (by decide) ?_
    refine ex_iload dL_law_560 rfl ?_
    refine ex_if_lt (tgt := 602) dL_law_562 (by decide) (fun h562 => ?_) (fun h562 => by exact absurd (by decide) h562)
    refine ex_iincN (L' := [some (.ref (4096)), some (.ref (0)), none, some (.int (nI (n))), some (.ref (56)), some (.ref (57)), some (.ref (58)), some (.ref (59)), some (.int (nI (σ.length + 1 + 1 + 1 + 1))), some (.int (nI (m))), some (.int (nI (k))), some (.int (nI (step + 1))), none, some (.int (nI (r))), some (.int ((-1)))]) dL_law_602 rfl rfl (by decide) rfl ?_
    refine ex_goto (tgt := 395) dL_law_605 (by decide) ?_
    refine key _ _ ((((Fr.rf.U (by decide)).U (by decide)).U (by decide)).U (by decide)) ?_ ?_ _ _ _
    · rw [er]; exact stv_push (e := sy r 1) (stv_push (e := sy r 2) (stv_push (e := sy r 3) hs1 rfl) rfl) rfl
    · rw [er]; rfl
  · have z1 := nz 1 (by decide) (by omega)
    have z2 := nz 2 (by decide) (by omega)
    have z3 := nz 3 (by decide) (by omega)
    have z4 := nz 4 (by decide) (by omega)
    have b1 := sl 1 (by decide)
    have b2 := sl 2 (by decide)
    have b3 := sl 3 (by decide)
    have b4 := sl 4 (by decide)
    have er := rl _ l
    refine ex_aload dL_law_544 rfl ?_
    refine ex_iload dL_law_546 rfl ?_
    refine ex_bipush (v := nI 20) dL_law_548 (by decide) ?_
    refine ex_iload dL_law_550 rfl ?_
    refine ex_iaddN dL_law_552 ?_
    refine ex_iastN dL_law_553 rfl (by decide) (by omega) ?_
    refine ex_iincN (L' := [some (.ref (4096)), some (.ref (0)), none, some (.int (nI (n))), some (.ref (56)), some (.ref (57)), some (.ref (58)), some (.ref (59)), some (.int (nI (σ.length + 1))), some (.int (nI (m))), some (.int (nI (k))), some (.int (nI (step))), none, some (.int (nI (r))), none]) dL_law_554 rfl rfl (by decide) rfl ?_
    refine ex_iconst (v := nI 3) dL_law_557 (by decide) ?_
    refine ex_istore (L' := [some (.ref (4096)), some (.ref (0)), none, some (.int (nI (n))), some (.ref (56)), some (.ref (57)), some (.ref (58)), some (.ref (59)), some (.int (nI (σ.length + 1))), some (.int (nI (m))), some (.int (nI (k))), some (.int (nI (step))), none, some (.int (nI (r))), some (.int (nI (3)))]) dL_law_558 (by decide) rfl ?_
    refine ex_iload dL_law_560 rfl ?_
    refine ex_if_ltN (tgt := 602) dL_law_562 (by decide) (by omega) ?_
    refine ex_aload dL_law_565 rfl ?_
    refine ex_iconst (v := nI 4) dL_law_567 (by decide) ?_
    refine ex_iload dL_law_568 rfl ?_
    refine ex_imulN dL_law_570 ?_
    refine ex_iload dL_law_571 rfl ?_
    refine ex_iaddN dL_law_573 ?_
    refine ex_ialdN dL_law_574 rfl (by decide) (by omega) rfl ?_
    refine ex_asN (a := sy r 4) (p6 r 3 hr (by decide)) ?_
    refine ex_if_leN (tgt := 596) dL_law_575 (by decide) (by omega) (fun h575 => by omega) (fun h575 => ?_)
    refine ex_aload dL_law_578 rfl ?_
    refine ex_iload dL_law_580 rfl ?_
    refine ex_aload dL_law_582 rfl ?_
    refine ex_iconst (v := nI 4) dL_law_584 (by decide) ?_
    refine ex_iload dL_law_585 rfl ?_
    refine ex_imulN dL_law_587 ?_
    refine ex_iload dL_law_588 rfl ?_
    refine ex_iaddN dL_law_590 ?_
    refine ex_ialdN dL_law_591 rfl (by decide) (by omega) rfl ?_
    refine ex_asN (a := sy r 4) (p6 r 3 hr (by decide)) ?_
    refine ex_iastN dL_law_592 rfl (by decide) (by omega) ?_
    refine ex_iincN (L' := [some (.ref (4096)), some (.ref (0)), none, some (.int (nI (n))), some (.ref (56)), some (.ref (57)), some (.ref (58)), some (.ref (59)), some (.int (nI (σ.length + 1 + 1))), some (.int (nI (m))), some (.int (nI (k))), some (.int (nI (step))), none, some (.int (nI (r))), some (.int (nI (3)))]) dL_law_593 rfl rfl (by decide) rfl ?_
    refine ex_idecN (b := 2) (L' := [some (.ref (4096)), some (.ref (0)), none, some (.int (nI (n))), some (.ref (56)), some (.ref (57)), some (.ref (58)), some (.ref (59)), some (.int (nI (σ.length + 1 + 1))), some (.int (nI (m))), some (.int (nI (k))), some (.int (nI (step))), none, some (.int (nI (r))), some (.int (nI (2)))]) dL_law_596 rfl (by decide) (by decide) rfl ?_
    refine ex_goto (tgt := 560) dL_law_599 (by decide) ?_
    refine ex_iload dL_law_560 rfl ?_
    refine ex_if_ltN (tgt := 602) dL_law_562 (by decide) (by omega) ?_
    refine ex_aload dL_law_565 rfl ?_
    refine ex_iconst (v := nI 4) dL_law_567 (by decide) ?_
    refine ex_iload dL_law_568 rfl ?_
    refine ex_imulN dL_law_570 ?_
    refine ex_iload dL_law_571 rfl ?_
    refine ex_iaddN dL_law_573 ?_
    refine ex_ialdN dL_law_574 rfl (by decide) (by omega) rfl ?_
    refine ex_asN (a := sy r 3) (p6 r 2 hr (by decide)) ?_
    refine ex_if_leN (tgt := 596) dL_law_575 (by decide) (by omega) (fun h575 => by omega) (fun h575 => ?_)
    refine ex_aload dL_law_578 rfl ?_
    refine ex_iload dL_law_580 rfl ?_
    refine ex_aload dL_law_582 rfl ?_
    refine ex_iconst (v := nI 4) dL_law_584 (by decide) ?_
    refine ex_iload dL_law_585 rfl ?_
    refine ex_imulN dL_law_587 ?_
    refine ex_iload dL_law_588 rfl ?_
    refine ex_iaddN dL_law_590 ?_
    refine ex_ialdN dL_law_591 rfl (by decide) (by omega) rfl ?_
    refine ex_asN (a := sy r 3) (p6 r 2 hr (by decide)) ?_
    refine ex_iastN dL_law_592 rfl (by decide) (by omega) ?_
    refine ex_iincN (L' := [some (.ref (4096)), some (.ref (0)), none, some (.int (nI (n))), some (.ref (56)), some (.ref (57)), some (.ref (58)), some (.ref (59)), some (.int (nI (σ.length + 1 + 1 + 1))), some (.int (nI (m))), some (.int (nI (k))), some (.int (nI (step))), none, some (.int (nI (r))), some (.int (nI (2)))]) dL_law_593 rfl rfl (by decide) rfl ?_
    refine ex_idecN (b := 1) (L' := [some (.ref (4096)), some (.ref (0)), none, some (.int (nI (n))), some (.ref (56)), some (.ref (57)), some (.ref (58)), some (.ref (59)), some (.int (nI (σ.length + 1 + 1 + 1))), some (.int (nI (m))), some (.int (nI (k))), some (.int (nI (step))), none, some (.int (nI (r))), some (.int (nI (1)))]) dL_law_596 rfl (by decide) (by decide) rfl ?_
    refine ex_goto (tgt := 560) dL_law_599 (by decide) ?_
    refine ex_iload dL_law_560 rfl ?_
    refine ex_if_ltN (tgt := 602) dL_law_562 (by decide) (by omega) ?_
    refine ex_aload dL_law_565 rfl ?_
    refine ex_iconst (v := nI 4) dL_law_567 (by decide) ?_
    refine ex_iload dL_law_568 rfl ?_
    refine ex_imulN dL_law_570 ?_
    refine ex_iload dL_law_571 rfl ?_
    refine ex_iaddN dL_law_573 ?_
    refine ex_ialdN dL_law_574 rfl (by decide) (by omega) rfl ?_
    refine ex_asN (a := sy r 2) (p6 r 1 hr (by decide)) ?_
    refine ex_if_leN (tgt := 596) dL_law_575 (by decide) (by omega) (fun h575 => by omega) (fun h575 => ?_)
    refine ex_aload dL_law_578 rfl ?_
    refine ex_iload dL_law_580 rfl ?_
    refine ex_aload dL_law_582 rfl ?_
    refine ex_iconst (v := nI 4) dL_law_584 (by decide) ?_
    refine ex_iload dL_law_585 rfl ?_
    refine ex_imulN dL_law_587 ?_
    refine ex_iload dL_law_588 rfl ?_
    refine ex_iaddN dL_law_590 ?_
    refine ex_ialdN dL_law_591 rfl (by decide) (by omega) rfl ?_
    refine ex_asN (a := sy r 2) (p6 r 1 hr (by decide)) ?_
    refine ex_iastN dL_law_592 rfl (by decide) (by omega) ?_
    refine ex_iincN (L' := [some (.ref (4096)), some (.ref (0)), none, some (.int (nI (n))), some (.ref (56)), some (.ref (57)), some (.ref (58)), some (.ref (59)), some (.int (nI (σ.length + 1 + 1 + 1 + 1))), some (.int (nI (m))), some (.int (nI (k))), some (.int (nI (step))), none, some (.int (nI (r))), some (.int (nI (1)))]) dL_law_593 rfl rfl (by decide) rfl ?_
    refine ex_idecN (b := 0) (L' := [some (.ref (4096)), some (.ref (0)), none, some (.int (nI (n))), some (.ref (56)), some (.ref (57)), some (.ref (58)), some (.ref (59)), some (.int (nI (σ.length + 1 + 1 + 1 + 1))), some (.int (nI (m))), some (.int (nI (k))), some (.int (nI (step))), none, some (.int (nI (r))), some (.int (nI (0)))]) dL_law_596 rfl (by decide) (by decide) rfl ?_
    refine ex_goto (tgt := 560) dL_law_599 (by decide) ?_
    refine ex_iload dL_law_560 rfl ?_
    refine ex_if_ltN (tgt := 602) dL_law_562 (by decide) (by omega) ?_
    refine ex_aload dL_law_565 rfl ?_
    refine ex_iconst (v := nI 4) dL_law_567 (by decide) ?_
    refine ex_iload dL_law_568 rfl ?_
    refine ex_imulN dL_law_570 ?_
    refine ex_iload dL_law_571 rfl ?_
    refine ex_iaddN dL_law_573 ?_
    refine ex_ialdN dL_law_574 rfl (by decide) (by omega) rfl ?_
    refine ex_asN (a := sy r 1) (p6 r 0 hr (by decide)) ?_
    refine ex_if_leN (tgt := 596) dL_law_575 (by decide) (by omega) (fun h575 => by omega) (fun h575 => ?_)
    refine ex_aload dL_law_578 rfl ?_
    refine ex_iload dL_law_580 rfl ?_
    refine ex_aload dL_law_582 rfl ?_
    refine ex_iconst (v := nI 4) dL_law_584 (by decide) ?_
    refine ex_iload dL_law_585 rfl ?_
    refine ex_imulN dL_law_587 ?_
    refine ex_iload dL_law_588 rfl ?_
    refine ex_iaddN dL_law_590 ?_
    refine ex_ialdN dL_law_591 rfl (by decide) (by omega) rfl ?_
    refine ex_asN (a := sy r 1) (p6 r 0 hr (by decide)) ?_
    refine ex_iastN dL_law_592 rfl (by decide) (by omega) ?_
    refine ex_iincN (L' := [some (.ref (4096)), some (.ref (0)), none, some (.int (nI (n))), some (.ref (56)), some (.ref (57)), some (.ref (58)), some (.ref (59)), some (.int (nI (σ.length + 1 + 1 + 1 + 1 + 1))), some (.int (nI (m))), some (.int (nI (k))), some (.int (nI (step))), none, some (.int (nI (r))), some (.int (nI (0)))]) dL_law_593 rfl rfl (by decide) rfl ?_
    refine ex_iinc (v := -1) (L' := [some (.ref (4096)), some (.ref (0)), none, some (.int (nI (n))), some (.ref (56)), some (.ref (57)), some (.ref (58)), some (.ref (59)), some (.int (nI (σ.length + 1 + 1 + 1 + 1 + 1))), some (.int (nI (m))), some (.int (nI (k))), some (.int (nI (step))), none, some (.int (nI (r))), some (.int ((-1)))]) dL_law_596 rfl (by decide) (by decide) rfl ?_
    refine ex_goto (tgt := 560) dL_law_599 (by decide) ?_
    refine ex_iload dL_law_560 rfl ?_
    refine ex_if_lt (tgt := 602) dL_law_562 (by decide) (fun h562 => ?_) (fun h562 => by exact absurd (by decide) h562)
    refine ex_iincN (L' := [some (.ref (4096)), some (.ref (0)), none, some (.int (nI (n))), some (.ref (56)), some (.ref (57)), some (.ref (58)), some (.ref (59)), some (.int (nI (σ.length + 1 + 1 + 1 + 1 + 1))), some (.int (nI (m))), some (.int (nI (k))), some (.int (nI (step + 1))), none, some (.int (nI (r))), some (.int ((-1)))]) dL_law_602 rfl rfl (by decide) rfl ?_
    refine ex_goto (tgt := 395) dL_law_605 (by decide) ?_
    refine key _ _ (((((Fr.rf.U (by decide)).U (by decide)).U (by decide)).U (by decide)).U (by decide)) ?_ ?_ _ _ _
    · rw [er]; exact stv_push (e := sy r 1) (stv_push (e := sy r 2) (stv_push (e := sy r 3) (stv_push (e := sy r 4) hs1 rfl) rfl) rfl) rfl
    · rw [er]; rfl
end S94
