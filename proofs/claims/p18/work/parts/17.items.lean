/-! ===== frames, views of cells as naturals; the grammar as a function; States: items ===== -/
/-- only the cells in l have changed -/
def Fr (l : List Nat) (i i' : Nat → Nat → Int32) : Prop := ∀ c, c ∉ l → i' c = i c
theorem Fr.rf {l : List Nat} {i : Nat → Nat → Int32} : Fr l i i := fun _ _ => rfl
theorem Fr.tr {l : List Nat} {i i1 i2 : Nat → Nat → Int32} (h : Fr l i i1) (h2 : Fr l i1 i2) : Fr l i i2 := fun c hc => (h2 c hc).trans (h c hc)
theorem Fr.U {l : List Nat} {i i1 : Nat → Nat → Int32} {c k : Nat} {x : Int32} (h : Fr l i i1) (hc : c ∈ l) : Fr l i (xU i1 c k x) := fun d hd => (xU_ne _ _ _ (fun e => hd (by rw [e]; exact hc))).trans (h d hd)
theorem Fr.S {l : List Nat} {i i1 : Nat → Nat → Int32} {c : Nat} {f : Nat → Int32} (h : Fr l i i1) (hc : c ∈ l) : Fr l i (xSet i1 c f) := fun d hd => (xSet_ne _ _ (fun e => hd (by rw [e]; exact hc))).trans (h d hd)
theorem Fr.mono {l l' : List Nat} {i i1 : Nat → Nat → Int32} (h : Fr l i i1) (hl : ∀ c ∈ l, c ∈ l') : Fr l' i i1 := fun c hc => h c (fun e => hc (hl c e))
/-- grids aren't touched -/
def okl (l : List Nat) : Bool := l.all (fun c => !([2, 10, 12, 14, 21, 23, 25, 47, 52].contains c))
theorem SC_Fr {l : List Nat} {i i' : Nat → Nat → Int32} (hl : okl l = true) (h : Fr l i i') (sc : SC i) : SC i' := by
  refine SC_of sc (fun c hc => h c (fun hcl => ?_))
  have h2 := List.all_eq_true.mp hl c hcl
  have h3 : ([2, 10, 12, 14, 21, 23, 25, 47, 52] : List Nat).contains c = true := List.contains_iff_mem.mpr hc
  rw [h3] at h2
  cases h2
/-- cell c holds the naturals F below N -/
def Vw (i : Nat → Nat → Int32) (c N : Nat) (F : Nat → Nat) : Prop := ∀ j, j < N → i c j = nI (F j)
def upN (F : Nat → Nat) (k v : Nat) : Nat → Nat := fun j => if j = k then v else F j
theorem upN_at (F : Nat → Nat) (k v : Nat) : upN F k v k = v := by simp [upN]
theorem upN_ne (F : Nat → Nat) {k j : Nat} (v : Nat) (h : j ≠ k) : upN F k v j = F j := by simp [upN, h]
theorem Vw.U {i : Nat → Nat → Int32} {c N k v : Nat} {F : Nat → Nat} (h : Vw i c N F) : Vw (xU i c k (nI v)) c N (upN F k v) := by
  intro j hj
  rw [xU_at]
  unfold upd upN
  by_cases e : j = k
  · simp [e]
  · simp [e, h j hj]
theorem Vw.ne {i : Nat → Nat → Int32} {c d N k : Nat} {x : Int32} {F : Nat → Nat} (h : Vw i c N F) (hd : c ≠ d) : Vw (xU i d k x) c N F := fun j hj => by rw [xU_ne _ _ _ hd]; exact h j hj
theorem Vw.fr {i i' : Nat → Nat → Int32} {c N : Nat} {F : Nat → Nat} {l : List Nat} (h : Vw i c N F) (hf : Fr l i i') (hc : c ∉ l) : Vw i' c N F := fun j hj => by rw [hf c hc]; exact h j hj
/-- the rules: sy r 0 the left side, sy r 1 .. the right side, 14 the goal -/
def GW (n : Nat) (sy : Nat → Nat → Nat) : Prop := n ≤ 14 ∧ (∀ r k, r < 15 → 1 ≤ k → k < 5 → sy r k = 0 ∨ 1 ≤ sy r k ∧ sy r k ≤ 6 ∨ 8 ≤ sy r k ∧ sy r k ≤ 13) ∧ (∀ r, r < n → 8 ≤ sy r 0 ∧ sy r 0 ≤ 13) ∧ (∀ r, n ≤ r → r < 15 → sy r 0 = 0) ∧
  (∀ r k, r < 15 → 1 ≤ k → k < 4 → sy r k = 0 → sy r (k + 1) = 0) ∧ (∀ r k, n ≤ r → r < 14 → 1 ≤ k → k < 5 → sy r k = 0) ∧ sy 14 2 = 0 ∧ (0 < n → sy 14 1 = sy 0 0) ∧ (n = 0 → sy 14 1 = 0)
theorem GW.le {n : Nat} {sy : Nat → Nat → Nat} (h : GW n sy) {r k : Nat} (hr : r < 15) (hk : k < 5) : sy r k ≤ 13 := by
  obtain ⟨h1, h2, h3, h4, -⟩ := h
  by_cases hk0 : k = 0
  · subst hk0
    by_cases hn : r < n
    · exact (h3 r hn).2
    · rw [h4 r (by omega) hr]; omega
  · have := h2 r k hr (by omega) hk
    omega
theorem GW.ne7 {n : Nat} {sy : Nat → Nat → Nat} (h : GW n sy) {r k : Nat} (hr : r < 15) (hk : k < 5) : sy r k ≠ 7 := by
  obtain ⟨h1, h2, h3, h4, -⟩ := h
  by_cases hk0 : k = 0
  · subst hk0
    by_cases hn : r < n
    · have := (h3 r hn).1; omega
    · rw [h4 r (by omega) hr]; omega
  · have := h2 r k hr (by omega) hk
    omega
/-- the class's grammar -/
def GS (i : Nat → Nat → Int32) (n : Nat) (sy : Nat → Nat → Nat) : Prop := i 1 7 = nI n ∧ (∀ r k, r < 15 → k < 5 → i 3 (r * 5 + k) = nI (sy r k)) ∧ GW n sy
theorem GS.fr {i i' : Nat → Nat → Int32} {n : Nat} {sy : Nat → Nat → Nat} {l : List Nat} (h : GS i n sy) (hf : Fr l i i') (h1 : 1 ∉ l) (h3 : 3 ∉ l) : GS i' n sy := by
  obtain ⟨a, b, c⟩ := h
  exact ⟨by rw [hf 1 h1]; exact a, fun r k hr hk => by rw [hf 3 h3]; exact b r k hr hk, c⟩
/-- the symbol behind the dot of an item -/
def bh (sy : Nat → Nat → Nat) (it : Nat) : Nat := if it % 5 < 4 then sy (it / 5) (it % 5 + 1) else 0
theorem bh_le {n : Nat} {sy : Nat → Nat → Nat} (h : GW n sy) {it : Nat} (hi : it < 75) : bh sy it ≤ 13 := by
  unfold bh
  split
  · exact h.le (by omega) (by omega)
  · omega
theorem bh_cases {n : Nat} {sy : Nat → Nat → Nat} (h : GW n sy) {it : Nat} (hi : it < 75) : bh sy it = 0 ∨ 1 ≤ bh sy it ∧ bh sy it ≤ 6 ∨ 8 ≤ bh sy it ∧ bh sy it ≤ 13 := by
  unfold bh
  split
  · exact h.2.1 _ _ (by omega) (by omega) (by omega)
  · omega
/-- the length of a rule's right side -/
abbrev lnR (sy : Nat → Nat → Nat) (r : Nat) : Nat := lnS (sy r)
section S17
variable {ζ g : Nat} {i : Nat → Nat → Int32} {q : Nat → Nat → Int64} {t : Bool} {Q : xRes → xMem → Prop} {n : Nat} {sy : Nat → Nat → Nat}
theorem sp_States_endOf {r : Nat} (sc : SC i) (gs : GS i n sy) (hr : r < 15) (hQ : Q (.ok (some (.int (nI (r * 5 + lnR sy r))))) (56 + ζ, g, i, q, RT t)) : Wx m_States_endOf 0 [some (.ref 16), some (.int (nI r))] [] (56 + ζ, g, i, q, RT t) (0, 0) Q := by
  refine ex_iload_n (i := 1) dX7_endOf_0 rfl rfl ?_
  refine ex_iconst (v := nI 5) dX7_endOf_1 (by decide) ?_
  refine ex_imulN dX7_endOf_2 ?_
  refine ex_aload_n (i := 0) dX7_endOf_3 rfl rfl ?_
  refine ex_getR (v := .ref (1)) dX7_endOf_4 fl_States_9 rfl rfl (l56 (by decide)) rfl ?_
  refine ex_iload_n (i := 1) dX7_endOf_7 rfl rfl ?_
  refine ex_cV (ν := m_Grammar_lengthOf) (a := 1) (ci := 1) (as := [.int (nI (r))]) dX7_endOf_8 ln_States_57 mf_Grammar_lengthOf rfl (l56 (by decide)) rfl rfl np_Grammar_lengthOf rfl rfl ⟨(Nat.le_of_ble_eq_true rfl), (Nat.le_of_ble_eq_true rfl), (Nat.le_of_ble_eq_true rfl), (Nat.le_of_ble_eq_true rfl)⟩ (by decide) ?_
  refine sp_Grammar_lengthOf (f := sy r) sc hr (fun k hk => gs.2.1 r k hr hk) (fun k hk => Nat.lt_of_le_of_lt (gs.2.2.le hr hk) (by decide)) ?_
  refine ⟨_, rfl, ?_⟩
  refine ex_iaddN dX7_endOf_11 ?_
  refine ex_iret dX7_endOf_12 rfl rfl ?_
  exact hQ
theorem sp_States_symbolBehindDot {it : Nat} (sc : SC i) (gs : GS i n sy) (hi : it < 75) (hQ : Q (.ok (some (.int (nI (bh sy it))))) (56 + ζ, g, i, q, RT t)) : Wx m_States_symbolBehindDot 0 [some (.ref 16), some (.int (nI it))] [] (56 + ζ, g, i, q, RT t) (0, 0) Q := by
  unfold bh at hQ
  by_cases h : it % 5 < 4
  · rw [if_pos h] at hQ
    refine ex_aload_n (i := 0) dX7_symbolBehindDot_0 rfl rfl ?_
    refine ex_getR (v := .ref (1)) dX7_symbolBehindDot_1 fl_States_9 rfl rfl (l56 (by decide)) rfl ?_
    refine ex_iload_n (i := 1) dX7_symbolBehindDot_4 rfl rfl ?_
    refine ex_iconst (v := nI 5) dX7_symbolBehindDot_5 (by decide) ?_
    refine ex_idivN dX7_symbolBehindDot_6 (by omega) (by decide) (by decide) ?_
    refine ex_iload_n (i := 1) dX7_symbolBehindDot_7 rfl rfl ?_
    refine ex_iconst (v := nI 5) dX7_symbolBehindDot_8 (by decide) ?_
    refine ex_iremN dX7_symbolBehindDot_9 (by omega) (by decide) (by decide) ?_
    refine ex_iconst (v := nI 1) dX7_symbolBehindDot_10 (by decide) ?_
    refine ex_iaddN dX7_symbolBehindDot_11 ?_
    refine ex_cV (ν := m_Grammar_symbolAt) (a := 1) (ci := 1) (as := [.int (nI (it / 5)), .int (nI ((it % 5) + 1))]) dX7_symbolBehindDot_12 ln_States_62 mf_Grammar_symbolAt rfl (l56 (by decide)) rfl rfl np_Grammar_symbolAt rfl rfl ⟨(Nat.le_of_ble_eq_true rfl), (Nat.le_of_ble_eq_true rfl), (Nat.le_of_ble_eq_true rfl), (Nat.le_of_ble_eq_true rfl)⟩ (by decide) ?_
    refine sp_Grammar_symbolAt sc (by omega) (by omega) ?_
    refine ⟨_, rfl, ?_⟩
    refine ex_asN (a := sy (it / 5) (it % 5 + 1)) (gs.2.1 _ _ (by omega) (by omega)) ?_
    refine ex_iret dX7_symbolBehindDot_15 rfl rfl ?_
    exact hQ
  · rw [if_neg h] at hQ
    refine ex_aload_n (i := 0) dX7_symbolBehindDot_0 rfl rfl ?_
    refine ex_getR (v := .ref (1)) dX7_symbolBehindDot_1 fl_States_9 rfl rfl (l56 (by decide)) rfl ?_
    refine ex_iload_n (i := 1) dX7_symbolBehindDot_4 rfl rfl ?_
    refine ex_iconst (v := nI 5) dX7_symbolBehindDot_5 (by decide) ?_
    refine ex_idivN dX7_symbolBehindDot_6 (by omega) (by decide) (by decide) ?_
    refine ex_iload_n (i := 1) dX7_symbolBehindDot_7 rfl rfl ?_
    refine ex_iconst (v := nI 5) dX7_symbolBehindDot_8 (by decide) ?_
    refine ex_iremN dX7_symbolBehindDot_9 (by omega) (by decide) (by decide) ?_
    refine ex_iconst (v := nI 1) dX7_symbolBehindDot_10 (by decide) ?_
    refine ex_iaddN dX7_symbolBehindDot_11 ?_
    refine ex_cV (ν := m_Grammar_symbolAt) (a := 1) (ci := 1) (as := [.int (nI (it / 5)), .int (nI ((it % 5) + 1))]) dX7_symbolBehindDot_12 ln_States_62 mf_Grammar_symbolAt rfl (l56 (by decide)) rfl rfl np_Grammar_symbolAt rfl rfl ⟨(Nat.le_of_ble_eq_true rfl), (Nat.le_of_ble_eq_true rfl), (Nat.le_of_ble_eq_true rfl), (Nat.le_of_ble_eq_true rfl)⟩ (by decide) ?_
    refine sp_Grammar_symbolAt_out sc ⟨by omega, by omega⟩ ?_
    refine ⟨_, rfl, ?_⟩
    refine ex_iret dX7_symbolBehindDot_15 rfl rfl ?_
    exact hQ
theorem sp_States_lookaheadsAtEnd {s r : Nat} {F : Nat → Nat} (sc : SC i) (gs : GS i n sy) (hs : s < 50) (hr : r < 15) (hF : Vw i 22 3750 F) (hQ : Q (.ok (some (.int (nI (F (s * 75 + (r * 5 + lnR sy r)) &&& 127))))) (56 + ζ, g, i, q, RT t)) : Wx m_States_lookaheadsAtEnd 0 [some (.ref 16), some (.int (nI s)), some (.int (nI r))] [] (56 + ζ, g, i, q, RT t) (0, 0) Q := by
  have hl : lnR sy r ≤ 4 := lnS_le _
  refine ex_aload_n (i := 0) dX7_lookaheadsAtEnd_0 rfl rfl ?_
  refine ex_getR (v := .ref (21)) dX7_lookaheadsAtEnd_1 fl_States_32 rfl rfl (l56 (by decide)) rfl ?_
  refine ex_iload_n (i := 1) dX7_lookaheadsAtEnd_4 rfl rfl ?_
  refine ex_aload_n (i := 0) dX7_lookaheadsAtEnd_5 rfl rfl ?_
  refine ex_iload_n (i := 2) dX7_lookaheadsAtEnd_6 rfl rfl ?_
  refine ex_cV (ν := m_States_endOf) (a := 16) (ci := 7) (as := [.int (nI (r))]) dX7_lookaheadsAtEnd_7 ln_States_53 mf_States_endOf rfl (l56 (by decide)) rfl rfl np_States_endOf rfl rfl ⟨(Nat.le_of_ble_eq_true rfl), (Nat.le_of_ble_eq_true rfl), (Nat.le_of_ble_eq_true rfl), (Nat.le_of_ble_eq_true rfl)⟩ (by decide) ?_
  refine sp_States_endOf sc gs hr ?_
  refine ⟨_, rfl, ?_⟩
  refine ex_cV (ν := m_Grid_get) (a := 21) (ci := 2) (as := [.int (nI (s)), .int (nI (r * 5 + lnR sy r))]) dX7_lookaheadsAtEnd_10 ln_States_49 mf_Grid_get rfl (l56 (by decide)) rfl rfl np_Grid_get rfl rfl ⟨(Nat.le_of_ble_eq_true rfl), (Nat.le_of_ble_eq_true rfl), (Nat.le_of_ble_eq_true rfl), (Nat.le_of_ble_eq_true rfl)⟩ (by decide) ?_
  refine sp_Grid_get (r := 21) (c := 22) rfl rfl rfl (l56 (by decide)) (l56 (by decide)) (sc_21_0 sc) (sc_21_1 sc) rfl (by omega) (by omega) ?_
  refine ⟨_, rfl, ?_⟩
  refine ex_asN (a := F (s * 75 + (r * 5 + lnR sy r))) (hF _ (by omega)) ?_
  refine ex_bipush (v := nI 127) dX7_lookaheadsAtEnd_13 (by decide) ?_
  refine ex_iandN dX7_lookaheadsAtEnd_15 ?_
  refine ex_iret dX7_lookaheadsAtEnd_16 rfl rfl ?_
  exact hQ
theorem sp_States_give {s it m a : Nat} (sc : SC i) (hs : s < 50) (hi : it < 75) (ha : i 22 (s * 75 + it) = nI a) (ha2 : a < 256) (hm : m < 256) (hQ : Q (.ok (some (.int (nI (if a ||| m = a then 0 else 1))))) (56 + ζ, g, xU i 22 (s * 75 + it) (nI (a ||| m)), q, RT t)) : Wx m_States_give 0 [some (.ref 16), some (.int (nI s)), some (.int (nI it)), some (.int (nI m)), none] [] (56 + ζ, g, i, q, RT t) (0, 0) Q := by
  have hlt : a ||| m < 256 := Nat.or_lt_two_pow (n := 8) ha2 hm
  refine ex_aload_n (i := 0) dX7_give_0 rfl rfl ?_
  refine ex_getR (v := .ref (21)) dX7_give_1 fl_States_32 rfl rfl (l56 (by decide)) rfl ?_
  refine ex_iload_n (i := 1) dX7_give_4 rfl rfl ?_
  refine ex_iload_n (i := 2) dX7_give_5 rfl rfl ?_
  refine ex_cV (ν := m_Grid_get) (a := 21) (ci := 2) (as := [.int (nI (s)), .int (nI (it))]) dX7_give_6 ln_States_49 mf_Grid_get rfl (l56 (by decide)) rfl rfl np_Grid_get rfl rfl ⟨(Nat.le_of_ble_eq_true rfl), (Nat.le_of_ble_eq_true rfl), (Nat.le_of_ble_eq_true rfl), (Nat.le_of_ble_eq_true rfl)⟩ (by decide) ?_
  refine sp_Grid_get (r := 21) (c := 22) rfl rfl rfl (l56 (by decide)) (l56 (by decide)) (sc_21_0 sc) (sc_21_1 sc) rfl (by omega) (by omega) ?_
  refine ⟨_, rfl, ?_⟩
  refine ex_asN (a := a) ha ?_
  refine ex_istore (L' := [some (.ref (16)), some (.int (nI (s))), some (.int (nI (it))), some (.int (nI (m))), some (.int (nI (a)))]) dX7_give_9 (by decide) rfl ?_
  refine ex_aload_n (i := 0) dX7_give_11 rfl rfl ?_
  refine ex_getR (v := .ref (21)) dX7_give_12 fl_States_32 rfl rfl (l56 (by decide)) rfl ?_
  refine ex_iload_n (i := 1) dX7_give_15 rfl rfl ?_
  refine ex_iload_n (i := 2) dX7_give_16 rfl rfl ?_
  refine ex_iload dX7_give_17 rfl ?_
  refine ex_iload_n (i := 3) dX7_give_19 rfl rfl ?_
  refine ex_iorN dX7_give_20 ?_
  refine ex_cV (ν := m_Grid_set) (a := 21) (ci := 2) (as := [.int (nI (s)), .int (nI (it)), .int (nI (a ||| m))]) dX7_give_21 ln_States_82 mf_Grid_set rfl (l56 (by decide)) rfl rfl np_Grid_set rfl rfl ⟨(Nat.le_of_ble_eq_true rfl), (Nat.le_of_ble_eq_true rfl), (Nat.le_of_ble_eq_true rfl), (Nat.le_of_ble_eq_true rfl)⟩ (by decide) ?_
  refine sp_Grid_set (r := 21) (c := 22) rfl rfl rfl (l56 (by decide)) (l56 (by decide)) (sc_21_0 sc) (sc_21_1 sc) rfl (by omega) (by omega) ?_
  refine ⟨_, rfl, ?_⟩
  refine ex_iload dX7_give_24 rfl ?_
  refine ex_iload_n (i := 3) dX7_give_26 rfl rfl ?_
  refine ex_iorN dX7_give_27 ?_
  refine ex_iload dX7_give_28 rfl ?_
  refine ex_icmp_eqN (tgt := 37) dX7_give_30 (by decide) (by omega) (by omega) (fun hx30 => ?_) (fun hx30 => ?_)
  · refine ex_iconst (v := nI 0) dX7_give_37 (by decide) ?_
    refine ex_iret dX7_give_38 rfl (by decide) ?_
    first | (rw [if_pos (by assumption)] at hQ; exact hQ) | (rw [if_neg (by assumption)] at hQ; exact hQ)
  · refine ex_iconst (v := nI 1) dX7_give_33 (by decide) ?_
    refine ex_goto (tgt := 38) dX7_give_34 (by decide) ?_
    refine ex_iret dX7_give_38 rfl (by decide) ?_
    first | (rw [if_pos (by assumption)] at hQ; exact hQ) | (rw [if_neg (by assumption)] at hQ; exact hQ)
end S17
