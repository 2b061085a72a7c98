/-! ===== the reference: tests, small methods ===== -/
def inX (x lo hi : Int32) : Nat := if lo ≤ x ∧ x ≤ hi then 1 else 0
theorem inX_b (x lo hi : Int32) : inX x lo hi < 2 ^ 31 := by unfold inX; split <;> decide
theorem inX_01 (x lo hi : Int32) : nI (inX x lo hi) = 0 ∨ nI (inX x lo hi) = 1 := by unfold inX; split; exact Or.inr (by decide); exact Or.inl (by decide)
theorem leX {x : Int32} {k : Nat} (hk : k < 2 ^ 31) : x ≤ nI k ↔ x.toInt ≤ (k : Int) := by rw [Int32.le_iff_toInt_le, nI_toInt hk]
theorem geX {x : Int32} {k : Nat} (hk : k < 2 ^ 31) : nI k ≤ x ↔ (k : Int) ≤ x.toInt := by rw [Int32.le_iff_toInt_le, nI_toInt hk]
theorem inX_tm (x : Int32) : inX x (nI 1) (nI 6) = tmX x := by
  unfold inX tmX
  simp only [leX (show 6 < 2 ^ 31 by decide), geX (show 1 < 2 ^ 31 by decide)]; rfl
theorem inX_nt (x : Int32) : inX x (nI 8) (nI 13) = ntX x := by
  unfold inX ntX
  simp only [leX (show 13 < 2 ^ 31 by decide), geX (show 8 < 2 ^ 31 by decide)]; rfl
/-- in a range from 0 on -/
theorem inX_1 {x : Int32} {n : Nat} (hn : n < 4096) (h : ∃ k, x = nI k ∧ k < n) : inX x (nI 0) (nI n - nI 1) = 1 := by
  obtain ⟨k, rfl, hk⟩ := h
  have e : nI n - nI 1 = nI (n - 1) := by
    have : nI n = nI (n - 1) + nI 1 := by rw [nI_add]; congr 1; omega
    rw [this, Int32.add_sub_cancel]
  unfold inX
  rw [e, if_pos ⟨(geX (by decide)).mpr (by rw [nI_toInt (by omega)]; omega), (leX (by omega)).mpr (by rw [nI_toInt (by omega)]; omega)⟩]
theorem inX_0 {x : Int32} {n : Nat} (hn : n < 4096) (h : ¬ ∃ k, x = nI k ∧ k < n) : inX x (nI 0) (nI n - nI 1) = 0 := by
  unfold inX
  by_cases c : nI 0 ≤ x ∧ x ≤ nI n - nI 1
  · exfalso
    obtain ⟨c1, c2⟩ := c
    obtain ⟨k, hk, rfl⟩ := nI_of (x := x) (fun z => by have h1 := (geX (k := 0) (by decide)).mp c1; have := Int32.lt_iff_toInt_lt.mp z; simp at this; omega)
    by_cases n0 : n = 0
    · subst n0
      have : nI 0 - nI 1 = -1 := by decide
      rw [this] at c2
      have := Int32.le_iff_toInt_le.mp c2
      rw [nI_toInt hk] at this
      have e : (-1 : Int32).toInt = -1 := by decide
      omega
    · have e : nI n - nI 1 = nI (n - 1) := by
        have : nI n = nI (n - 1) + nI 1 := by rw [nI_add]; congr 1; omega
        rw [this, Int32.add_sub_cancel]
      rw [e] at c2
      have := (nI_leI hk (by omega)).mp c2
      exact h ⟨k, rfl, by omega⟩
  · rw [if_neg c]
theorem inX_c1 {x : Int32} {n : Nat} (hn : n < 4096) (h : ∃ k, x = nI k ∧ k < n + 1) : inX x (nI 0) (nI n) = 1 := by
  obtain ⟨k, rfl, hk⟩ := h
  unfold inX
  rw [if_pos ⟨(geX (by decide)).mpr (by rw [nI_toInt (by omega)]; omega), (leX (by omega)).mpr (by rw [nI_toInt (by omega)]; omega)⟩]
theorem inX_c0 {x : Int32} {n : Nat} (hn : n < 4096) (h : ¬ ∃ k, x = nI k ∧ k < n + 1) : inX x (nI 0) (nI n) = 0 := by
  unfold inX
  by_cases c : nI 0 ≤ x ∧ x ≤ nI n
  · exfalso
    obtain ⟨k, hk, rfl⟩ := nI_of (x := x) (fun z => by have h1 := (geX (k := 0) (by decide)).mp c.1; have := Int32.lt_iff_toInt_lt.mp z; simp at this; omega)
    have := (nI_leI hk (by omega)).mp c.2
    exact h ⟨k, rfl, by omega⟩
  · rw [if_neg c]
section S56
variable {g : Nat} {i : Nat → Nat → Int32} {q : Nat → Nat → Int64} {t : Bool} {Q : xRes → xMem → Prop} {n : Nat} {sy : Nat → Nat → Nat}
theorem sp_Model_in {x lo hi : Int32} (hQ : Q (.ok (some (.int (nI (inX x lo hi))))) (94, g, i, q, RT t)) : Wx m_Model_in 0 [some (.int x), some (.int lo), some (.int hi)] [] (94, g, i, q, RT t) (0, 0) Q := by
  unfold inX at hQ
  refine ex_iload_n (i := 0) dX10_in_0 rfl rfl ?_
  refine ex_iload_n (i := 1) dX10_in_1 rfl rfl ?_
  refine ex_icmp_lt (tgt := 14) dX10_in_2 (by decide) (fun hx2 => ?_) (fun hx2 => ?_)
  · refine ex_iconst (v := nI 0) dX10_in_14 (by decide) ?_
    refine ex_iret dX10_in_15 rfl (by decide) ?_
    first | (rw [if_pos ⟨Int32.not_lt.mp hx2, Int32.not_lt.mp hx7⟩] at hQ; exact hQ) | (rw [if_neg (fun z => Int32.not_lt.mpr z.1 hx2)] at hQ; exact hQ) | (rw [if_neg (fun z => Int32.not_lt.mpr z.2 hx7)] at hQ; exact hQ)
  · refine ex_iload_n (i := 0) dX10_in_5 rfl rfl ?_
    refine ex_iload_n (i := 2) dX10_in_6 rfl rfl ?_
    refine ex_icmp_gt (tgt := 14) dX10_in_7 (by decide) (fun hx7 => ?_) (fun hx7 => ?_)
    · refine ex_iconst (v := nI 0) dX10_in_14 (by decide) ?_
      refine ex_iret dX10_in_15 rfl (by decide) ?_
      first | (rw [if_pos ⟨Int32.not_lt.mp hx2, Int32.not_lt.mp hx7⟩] at hQ; exact hQ) | (rw [if_neg (fun z => Int32.not_lt.mpr z.1 hx2)] at hQ; exact hQ) | (rw [if_neg (fun z => Int32.not_lt.mpr z.2 hx7)] at hQ; exact hQ)
    · refine ex_iconst (v := nI 1) dX10_in_10 (by decide) ?_
      refine ex_goto (tgt := 15) dX10_in_11 (by decide) ?_
      refine ex_iret dX10_in_15 rfl (by decide) ?_
      first | (rw [if_pos ⟨Int32.not_lt.mp hx2, Int32.not_lt.mp hx7⟩] at hQ; exact hQ) | (rw [if_neg (fun z => Int32.not_lt.mpr z.1 hx2)] at hQ; exact hQ) | (rw [if_neg (fun z => Int32.not_lt.mpr z.2 hx7)] at hQ; exact hQ)
theorem sp_Model_good {b c : Nat} (hb : b < 2) (hQ : Q (.ok (some (.int (nI b)))) (94, g, xU i 56 45 (nI (if b = 0 then c else 0)), q, RT t)) : Wx m_Model_good 0 [some (.ref 56), some (.int (nI b)), some (.int (nI c))] [] (94, g, i, q, RT t) (0, 0) Q := by
  refine ex_aload_n (i := 0) dX10_good_0 rfl rfl ?_
  refine ex_iload_n (i := 1) dX10_good_1 rfl rfl ?_
  refine ex_if_eqN (tgt := 9) dX10_good_2 (by decide) (by omega) (fun h2 => ?_) (fun h2 => ?_)
  · refine ex_iload_n (i := 2) dX10_good_9 rfl rfl ?_
    refine ex_putI dX10_good_10 fl_Model_124 cf_10 rfl (Or.inl rfl) rfl rfl rfl (by decide) ?_
    refine ex_iload_n (i := 1) dX10_good_13 rfl rfl ?_
    refine ex_iret dX10_good_14 rfl (xb_n (by rcases (show b = 0 ∨ b = 1 by omega) with rfl | rfl; exact Or.inl (by decide); exact Or.inr (by decide))) ?_
    first | (rw [if_pos (by omega)] at hQ; exact hQ) | (rw [if_neg (by omega)] at hQ; exact hQ)
  · refine ex_iconst (v := nI 0) dX10_good_5 (by decide) ?_
    refine ex_goto (tgt := 10) dX10_good_6 (by decide) ?_
    refine ex_putI dX10_good_10 fl_Model_124 cf_10 rfl (Or.inl rfl) rfl rfl rfl (by decide) ?_
    refine ex_iload_n (i := 1) dX10_good_13 rfl rfl ?_
    refine ex_iret dX10_good_14 rfl (xb_n (by rcases (show b = 0 ∨ b = 1 by omega) with rfl | rfl; exact Or.inl (by decide); exact Or.inr (by decide))) ?_
    first | (rw [if_pos (by omega)] at hQ; exact hQ) | (rw [if_neg (by omega)] at hQ; exact hQ)
theorem sp_Model_terminal {x : Int32} (hQ : Q (.ok (some (.int (nI (tmX x))))) (94, g, i, q, RT t)) : Wx m_Model_terminal 0 [some (.int x)] [] (94, g, i, q, RT t) (0, 0) Q := by
  refine ex_iload_n (i := 0) dX10_terminal_0 rfl rfl ?_
  refine ex_iconst (v := nI 1) dX10_terminal_1 (by decide) ?_
  refine ex_bipush (v := nI 6) dX10_terminal_2 (by decide) ?_
  refine ex_cS (ν := m_Model_in) (as := [.int (x), .int (nI (1)), .int (nI (6))]) dX10_terminal_4 ln_Model_127 mf_Model_in np_Model_in rfl rfl ⟨(Nat.le_of_ble_eq_true rfl), (Nat.le_of_ble_eq_true rfl), (Nat.le_of_ble_eq_true rfl), (Nat.le_of_ble_eq_true rfl)⟩ (by decide) ?_
  refine sp_Model_in ?_
  refine ⟨_, rfl, ?_⟩
  refine ex_iret dX10_terminal_7 rfl (xb_n (inX_01 _ _ _)) ?_
  rw [inX_tm]; exact hQ
theorem sp_Model_nonterminal {x : Int32} (hQ : Q (.ok (some (.int (nI (ntX x))))) (94, g, i, q, RT t)) : Wx m_Model_nonterminal 0 [some (.int x)] [] (94, g, i, q, RT t) (0, 0) Q := by
  refine ex_iload_n (i := 0) dX10_nonterminal_0 rfl rfl ?_
  refine ex_bipush (v := nI 8) dX10_nonterminal_1 (by decide) ?_
  refine ex_bipush (v := nI 13) dX10_nonterminal_3 (by decide) ?_
  refine ex_cS (ν := m_Model_in) (as := [.int (x), .int (nI (8)), .int (nI (13))]) dX10_nonterminal_5 ln_Model_127 mf_Model_in np_Model_in rfl rfl ⟨(Nat.le_of_ble_eq_true rfl), (Nat.le_of_ble_eq_true rfl), (Nat.le_of_ble_eq_true rfl), (Nat.le_of_ble_eq_true rfl)⟩ (by decide) ?_
  refine sp_Model_in ?_
  refine ⟨_, rfl, ?_⟩
  refine ex_iret dX10_nonterminal_8 rfl (xb_n (inX_01 _ _ _)) ?_
  rw [inX_nt]; exact hQ
theorem sp_Model_isSymbol {x : Int32} (hQ : Q (.ok (some (.int (nI (smX x))))) (94, g, i, q, RT t)) : Wx m_Model_isSymbol 0 [some (.int x)] [] (94, g, i, q, RT t) (0, 0) Q := by
  unfold smX at hQ
  refine ex_iload_n (i := 0) dX10_isSymbol_0 rfl rfl ?_
  refine ex_cS (ν := m_Model_terminal) (as := [.int (x)]) dX10_isSymbol_1 ln_Model_131 mf_Model_terminal np_Model_terminal rfl rfl ⟨(Nat.le_of_ble_eq_true rfl), (Nat.le_of_ble_eq_true rfl), (Nat.le_of_ble_eq_true rfl), (Nat.le_of_ble_eq_true rfl)⟩ (by decide) ?_
  refine sp_Model_terminal ?_
  refine ⟨_, rfl, ?_⟩
  refine ex_if_neN (tgt := 14) dX10_isSymbol_4 (by decide) (tmX_b _) (fun hx4 => ?_) (fun hx4 => ?_)
  · refine ex_iconst (v := nI 1) dX10_isSymbol_14 (by decide) ?_
    refine ex_goto (tgt := 19) dX10_isSymbol_15 (by decide) ?_
    refine ex_iret dX10_isSymbol_19 rfl (by decide) ?_
    first | (rw [if_pos ⟨by omega, by omega⟩] at hQ; exact hQ) | (rw [if_neg (fun z => by omega)] at hQ; exact hQ)
  · refine ex_iload_n (i := 0) dX10_isSymbol_7 rfl rfl ?_
    refine ex_cS (ν := m_Model_nonterminal) (as := [.int (x)]) dX10_isSymbol_8 ln_Model_135 mf_Model_nonterminal np_Model_nonterminal rfl rfl ⟨(Nat.le_of_ble_eq_true rfl), (Nat.le_of_ble_eq_true rfl), (Nat.le_of_ble_eq_true rfl), (Nat.le_of_ble_eq_true rfl)⟩ (by decide) ?_
    refine sp_Model_nonterminal ?_
    refine ⟨_, rfl, ?_⟩
    refine ex_if_eqN (tgt := 18) dX10_isSymbol_11 (by decide) (ntX_b _) (fun hx11 => ?_) (fun hx11 => ?_)
    · refine ex_iconst (v := nI 0) dX10_isSymbol_18 (by decide) ?_
      refine ex_iret dX10_isSymbol_19 rfl (by decide) ?_
      first | (rw [if_pos ⟨by omega, by omega⟩] at hQ; exact hQ) | (rw [if_neg (fun z => by omega)] at hQ; exact hQ)
    · refine ex_iconst (v := nI 1) dX10_isSymbol_14 (by decide) ?_
      refine ex_goto (tgt := 19) dX10_isSymbol_15 (by decide) ?_
      refine ex_iret dX10_isSymbol_19 rfl (by decide) ?_
      first | (rw [if_pos ⟨by omega, by omega⟩] at hQ; exact hQ) | (rw [if_neg (fun z => by omega)] at hQ; exact hQ)
theorem tmX_n {s : Nat} (hs : s < 2 ^ 31) : tmX (nI s) = tmB s := by
  unfold tmX tmB; rw [nI_toInt hs]
  by_cases h : 1 ≤ s ∧ s ≤ 6
  · rw [if_pos (by omega), if_pos h]
  · rw [if_neg (by omega), if_neg h]
theorem ntX_n {s : Nat} (hs : s < 2 ^ 31) : ntX (nI s) = ntB s := by
  unfold ntX ntB; rw [nI_toInt hs]
  by_cases h : 8 ≤ s ∧ s ≤ 13
  · rw [if_pos (by omega), if_pos h]
  · rw [if_neg (by omega), if_neg h]
theorem sp_Model_terminal_N {s : Nat} (hs : s < 2 ^ 31) (hQ : Q (.ok (some (.int (nI (tmB s))))) (94, g, i, q, RT t)) : Wx m_Model_terminal 0 [some (.int (nI s))] [] (94, g, i, q, RT t) (0, 0) Q := sp_Model_terminal (by rw [tmX_n hs]; exact hQ)
theorem sp_Model_nonterminal_N {s : Nat} (hs : s < 2 ^ 31) (hQ : Q (.ok (some (.int (nI (ntB s))))) (94, g, i, q, RT t)) : Wx m_Model_nonterminal 0 [some (.int (nI s))] [] (94, g, i, q, RT t) (0, 0) Q := sp_Model_nonterminal (by rw [ntX_n hs]; exact hQ)
theorem sp_Model_thrown (hQ : Q (.ok (some (.int (i 56 45)))) (94, g, i, q, RT t)) : Wx m_Model_thrown 0 [some (.ref 56)] [] (94, g, i, q, RT t) (0, 0) Q := by
  refine ex_aload_n (i := 0) dX10_thrown_0 rfl rfl ?_
  refine ex_getI dX10_thrown_1 fl_Model_124 rfl rfl (by decide) ?_
  refine ex_iret dX10_thrown_4 rfl rfl ?_
  exact hQ
theorem sp_Model_fault (hQ : Q (.ok (some (.int (xU i 56 45 (nI 0) 56 44)))) (94, g, xU i 56 45 (nI 0), q, RT t)) : Wx m_Model_fault 0 [some (.ref 56)] [] (94, g, i, q, RT t) (0, 0) Q := by
  refine ex_aload_n (i := 0) dX10_fault_0 rfl rfl ?_
  refine ex_iconst (v := nI 0) dX10_fault_1 (by decide) ?_
  refine ex_putI dX10_fault_2 fl_Model_124 cf_10 rfl (Or.inl rfl) rfl rfl rfl (by decide) ?_
  refine ex_aload_n (i := 0) dX10_fault_5 rfl rfl ?_
  refine ex_getI dX10_fault_6 fl_Model_120 rfl rfl (by decide) ?_
  refine ex_asI (y := i (56) (44)) (by first | rfl | simp [xU, upd]) ?_
  refine ex_iret dX10_fault_9 rfl rfl ?_
  exact hQ
/-- the reference's rules -/
def RG (i : Nat → Nat → Int32) (n : Nat) (sy : Nat → Nat → Nat) : Prop := i 56 3 = nI n ∧ (∀ r, r < n → i 57 r = nI (sy r 0)) ∧ (∀ r k, r < n → k < 4 → i 58 (4 * r + k) = nI (sy r (k + 1))) ∧ (∀ r, r < n → i 59 r = nI (lnR sy r)) ∧ GW n sy
/-- .. and its goal -/
def RG14 (i : Nat → Nat → Int32) (sy : Nat → Nat → Nat) : Prop := i 58 (4 * 14 + 0) = nI (sy 14 1) ∧ i 59 14 = nI 1 ∧ lnR sy 14 = 1
/-- only the cells of l and the fields ks of the reference are touched -/
def Fm (l ks : List Nat) (i i1 : Nat → Nat → Int32) : Prop := (∀ c, c ∉ l → c ≠ 56 → i1 c = i c) ∧ ∀ k, k ∉ ks → i1 56 k = i 56 k
theorem Fm.rf {l ks : List Nat} {i : Nat → Nat → Int32} : Fm l ks i i := ⟨fun _ _ _ => rfl, fun _ _ => rfl⟩
theorem Fm.tr {l ks : List Nat} {i i1 i2 : Nat → Nat → Int32} (h : Fm l ks i i1) (h2 : Fm l ks i1 i2) : Fm l ks i i2 := ⟨fun c a b => (h2.1 c a b).trans (h.1 c a b), fun k a => (h2.2 k a).trans (h.2 k a)⟩
theorem Fm.U {l ks : List Nat} {i i1 : Nat → Nat → Int32} {c k : Nat} {x : Int32} (h : Fm l ks i i1) (hc : c ∈ l) (h5 : c ≠ 56) : Fm l ks i (xU i1 c k x) :=
  ⟨fun d a b => (xU_ne _ _ _ (fun e => a (by rw [e]; exact hc))).trans (h.1 d a b), fun j a => by rw [xU_ne _ _ _ (fun e => h5 e.symm)]; exact h.2 j a⟩
theorem Fm.F {l ks : List Nat} {i i1 : Nat → Nat → Int32} {k : Nat} {x : Int32} (h : Fm l ks i i1) (hk : k ∈ ks) : Fm l ks i (xU i1 56 k x) :=
  ⟨fun d a b => (xU_ne _ _ _ b).trans (h.1 d a b), fun j a => by rw [xU_at]; unfold upd; rw [if_neg (fun e => a (by rw [e]; exact hk))]; exact h.2 j a⟩
theorem Fm.mono {l l' ks ks' : List Nat} {i i1 : Nat → Nat → Int32} (h : Fm l ks i i1) (hl : ∀ c ∈ l, c ∈ l') (hk : ∀ k ∈ ks, k ∈ ks') : Fm l' ks' i i1 := ⟨fun c a b => h.1 c (fun e => a (hl c e)) b, fun k a => h.2 k (fun e => a (hk k e))⟩
theorem RG.fm {i i' : Nat → Nat → Int32} {l ks : List Nat} (h : RG i n sy) (hf : Fm l ks i i') (h0 : 3 ∉ ks) (h1 : 57 ∉ l) (h2 : 58 ∉ l) (h3 : 59 ∉ l) : RG i' n sy := by
  obtain ⟨a, b, c, d, e⟩ := h
  exact ⟨by rw [hf.2 3 h0]; exact a, fun r hr => by rw [hf.1 57 h1 (by decide)]; exact b r hr, fun r k hr hk => by rw [hf.1 58 h2 (by decide)]; exact c r k hr hk, fun r hr => by rw [hf.1 59 h3 (by decide)]; exact d r hr, e⟩
theorem RG14.fm {i i' : Nat → Nat → Int32} {l ks : List Nat} (h : RG14 i sy) (hf : Fm l ks i i') (h2 : 58 ∉ l) (h3 : 59 ∉ l) : RG14 i' sy := by
  obtain ⟨a, b, c⟩ := h
  exact ⟨by rw [hf.1 58 h2 (by decide)]; exact a, by rw [hf.1 59 h3 (by decide)]; exact b, c⟩
theorem Vw.fm {i i' : Nat → Nat → Int32} {c N : Nat} {F : Nat → Nat} {l ks : List Nat} (h : Vw i c N F) (hf : Fm l ks i i') (hc : c ∉ l) (h5 : c ≠ 56) : Vw i' c N F := fun j hj => by rw [hf.1 c hc h5]; exact h j hj
theorem lnR_le (sy : Nat → Nat → Nat) (r : Nat) : lnR sy r ≤ 4 := lnS_le _
theorem bh_lt {it : Nat} (h : it % 5 < lnR sy (it / 5)) : bh sy it = sy (it / 5) (it % 5 + 1) := by
  unfold bh
  rw [if_pos (by have := lnR_le sy (it / 5); omega)]
theorem bh_ge {it : Nat} (gw : GW n sy) (hi : it < 75) (h : lnR sy (it / 5) ≤ it % 5) : bh sy it = 0 := by
  unfold bh
  split
  · rename_i h4
    have z := gw.2.2.2.2.1 (it / 5)
    unfold lnR lnS at h
    have h15 : it / 5 < 15 := by omega
    split at h
    · rename_i e; have a := z 1 h15 (by decide) (by decide) e; have b := z 2 h15 (by decide) (by decide) a; have c := z 3 h15 (by decide) (by decide) b
      rcases (show it % 5 = 0 ∨ it % 5 = 1 ∨ it % 5 = 2 ∨ it % 5 = 3 by omega) with q | q | q | q <;> rw [q] <;> assumption
    · split at h
      · rename_i e; have b := z 2 h15 (by decide) (by decide) e; have c := z 3 h15 (by decide) (by decide) b
        rcases (show it % 5 = 1 ∨ it % 5 = 2 ∨ it % 5 = 3 by omega) with q | q | q <;> rw [q] <;> assumption
      · split at h
        · rename_i e; have c := z 3 h15 (by decide) (by decide) e
          rcases (show it % 5 = 2 ∨ it % 5 = 3 by omega) with q | q <;> rw [q] <;> assumption
        · split at h
          · rename_i e
            rcases (show it % 5 = 3 by omega) with q; rw [q]; assumption
          · omega
  · rfl
theorem sp_Model_behind {it : Nat} (rg : RG i n sy) (h14 : RG14 i sy) (hi : it < 75) (hr : it / 5 < n ∨ it / 5 = 14) (hQ : Q (.ok (some (.int (nI (bh sy it))))) (94, g, i, q, RT t)) : Wx m_Model_behind 0 [some (.ref 56), some (.int (nI it)), none, none] [] (94, g, i, q, RT t) (0, 0) Q := by
  have e59 : i 59 (it / 5) = nI (lnR sy (it / 5)) := by
    rcases hr with h | h
    · exact rg.2.2.2.1 _ h
    · rw [h, h14.2.1, h14.2.2]
  have hl := lnR_le sy (it / 5)
  by_cases c : it % 5 < lnR sy (it / 5)
  · have e58 : i 58 (4 * (it / 5) + it % 5) = nI (bh sy it) := by
      rw [bh_lt c]
      rcases hr with h | h
      · exact rg.2.2.1 _ _ h (by omega)
      · rw [h] at c ⊢
        have : it % 5 = 0 := by rw [h14.2.2] at c; omega
        rw [this, h14.1]
    have hn := rg.2.2.2.2.1
    refine ex_iload_n (i := 1) dX10_behind_0 rfl rfl ?_
    refine ex_iconst (v := nI 5) dX10_behind_1 (by decide) ?_
    refine ex_idivN dX10_behind_2 (by omega) (by decide) (by decide) ?_
    refine ex_istore_n (L' := [some (.ref (56)), some (.int (nI (it))), some (.int (nI (it / 5))), none]) dX10_behind_3 (i := 2) rfl (by decide) rfl ?_
    refine ex_iload_n (i := 1) dX10_behind_4 rfl rfl ?_
    refine ex_iconst (v := nI 5) dX10_behind_5 (by decide) ?_
    refine ex_iremN dX10_behind_6 (by omega) (by decide) (by decide) ?_
    refine ex_istore_n (L' := [some (.ref (56)), some (.int (nI (it))), some (.int (nI (it / 5))), some (.int (nI (it % 5)))]) dX10_behind_7 (i := 3) rfl (by decide) rfl ?_
    refine ex_iload_n (i := 3) dX10_behind_8 rfl rfl ?_
    refine ex_aload_n (i := 0) dX10_behind_9 rfl rfl ?_
    refine ex_getR (v := .ref (59)) dX10_behind_10 fl_Model_16 rfl rfl (by decide) rfl ?_
    refine ex_iload_n (i := 2) dX10_behind_13 rfl rfl ?_
    refine ex_ialdN dX10_behind_14 rfl (by decide) (by omega) rfl ?_
    refine ex_asN (a := lnR sy (it / 5)) e59 ?_
    refine ex_icmp_geN (tgt := 31) dX10_behind_15 (by decide) (by omega) (by omega) (fun h15 => by omega) (fun h15 => ?_)
    refine ex_aload_n (i := 0) dX10_behind_18 rfl rfl ?_
    refine ex_getR (v := .ref (58)) dX10_behind_19 fl_Model_13 rfl rfl (by decide) rfl ?_
    refine ex_iconst (v := nI 4) dX10_behind_22 (by decide) ?_
    refine ex_iload_n (i := 2) dX10_behind_23 rfl rfl ?_
    refine ex_imulN dX10_behind_24 ?_
    refine ex_iload_n (i := 3) dX10_behind_25 rfl rfl ?_
    refine ex_iaddN dX10_behind_26 ?_
    refine ex_ialdN dX10_behind_27 rfl (by decide) (by omega) rfl ?_
    refine ex_asN (a := bh sy it) e58 ?_
    refine ex_goto (tgt := 32) dX10_behind_28 (by decide) ?_
    refine ex_iret dX10_behind_32 rfl rfl ?_
    exact hQ
  · have hb := bh_ge rg.2.2.2.2 hi (Nat.le_of_not_lt c)
    rw [hb] at hQ
    refine ex_iload_n (i := 1) dX10_behind_0 rfl rfl ?_
    refine ex_iconst (v := nI 5) dX10_behind_1 (by decide) ?_
    refine ex_idivN dX10_behind_2 (by omega) (by decide) (by decide) ?_
    refine ex_istore_n (L' := [some (.ref (56)), some (.int (nI (it))), some (.int (nI (it / 5))), none]) dX10_behind_3 (i := 2) rfl (by decide) rfl ?_
    refine ex_iload_n (i := 1) dX10_behind_4 rfl rfl ?_
    refine ex_iconst (v := nI 5) dX10_behind_5 (by decide) ?_
    refine ex_iremN dX10_behind_6 (by omega) (by decide) (by decide) ?_
    refine ex_istore_n (L' := [some (.ref (56)), some (.int (nI (it))), some (.int (nI (it / 5))), some (.int (nI (it % 5)))]) dX10_behind_7 (i := 3) rfl (by decide) rfl ?_
    refine ex_iload_n (i := 3) dX10_behind_8 rfl rfl ?_
    refine ex_aload_n (i := 0) dX10_behind_9 rfl rfl ?_
    refine ex_getR (v := .ref (59)) dX10_behind_10 fl_Model_16 rfl rfl (by decide) rfl ?_
    refine ex_iload_n (i := 2) dX10_behind_13 rfl rfl ?_
    refine ex_ialdN dX10_behind_14 rfl (by decide) (by omega) rfl ?_
    refine ex_asN (a := lnR sy (it / 5)) e59 ?_
    refine ex_icmp_geN (tgt := 31) dX10_behind_15 (by decide) (by omega) (by omega) (fun h15 => ?_) (fun h15 => by omega)
    refine ex_iconst (v := nI 0) dX10_behind_31 (by decide) ?_
    refine ex_iret dX10_behind_32 rfl rfl ?_
    exact hQ
end S56
