/-! ===== what ties class and reference between calls ===== -/
section S91
variable {g : Nat} {i : Nat → Nat → Int32} {q : Nat → Nat → Int64} {t : Bool} {Q : xRes → xMem → Prop} {n : Nat} {sy : Nat → Nat → Nat}
theorem sB_Works_go {x y : Int32} {b S : Nat} (sc : SC i) (h7 : i 0 7 = nI b) (hb : b ≤ 1) (h6 : b = 1 → i 16 6 = nI S) (hS : S ≤ 50) (hX0 : b = 0 → Q (.error "java/lang/IllegalStateException") (94, g + 1, i, q, RT t)) (hX1 : ¬ b = 0 → (¬ ∃ s, x = nI s ∧ s < S) ∨ ntX y = 0 → Q (.error "java/lang/IllegalArgumentException") (94, g + 1, i, q, RT t))
    (hQ : ∀ s k, ¬ b = 0 → x = nI s → s < S → y = nI k → 8 ≤ k → k ≤ 13 → Q (.ok (some (.int (i 24 (s * 14 + k))))) (94, g, i, q, RT t)) : Wx m_Works_go 0 [some (.ref 0), some (.int x), some (.int y)] [] (94, g, i, q, RT t) (1, 6) Q := by
  by_cases b0 : b = 0
  · subst b0
    refine ex_aload_n (i := 0) dX9_go_0 rfl rfl ?_
    refine ex_getI dX9_go_1 fl_Works_58 rfl rfl (by decide) ?_
    refine ex_asN (a := 0) h7 ?_
    refine ex_if_neN (tgt := 17) dX9_go_4 (by decide) (by omega) (fun h4 => by exact absurd h4 (by decide)) (fun h4 => ?_)
    refine ex_throw th_Works_go_7 (by decide) ?_
    exact hX0 rfl
  · exact sp_Works_go sc h7 hb (h6 (by omega)) hS hX0 hX1 hQ
theorem sB_Works_action {x y : Int32} {b S : Nat} (sc : SC i) (h7 : i 0 7 = nI b) (hb : b ≤ 1) (h6 : b = 1 → i 16 6 = nI S) (hS : S ≤ 50) (hX0 : b = 0 → Q (.error "java/lang/IllegalStateException") (94, g + 1, i, q, RT t)) (hX1 : ¬ b = 0 → (¬ ∃ s, x = nI s ∧ s < S) ∨ (¬ y = 0 ∧ tmX y = 0) → Q (.error "java/lang/IllegalArgumentException") (94, g + 1, i, q, RT t))
    (hQ : ∀ s k, ¬ b = 0 → x = nI s → s < S → y = nI k → k ≤ 6 → Q (.ok (some (.int (i 26 (s * 7 + k))))) (94, g, i, q, RT t)) : Wx m_Works_action 0 [some (.ref 0), some (.int x), some (.int y)] [] (94, g, i, q, RT t) (1, 6) Q := by
  by_cases b0 : b = 0
  · subst b0
    refine ex_aload_n (i := 0) dX9_action_0 rfl rfl ?_
    refine ex_getI dX9_action_1 fl_Works_58 rfl rfl (by decide) ?_
    refine ex_asN (a := 0) h7 ?_
    refine ex_if_neN (tgt := 17) dX9_action_4 (by decide) (by omega) (fun h4 => by exact absurd h4 (by decide)) (fun h4 => ?_)
    refine ex_throw th_Works_action_7 (by decide) ?_
    exact hX0 rfl
  · exact sp_Works_action sc h7 hb (h6 (by omega)) hS hX0 hX1 hQ
theorem sB_Works_lookaheads {x y : Int32} {b S : Nat} {F : Nat → Nat} (sc : SC i) (gs : GS i n sy) (h7 : i 0 7 = nI b) (hb : b ≤ 1) (h6 : b = 1 → i 16 6 = nI S) (hS : S ≤ 50) (hF : b = 1 → Vw i 22 3750 F) (hF2 : b = 1 → ∀ j, j < 3750 → F j < 256) (hX0 : b = 0 → Q (.error "java/lang/IllegalStateException") (94, g + 1, i, q, RT t)) (hX1 : ¬ b = 0 → (¬ ∃ s, x = nI s ∧ s < S) → Q (.error "java/lang/IllegalArgumentException") (94, g + 1, i, q, RT t))
    (hX2 : ∀ s, ¬ b = 0 → x = nI s → s < S → (¬ ∃ r, y = nI r ∧ r < n) → Q (.error "java/util/NoSuchElementException") (94, g + 1, i, q, RT t)) (hX3 : ∀ s r, ¬ b = 0 → x = nI s → s < S → y = nI r → r < n → F (s * 75 + (r * 5 + lnR sy r)) = 0 → Q (.error "java/util/NoSuchElementException") (94, g + 1, i, q, RT t))
    (hQ : ∀ s r, ¬ b = 0 → x = nI s → s < S → y = nI r → r < n → ¬ F (s * 75 + (r * 5 + lnR sy r)) = 0 → Q (.ok (some (.int (nI (F (s * 75 + (r * 5 + lnR sy r)) &&& 127))))) (94, g, i, q, RT t)) : Wx m_Works_lookaheads 0 [some (.ref 0), some (.int x), some (.int y)] [] (94, g, i, q, RT t) (1, 6) Q := by
  by_cases b0 : b = 0
  · subst b0
    refine ex_aload_n (i := 0) dX9_lookaheads_0 rfl rfl ?_
    refine ex_getI dX9_lookaheads_1 fl_Works_58 rfl rfl (by decide) ?_
    refine ex_asN (a := 0) h7 ?_
    refine ex_if_neN (tgt := 17) dX9_lookaheads_4 (by decide) (by omega) (fun h4 => by exact absurd h4 (by decide)) (fun h4 => ?_)
    refine ex_throw th_Works_lookaheads_7 (by decide) ?_
    exact hX0 rfl
  · exact sp_Works_lookaheads sc gs h7 hb (h6 (by omega)) hS hF hF2 hX0 hX1 hX2 hX3 hQ
theorem sB_Model_go {x y : Int32} {b S : Nat} (h9 : i 56 9 = nI b) (hb : b ≤ 1) (h11 : b = 1 → i 56 11 = nI S) (hS : S ≤ 50) (hX0 : b = 0 → ∀ i1, Fm [] [45] i i1 → i1 56 45 = nI 1 → Q (.ok (some (.int (nI 0)))) (94, g, i1, q, RT t)) (hX1 : ¬ b = 0 → (¬ ∃ s, x = nI s ∧ s < S) ∨ ntX y = 0 → ∀ i1, Fm [] [45] i i1 → i1 56 45 = nI 2 → Q (.ok (some (.int (nI 0)))) (94, g, i1, q, RT t))
    (hQ : ∀ s k, ¬ b = 0 → x = nI s → s < S → y = nI k → 8 ≤ k → k ≤ 13 → ∀ i1, Fm [] [45] i i1 → i1 56 45 = nI 0 → Q (.ok (some (.int (i 67 (14 * s + k))))) (94, g, i1, q, RT t)) : Wx m_Model_go 0 [some (.ref 56), some (.int x), some (.int y)] [] (94, g, i, q, RT t) (0, 0) Q := by
  by_cases b0 : b = 0
  · subst b0
    refine ex_aload_n (i := 0) dX10_go_0 rfl rfl ?_
    refine ex_aload_n (i := 0) dX10_go_1 rfl rfl ?_
    refine ex_getI dX10_go_2 fl_Model_148 rfl rfl (by decide) ?_
    refine ex_asN (a := 0) h9 ?_
    refine ex_iconst (v := nI 1) dX10_go_5 (by decide) ?_
    refine ex_cV (ν := m_Model_good) (a := 56) (ci := 10) (as := [.int (nI (0)), .int (nI (1))]) dX10_go_6 ln_Model_141 mf_Model_good rfl (Nat.le_of_ble_eq_true rfl) rfl rfl np_Model_good rfl rfl ⟨(Nat.le_of_ble_eq_true rfl), (Nat.le_of_ble_eq_true rfl), (Nat.le_of_ble_eq_true rfl), (Nat.le_of_ble_eq_true rfl)⟩ (by decide) ?_
    refine sp_Model_good (b := 0) (by decide) ?_
    refine ⟨_, rfl, ?_⟩
    refine ex_if_eqN (tgt := 50) dX10_go_9 (by decide) (by omega) (fun h9 => ?_) (fun h9 => by exact absurd h9 (by decide))
    refine ex_iconst (v := nI 0) dX10_go_50 (by decide) ?_
    refine ex_iret dX10_go_51 rfl rfl ?_
    exact hX0 rfl _ (Fm.rf.F (by decide)) (cd_at _ _)
  · exact sp_Model_go h9 hb (h11 (by omega)) hS hX0 hX1 hQ
theorem sB_Model_action {x y : Int32} {b S : Nat} (h9 : i 56 9 = nI b) (hb : b ≤ 1) (h11 : b = 1 → i 56 11 = nI S) (hS : S ≤ 50) (hX0 : b = 0 → ∀ i1, Fm [] [45] i i1 → i1 56 45 = nI 1 → Q (.ok (some (.int (nI 0)))) (94, g, i1, q, RT t)) (hX1 : ¬ b = 0 → (¬ ∃ s, x = nI s ∧ s < S) ∨ (¬ ∃ k, y = nI k ∧ k < 7) → ∀ i1, Fm [] [45] i i1 → i1 56 45 = nI 2 → Q (.ok (some (.int (nI 0)))) (94, g, i1, q, RT t))
    (hQ : ∀ s k, ¬ b = 0 → x = nI s → s < S → y = nI k → k < 7 → ∀ i1, Fm [] [45] i i1 → i1 56 45 = nI 0 → Q (.ok (some (.int (i 73 (7 * s + k))))) (94, g, i1, q, RT t)) : Wx m_Model_action 0 [some (.ref 56), some (.int x), some (.int y)] [] (94, g, i, q, RT t) (0, 0) Q := by
  by_cases b0 : b = 0
  · subst b0
    refine ex_aload_n (i := 0) dX10_action_0 rfl rfl ?_
    refine ex_aload_n (i := 0) dX10_action_1 rfl rfl ?_
    refine ex_getI dX10_action_2 fl_Model_148 rfl rfl (by decide) ?_
    refine ex_asN (a := 0) h9 ?_
    refine ex_iconst (v := nI 1) dX10_action_5 (by decide) ?_
    refine ex_cV (ν := m_Model_good) (a := 56) (ci := 10) (as := [.int (nI (0)), .int (nI (1))]) dX10_action_6 ln_Model_141 mf_Model_good rfl (Nat.le_of_ble_eq_true rfl) rfl rfl np_Model_good rfl rfl ⟨(Nat.le_of_ble_eq_true rfl), (Nat.le_of_ble_eq_true rfl), (Nat.le_of_ble_eq_true rfl), (Nat.le_of_ble_eq_true rfl)⟩ (by decide) ?_
    refine sp_Model_good (b := 0) (by decide) ?_
    refine ⟨_, rfl, ?_⟩
    refine ex_if_eqN (tgt := 49) dX10_action_9 (by decide) (by omega) (fun h9 => ?_) (fun h9 => by exact absurd h9 (by decide))
    refine ex_iconst (v := nI 0) dX10_action_49 (by decide) ?_
    refine ex_iret dX10_action_50 rfl rfl ?_
    exact hX0 rfl _ (Fm.rf.F (by decide)) (cd_at _ _)
  · exact sp_Model_action h9 hb (h11 (by omega)) hS hX0 hX1 hQ
theorem sB_Model_lookaheads {x y : Int32} {b S : Nat} {E : Nat → Nat} (rg : RG i n sy) (h9 : i 56 9 = nI b) (hb : b ≤ 1) (h11 : b = 1 → i 56 11 = nI S) (hS : S ≤ 50) (hE : b = 1 → ∀ s r, s < S → r < n → i 65 (75 * s + 5 * r + lnR sy r) = nI (E (75 * s + 5 * r + lnR sy r)) ∧ E (75 * s + 5 * r + lnR sy r) < 2)
    (hX0 : b = 0 → ∀ i1, Fm [] [45] i i1 → i1 56 45 = nI 1 → Q (.ok (some (.int (nI 0)))) (94, g, i1, q, RT t)) (hX1 : ¬ b = 0 → (¬ ∃ s, x = nI s ∧ s < S) → ∀ i1, Fm [] [45] i i1 → i1 56 45 = nI 2 → Q (.ok (some (.int (nI 0)))) (94, g, i1, q, RT t))
    (hX2 : ∀ s, ¬ b = 0 → x = nI s → s < S → (¬ ∃ r, y = nI r ∧ r < n) → ∀ i1, Fm [] [45] i i1 → i1 56 45 = nI 3 → Q (.ok (some (.int (nI 0)))) (94, g, i1, q, RT t))
    (hX3 : ∀ s r, ¬ b = 0 → x = nI s → s < S → y = nI r → r < n → E (75 * s + 5 * r + lnR sy r) = 0 → ∀ i1, Fm [] [45] i i1 → i1 56 45 = nI 3 → Q (.ok (some (.int (nI 0)))) (94, g, i1, q, RT t))
    (hQ : ∀ s r, ¬ b = 0 → x = nI s → s < S → y = nI r → r < n → ¬ E (75 * s + 5 * r + lnR sy r) = 0 → ∀ i1, Fm [] [45] i i1 → i1 56 45 = nI 0 → Q (.ok (some (.int (i 72 (14 * s + r))))) (94, g, i1, q, RT t)) : Wx m_Model_lookaheads 0 [some (.ref 56), some (.int x), some (.int y)] [] (94, g, i, q, RT t) (0, 0) Q := by
  by_cases b0 : b = 0
  · subst b0
    refine ex_aload_n (i := 0) dX10_lookaheads_0 rfl rfl ?_
    refine ex_aload_n (i := 0) dX10_lookaheads_1 rfl rfl ?_
    refine ex_getI dX10_lookaheads_2 fl_Model_148 rfl rfl (by decide) ?_
    refine ex_asN (a := 0) h9 ?_
    refine ex_iconst (v := nI 1) dX10_lookaheads_5 (by decide) ?_
    refine ex_cV (ν := m_Model_good) (a := 56) (ci := 10) (as := [.int (nI (0)), .int (nI (1))]) dX10_lookaheads_6 ln_Model_141 mf_Model_good rfl (Nat.le_of_ble_eq_true rfl) rfl rfl np_Model_good rfl rfl ⟨(Nat.le_of_ble_eq_true rfl), (Nat.le_of_ble_eq_true rfl), (Nat.le_of_ble_eq_true rfl), (Nat.le_of_ble_eq_true rfl)⟩ (by decide) ?_
    refine sp_Model_good (b := 0) (by decide) ?_
    refine ⟨_, rfl, ?_⟩
    refine ex_if_eqN (tgt := 31) dX10_lookaheads_9 (by decide) (by omega) (fun h9 => ?_) (fun h9 => by exact absurd h9 (by decide))
    refine ex_iconst (v := nI 0) dX10_lookaheads_31 (by decide) ?_
    refine ex_iret dX10_lookaheads_32 rfl rfl ?_
    exact hX0 rfl _ (Fm.rf.F (by decide)) (cd_at _ _)
  · exact sp_Model_lookaheads rg h9 hb (h11 (by omega)) hS hE hX0 hX1 hX2 hX3 hQ
end S91
/-- the cells cs and the reference's fields ks are alike -/
def Eqc (cs ks : List Nat) (i i1 : Nat → Nat → Int32) : Prop := (∀ c ∈ cs, i1 c = i c) ∧ ∀ k ∈ ks, i1 56 k = i 56 k
theorem Eqc.of {cs ks l l2 ks2 : List Nat} {i i' i1 : Nat → Nat → Int32} (h1 : Fr l i i') (h2 : Fm l2 ks2 i' i1) (d1 : ∀ c ∈ cs, c ∉ l ∧ c ∉ l2 ∧ c ≠ 56) (d2 : 56 ∉ l) (d3 : ∀ k ∈ ks, k ∉ ks2) : Eqc cs ks i i1 :=
  ⟨fun c hc => (h2.1 c (d1 c hc).2.1 (d1 c hc).2.2).trans (h1 c (d1 c hc).1), fun k hk => (h2.2 k (d3 k hk)).trans (by rw [h1 56 d2])⟩
def IvG (i : Nat → Nat → Int32) (n : Nat) (sy : Nat → Nat → Nat) (f : Nat → Nat) : Prop := GS i n sy ∧ RG i n sy ∧ Vw i 9 14 f ∧ isF n sy f
def IvL (i : Nat → Nat → Int32) (lv kd : Nat → Nat) : Prop := (Vw i 5 7 lv ∧ Vw i 60 7 lv ∧ ∀ s, lv s ≤ 9) ∧ Vw i 7 7 kd ∧ Vw i 61 7 kd ∧ ∀ s, kd s ≤ 2
def IvE (i : Nat → Nat → Int32) (n : Nat) (sy : Nat → Nat → Nat) (op xp yp : Nat → Nat) : Prop := ES i op xp yp ∧ RE i op xp yp ∧ EV n sy op xp yp ∧ EqD op ∧ (∀ j, n * 15 ≤ j → op j = 0) ∧ i 1 8 = nI (ceF op 210)
def IvD (i : Nat → Nat → Int32) (n : Nat) (sy : Nat → Nat → Nat) (op xp yp lv kd : Nat → Nat) (S : Nat) (T : Nat → Nat → Nat) (pr : Nat → Nat → Prop) (F E : Nat → Nat) (fl : Nat) (tr : Nat → Nat) : Prop := 0 < n ∧ TB n sy lv kd i i S T pr F E ∧ (i 27 3 = nI fl ∧ i 56 10 = nI fl ∧ fl < 2) ∧ (fl = 1 ↔ slA n sy op xp yp tr) ∧ clT n sy op xp yp tr
def IvB (i : Nat → Nat → Int32) (n : Nat) (sy : Nat → Nat → Nat) (op xp yp lv kd : Nat → Nat) (b : Nat) : Prop := (i 0 7 = nI b ∧ i 56 9 = nI b ∧ b ≤ 1) ∧ (b = 1 → ∃ S T pr F E fl tr, IvD i n sy op xp yp lv kd S T pr F E fl tr)
def IvT (i : Nat → Nat → Int32) (nt : Nat) : Prop := i 32 6 = nI nt ∧ i 56 27 = nI nt ∧ nt ≤ 40 ∧ ∃ TT : Nat → Nat, ∀ j, j < nt → i 34 j = nI (TT j) ∧ i 77 j = nI (TT j) ∧ 1 ≤ TT j ∧ TT j ≤ 6 ∧ i 36 j = i 78 j
def IvP (i : Nat → Nat → Int32) (q : Nat → Nat → Int64) (t : Bool) (md : Nat) : Prop := md ≤ 150 ∧ i 56 43 = nI md ∧ i (if t then 51 else 46) 2 = nI md ∧ (∀ j k, j < md → k < 4 → i (if t then 53 else 48) (j * 8 + k) = i (86 + k) j) ∧ ∀ s, s < 3 * md → q (if t then 55 else 50) s = q 91 s
def IvM (i : Nat → Nat → Int32) (xs : Nat → Int32) (L : Nat) : Prop := SC i ∧ SBd i ∧ i 0 8 = i 56 44 ∧ i 4096 = xs ∧ i 4097 0 = nI L
theorem IvG.fr {i i1 : Nat → Nat → Int32} {n : Nat} {sy : Nat → Nat → Nat} {f : Nat → Nat} (h : IvG i n sy f) (e : Eqc [3, 9, 57, 58, 59] [3] i i1) (e1 : i1 1 7 = i 1 7) : IvG i1 n sy f := by
  obtain ⟨⟨a1, a2, a3⟩, ⟨b1, b2, b3, b4, b5⟩, c, d⟩ := h
  have c3 := e.1 3 (by decide); have c9 := e.1 9 (by decide); have c57 := e.1 57 (by decide); have c58 := e.1 58 (by decide); have c59 := e.1 59 (by decide); have k3 := e.2 3 (by decide)
  refine ⟨⟨by rw [e1]; exact a1, by rw [c3]; exact a2, a3⟩, ⟨by rw [k3]; exact b1, by rw [c57]; exact b2, by rw [c58]; exact b3, by rw [c59]; exact b4, b5⟩, ?_, d⟩
  intro j hj; rw [c9]; exact c j hj
theorem Vw.eq {i i1 : Nat → Nat → Int32} {c N : Nat} {F : Nat → Nat} (h : Vw i c N F) (e : i1 c = i c) : Vw i1 c N F := fun j hj => by rw [e]; exact h j hj
theorem IvL.fr {i i1 : Nat → Nat → Int32} {lv kd : Nat → Nat} (h : IvL i lv kd) (e : Eqc [5, 7, 60, 61] [] i i1) : IvL i1 lv kd := by
  obtain ⟨⟨a1, a2, a3⟩, b1, b2, b3⟩ := h
  exact ⟨⟨a1.eq (e.1 5 (by decide)), a2.eq (e.1 60 (by decide)), a3⟩, b1.eq (e.1 7 (by decide)), b2.eq (e.1 61 (by decide)), b3⟩
theorem IvE.fr {i i1 : Nat → Nat → Int32} {n : Nat} {sy : Nat → Nat → Nat} {op xp yp : Nat → Nat} (h : IvE i n sy op xp yp) (e : Eqc [11, 13, 15, 62, 63, 64] [] i i1) (e1 : i1 1 8 = i 1 8) : IvE i1 n sy op xp yp := by
  obtain ⟨⟨a1, a2, a3, a4⟩, b, c, d, f, g⟩ := h
  refine ⟨⟨a1.eq (e.1 11 (by decide)), a2.eq (e.1 13 (by decide)), a3.eq (e.1 15 (by decide)), a4⟩, ?_, c, d, f, by rw [e1]; exact g⟩
  intro j hj
  rw [e.1 62 (by decide), e.1 63 (by decide), e.1 64 (by decide)]
  exact b j hj
theorem IvB.fr {i i1 : Nat → Nat → Int32} {n : Nat} {sy : Nat → Nat → Nat} {op xp yp lv kd : Nat → Nat} {b : Nat} (h : IvB i n sy op xp yp lv kd b) (e : Eqc [16, 22, 24, 26, 27, 65, 67, 72, 73] [9, 10, 11, 12] i i1) (e1 : i1 0 7 = i 0 7) : IvB i1 n sy op xp yp lv kd b := by
  obtain ⟨⟨a1, a2, a3⟩, h⟩ := h
  refine ⟨⟨by rw [e1]; exact a1, by rw [e.2 9 (by decide)]; exact a2, a3⟩, fun b1 => ?_⟩
  obtain ⟨S, T, pr, F, E, fl, tr, h1, ⟨t1, ⟨t2, t3⟩, t4, t5, t6, ⟨t7, t8⟩, t9, t10, t11, t12, t13, t14, t15⟩, ⟨f1, f2, f3⟩, h4, h5⟩ := h b1
  refine ⟨S, T, pr, F, E, fl, tr, h1, ⟨t1, ⟨?_, ?_⟩, ?_, ?_, ?_, ⟨t7.eq (e.1 22 (by decide)), t8⟩, ?_, t10, ?_, t12, ?_, ?_, ?_⟩, ⟨?_, ?_, f3⟩, h4, h5⟩
  · rw [e.1 16 (by decide)]; exact t2
  · rw [e.2 11 (by decide)]; exact t3
  · rw [e.1 24 (by decide)]; exact t4
  · rw [e.1 24 (by decide), e.1 67 (by decide)]; exact t5
  · rw [e.1 67 (by decide)]; exact t6
  · rw [e.1 65 (by decide)]; exact t9
  · rw [e.1 72 (by decide)]; exact t11
  · rw [e.1 26 (by decide), e.1 73 (by decide)]; exact t13
  · rw [e.1 16 (by decide)]; exact t14
  · rw [e.2 12 (by decide)]; exact t15
  · rw [e.1 27 (by decide)]; exact f1
  · rw [e.2 10 (by decide)]; exact f2
theorem IvT.fr {i i1 : Nat → Nat → Int32} {nt : Nat} (h : IvT i nt) (e : Eqc [34, 36, 77, 78] [27] i i1) (e1 : i1 32 6 = i 32 6) : IvT i1 nt := by
  obtain ⟨a, b, c, TT, d⟩ := h
  refine ⟨by rw [e1]; exact a, by rw [e.2 27 (by decide)]; exact b, c, TT, ?_⟩
  rw [e.1 34 (by decide), e.1 36 (by decide), e.1 77 (by decide), e.1 78 (by decide)]
  exact d
theorem IvP.fr {i i1 : Nat → Nat → Int32} {q q1 : Nat → Nat → Int64} {t : Bool} {md : Nat} (h : IvP i q t md) (e : Eqc [46, 48, 51, 53, 86, 87, 88, 89] [43] i i1) (e1 : ∀ c, c ∈ [50, 55, 91] → q1 c = q c) : IvP i1 q1 t md := by
  obtain ⟨a, b, c, d, f⟩ := h
  refine ⟨a, by rw [e.2 43 (by decide)]; exact b, ?_, fun j k hj hk => ?_, fun s hs => ?_⟩
  · rw [e.1 _ (by cases t <;> decide)]; exact c
  · rw [e.1 _ (by cases t <;> decide), e.1 (86 + k) (by rcases (show k = 0 ∨ k = 1 ∨ k = 2 ∨ k = 3 by omega) with rfl | rfl | rfl | rfl <;> decide)]; exact d j k hj hk
  · rw [e1 _ (by cases t <;> decide), e1 91 (by decide)]; exact f s hs
theorem IvM.fr {i i1 : Nat → Nat → Int32} {xs : Nat → Int32} {L : Nat} (h : IvM i xs L) (e : Eqc [2, 10, 12, 14, 21, 22, 23, 24, 25, 47, 52, 4096, 4097] [44] i i1) (e1 : i1 0 8 = i 0 8) : IvM i1 xs L := by
  obtain ⟨a, ⟨⟨F, b1, b2⟩, b3⟩, c, d, f⟩ := h
  refine ⟨?_, ⟨⟨F, b1.eq (e.1 22 (by decide)), b2⟩, by rw [e.1 24 (by decide)]; exact b3⟩, by rw [e1, e.2 44 (by decide)]; exact c, by rw [e.1 4096 (by decide)]; exact d, by rw [e.1 4097 (by decide)]; exact f⟩
  unfold SC at a ⊢
  rw [e.1 2 (by decide), e.1 10 (by decide), e.1 12 (by decide), e.1 14 (by decide), e.1 21 (by decide), e.1 23 (by decide), e.1 25 (by decide), e.1 47 (by decide), e.1 52 (by decide)]
  exact a
/-- all of it -/
def IV (xs : Nat → Int32) (L : Nat) (i : Nat → Nat → Int32) (q : Nat → Nat → Int64) (t : Bool) : Prop := ∃ n sy f lv kd op xp yp b nt md, IvG i n sy f ∧ IvL i lv kd ∧ IvE i n sy op xp yp ∧ IvB i n sy op xp yp lv kd b ∧ IvT i nt ∧ IvP i q t md ∧ IvM i xs L
theorem IV.fm {xs : Nat → Int32} {L : Nat} {i i1 : Nat → Nat → Int32} {q q1 : Nat → Nat → Int64} {t : Bool} (h : IV xs L i q t) (e : Fm [68, 69] [45] i i1) (hq : ∀ c, c ≠ 93 → q1 c = q c) : IV xs L i1 q1 t := by
  obtain ⟨n, sy, f, lv, kd, op, xp, yp, b, nt, md, a1, a2, a3, a4, a5, a6, a7⟩ := h
  have r : Fr [] i i := Fr.rf
  have h0 : i1 0 = i 0 := e.1 0 (by decide) (by decide)
  have h1 : i1 1 = i 1 := e.1 1 (by decide) (by decide)
  have h32 : i1 32 = i 32 := e.1 32 (by decide) (by decide)
  exact ⟨n, sy, f, lv, kd, op, xp, yp, b, nt, md, a1.fr (.of r e (by decide) (by decide) (by decide)) (by rw [h1]), a2.fr (.of r e (by decide) (by decide) (by decide)), a3.fr (.of r e (by decide) (by decide) (by decide)) (by rw [h1]), a4.fr (.of r e (by decide) (by decide) (by decide)) (by rw [h0]), a5.fr (.of r e (by decide) (by decide) (by decide)) (by rw [h32]), a6.fr (.of r e (by decide) (by decide) (by decide)) (fun c hc => hq c (by rintro rfl; exact absurd hc (by decide))), a7.fr (.of r e (by decide) (by decide) (by decide)) (by rw [h0])⟩
