/-! ===== constructors ===== -/
def iB (i0 : Nat → Nat → Int32) (l : List ((Nat × Nat) × Int32)) : Nat → Nat → Int32 := fun a k => match l.lookup (a, k) with | some v => v | none => i0 a k
def rB (l : List ((Nat × Nat) × Nat)) : Nat → Nat → Value := fun a k => match l.lookup (a, k) with | some v => .ref v | none => .null
theorem lk_cons {β : Type} {l : List ((Nat × Nat) × β)} {a k b j : Nat} {v : β} : List.lookup (b, j) (((a, k), v) :: l) = if b = a ∧ j = k then some v else List.lookup (b, j) l := by
  by_cases h : b = a ∧ j = k
  · obtain ⟨rfl, rfl⟩ := h
    rw [if_pos ⟨rfl, rfl⟩]; simp [List.lookup]
  · rw [if_neg h]
    have : ((b, j) == (a, k)) = false := by
      rw [beq_eq_false_iff_ne]
      intro e; cases e; exact h ⟨rfl, rfl⟩
    simp [List.lookup, this]
theorem iB_U {i0 : Nat → Nat → Int32} {l : List ((Nat × Nat) × Int32)} {a k : Nat} {x : Int32} : xU (iB i0 l) a k x = iB i0 (((a, k), x) :: l) := by
  funext b j
  unfold iB xU
  rw [lk_cons]
  by_cases h : b = a
  · subst h
    unfold upd
    by_cases h2 : j = k
    · subst h2; simp
    · simp [h2]
  · rw [if_neg h, if_neg (fun z => h z.1)]
theorem rB_U {l : List ((Nat × Nat) × Nat)} {a k v : Nat} : xUR (rB l) a k (.ref v) = rB (((a, k), v) :: l) := by
  funext b j
  unfold rB xUR
  rw [lk_cons]
  by_cases h : b = a
  · subst h
    by_cases h2 : j = k
    · subst h2; simp
    · simp [h2]
  · rw [if_neg h, if_neg (fun z => h z.1)]
theorem xZ_B {i0 : Nat → Nat → Int32} {l : List ((Nat × Nat) × Int32)} {n : Nat} (h0 : i0 n = fun _ => 0) (hl : ∀ k, l.lookup (n, k) = none) : xZ (iB i0 l) n = iB i0 l := by
  funext b j
  unfold xZ
  by_cases h : b = n
  · subst h
    rw [if_pos rfl]
    unfold iB
    rw [hl, h0]
  · rw [if_neg h]
theorem xZR_B {l : List ((Nat × Nat) × Nat)} {n : Nat} (hl : ∀ k, l.lookup (n, k) = none) : xZR (rB l) n = rB l := by
  funext b j
  unfold xZR
  by_cases h : b = n
  · subst h
    rw [if_pos rfl]
    unfold rB
    rw [hl]
  · rw [if_neg h]
theorem xZL_q {n : Nat} : xZL q0L n = q0L := by
  funext b j
  unfold xZL q0L
  split <;> rfl
theorem lkN {β : Type} {c : Nat} : ∀ {l : List ((Nat × Nat) × β)}, (l.all fun p => decide (p.1.1 < c)) = true → ∀ a k, c ≤ a → l.lookup (a, k) = none
  | [], _, _, _, _ => rfl
  | ((b, j), v) :: l, h, a, k, hc => by
    rw [List.all_cons, Bool.and_eq_true] at h
    have h1 : b < c := of_decide_eq_true h.1
    rw [lk_cons, if_neg (by omega)]
    exact lkN h.2 a k hc
theorem mx0 {N : Nat} (h : N < 4096) : (if nI 0 < nI N then nI N else nI 0) = nI N := by
  by_cases c : nI 0 < nI N
  · rw [if_pos c]
  · rw [if_neg c]
    have : ¬ 0 < N := fun z => c (by rw [Int32.lt_iff_toInt_lt, nI_toInt (by omega), nI_toInt (by omega)]; omega)
    rw [show N = 0 by omega]
section S88
variable {μ : xMeth} {pc : Nat} {L : xLoc} {st : List Value} {n g : Nat} {i : Nat → Nat → Int32} {q : Nat → Nat → Int64} {r : Nat → Nat → Value} {K : Nat × Nat} {Q : xRes → xMem → Prop}
theorem ex_Kw {M : xMem} {K K' : Nat × Nat} (h : K.1 ≤ K'.1 ∧ K.2 ≤ K'.2) (k : Wx μ pc L st M K Q) : Wx μ pc L st M K' Q := by
  intro p l e s m args below meth c R base b D T CT ST QF hC hF H locs cells slots ls hS hL hc hs
  exact k p l e s m args below meth c R base b D T CT ST QF hC hF H locs cells slots ls hS hL (Nat.le_trans (Nat.add_le_add_left h.1 _) hc) (Nat.le_trans (Nat.add_le_add_left h.2 _) hs)
theorem ex_iB {i0 : Nat → Nat → Int32} {l : List ((Nat × Nat) × Int32)} {a k : Nat} {x : Int32} (h : Wx μ pc L st (n, g, iB i0 (((a, k), x) :: l), q, r) K Q) : Wx μ pc L st (n, g, xU (iB i0 l) a k x, q, r) K Q := by rw [iB_U]; exact h
theorem ex_rB {l : List ((Nat × Nat) × Nat)} {a k v : Nat} (h : Wx μ pc L st (n, g, i, q, rB (((a, k), v) :: l)) K Q) : Wx μ pc L st (n, g, i, q, xUR (rB l) a k (.ref v)) K Q := by rw [rB_U]; exact h
theorem ex_mq {q' : Nat → Nat → Int64} (h : q = q') (k : Wx μ pc L st (n, g, i, q', r) K Q) : Wx μ pc L st (n, g, i, q, r) K Q := by rw [h]; exact k
end S88
section S88b
variable {i0 : Nat → Nat → Int32} {l : List ((Nat × Nat) × Int32)} {rl : List ((Nat × Nat) × Nat)} {Q : xRes → xMem → Prop}
theorem sp_Row_init {a N : Nat} (hs : SHl[a]? = some (.inl 6)) (hs2 : SHl[a + 1]? = some (.inr (0, N))) (hN : N < 4096) (h0 : i0 (a + 1) = fun _ => 0) (hl : ∀ k, l.lookup (a + 1, k) = none) (hQ : Q (.ok none) (a + 2, 0, iB i0 l, q0L, rB (((a, 0), a + 1) :: rl))) : Wx m_Row_init 0 [some (.ref a), some (.int (nI (N)))] [] (a + 1, 0, iB i0 l, q0L, rB rl) (1, N) Q := by
  refine ex_aload_n (i := 0) dX6_init_0 rfl rfl ?_
  refine ex_objInit dX6_init_1 ln_Row_1 wo_2 wo_3 (by decide) ?_
  refine ex_aload_n (i := 0) dX6_init_4 rfl rfl ?_
  refine ex_iconst (v := nI 0) dX6_init_5 (by decide) ?_
  refine ex_iload_n (i := 1) dX6_init_6 rfl rfl ?_
  refine ex_mmax dX6_init_7 ln_Row_7 wm_2 wm_3 wm_4 ⟨(Nat.le_of_ble_eq_true rfl), (Nat.le_of_ble_eq_true rfl), (Nat.le_of_ble_eq_true rfl)⟩ ?_
  refine ex_Kw (K := (0 + 1, 0 + (N))) ⟨Nat.le_refl _, Nat.le_of_eq (Nat.zero_add _)⟩ ?_
  refine ex_newaI (N := (N)) dX6_init_10 wr_int hs2 (mx0 hN) hN ?_
  refine ex_mem (xZ_B h0 (fun k => hl k)) ?_
  refine ex_putR dX6_init_12 fl_Row_13 cf_6 rfl (Or.inr ⟨rfl, rfl, rfl⟩) (fun _ => rfl) (fun _ => rfl) ⟨_, rfl⟩ hs (by first | exact Nat.lt_succ_self _ | exact Nat.lt_of_lt_of_le (Nat.lt_succ_self _) (Nat.le_succ _)) ?_
  refine ex_rB ?_
  refine ex_ret dX6_init_15 rfl ?_
  exact hQ
theorem sp_LongRow_init {a N : Nat} (hs : SHl[a]? = some (.inl 3)) (hs2 : SHl[a + 1]? = some (.inr (2, N))) (hN : N < 4096) (hQ : Q (.ok none) (a + 2, 0, iB i0 l, q0L, rB (((a, 0), a + 1) :: rl))) : Wx m_LongRow_init 0 [some (.ref a), some (.int (nI (N)))] [] (a + 1, 0, iB i0 l, q0L, rB rl) (1, N) Q := by
  refine ex_aload_n (i := 0) dX3_init_0 rfl rfl ?_
  refine ex_objInit dX3_init_1 ln_LongRow_1 wo_2 wo_3 (by decide) ?_
  refine ex_aload_n (i := 0) dX3_init_4 rfl rfl ?_
  refine ex_iconst (v := nI 0) dX3_init_5 (by decide) ?_
  refine ex_iload_n (i := 1) dX3_init_6 rfl rfl ?_
  refine ex_mmax dX3_init_7 ln_LongRow_7 wm_2 wm_3 wm_4 ⟨(Nat.le_of_ble_eq_true rfl), (Nat.le_of_ble_eq_true rfl), (Nat.le_of_ble_eq_true rfl)⟩ ?_
  refine ex_Kw (K := (0 + 1, 0 + (N))) ⟨Nat.le_refl _, Nat.le_of_eq (Nat.zero_add _)⟩ ?_
  refine ex_newaJ (N := (N)) dX3_init_10 wr_long hs2 (mx0 hN) hN ?_
  refine ex_mq xZL_q ?_
  refine ex_putR dX3_init_12 fl_LongRow_13 cf_3 rfl (Or.inr ⟨rfl, rfl, rfl⟩) (fun _ => rfl) (fun _ => rfl) ⟨_, rfl⟩ hs (by first | exact Nat.lt_succ_self _ | exact Nat.lt_of_lt_of_le (Nat.lt_succ_self _) (Nat.le_succ _)) ?_
  refine ex_rB ?_
  refine ex_ret dX3_init_15 rfl ?_
  exact hQ
theorem sp_Grid_init {a R C : Nat} (hs : SHl[a]? = some (.inl 2)) (hs2 : SHl[a + 1]? = some (.inr (0, R * C))) (hN : R * C < 4096) (h0 : i0 (a + 1) = fun _ => 0) (hl : ∀ k, l.lookup (a + 1, k) = none) (hQ : Q (.ok none) (a + 2, 0, iB i0 (((a, 1), nI C) :: ((a, 0), nI R) :: l), q0L, rB (((a, 2), a + 1) :: rl))) : Wx m_Grid_init 0 [some (.ref a), some (.int (nI R)), some (.int (nI C))] [] (a + 1, 0, iB i0 l, q0L, rB rl) (1, R * C) Q := by
  have hl2 : ∀ k, List.lookup (a + 1, k) (((a, 1), nI C) :: ((a, 0), nI R) :: l) = none := fun k => by rw [lk_cons, if_neg (by omega), lk_cons, if_neg (by omega)]; exact hl k
  refine ex_aload_n (i := 0) dX2_init_0 rfl rfl ?_
  refine ex_objInit dX2_init_1 ln_Grid_1 wo_2 wo_3 (by decide) ?_
  refine ex_aload_n (i := 0) dX2_init_4 rfl rfl ?_
  refine ex_iload_n (i := 1) dX2_init_5 rfl rfl ?_
  refine ex_putI dX2_init_6 fl_Grid_7 cf_2 rfl (Or.inr ⟨rfl, rfl, rfl⟩) rfl rfl hs (by first | exact Nat.lt_succ_self _ | exact Nat.lt_of_lt_of_le (Nat.lt_succ_self _) (Nat.le_succ _)) ?_
  refine ex_iB ?_
  refine ex_aload_n (i := 0) dX2_init_9 rfl rfl ?_
  refine ex_iload_n (i := 2) dX2_init_10 rfl rfl ?_
  refine ex_putI dX2_init_11 fl_Grid_13 cf_2 rfl (Or.inr ⟨rfl, rfl, rfl⟩) rfl rfl hs (by first | exact Nat.lt_succ_self _ | exact Nat.lt_of_lt_of_le (Nat.lt_succ_self _) (Nat.le_succ _)) ?_
  refine ex_iB ?_
  refine ex_aload_n (i := 0) dX2_init_14 rfl rfl ?_
  refine ex_iconst (v := nI 0) dX2_init_15 (by decide) ?_
  refine ex_iload_n (i := 1) dX2_init_16 rfl rfl ?_
  refine ex_iload_n (i := 2) dX2_init_17 rfl rfl ?_
  refine ex_imulN dX2_init_18 ?_
  refine ex_mmax dX2_init_19 ln_Grid_16 wm_2 wm_3 wm_4 ⟨(Nat.le_of_ble_eq_true rfl), (Nat.le_of_ble_eq_true rfl), (Nat.le_of_ble_eq_true rfl)⟩ ?_
  refine ex_Kw (K := (0 + 1, 0 + (R * C))) ⟨Nat.le_refl _, Nat.le_of_eq (Nat.zero_add _)⟩ ?_
  refine ex_newaI (N := (R * C)) dX2_init_22 wr_int hs2 (mx0 hN) hN ?_
  refine ex_mem (xZ_B h0 hl2) ?_
  refine ex_putR dX2_init_24 fl_Grid_22 cf_2 rfl (Or.inr ⟨rfl, rfl, rfl⟩) (fun _ => rfl) (fun _ => rfl) ⟨_, rfl⟩ hs (by first | exact Nat.lt_succ_self _ | exact Nat.lt_of_lt_of_le (Nat.lt_succ_self _) (Nat.le_succ _)) ?_
  refine ex_rB ?_
  refine ex_ret dX2_init_27 rfl ?_
  exact hQ
set_option maxRecDepth 20000 in
theorem sp_Grammar_init_1 (h0 : ∀ a, a < 94 → i0 a = fun _ => 0) (hl : ∀ a k, 2 ≤ a → l.lookup (a, k) = none) (hr : ∀ a k, 2 ≤ a → rl.lookup (a, k) = none) (hQ : Q (.ok none) (16, 0, iB i0 ((((1), 8), nI (0)) :: ((((1), 7), nI (0)) :: ((((14), 1), nI (15)) :: ((((14), 0), nI (14)) :: ((((12), 1), nI (15)) :: ((((12), 0), nI (14)) :: ((((10), 1), nI (15)) :: ((((10), 0), nI (14)) :: ((((2), 1), nI (5)) :: ((((2), 0), nI (15)) :: l)))))))))), q0L, rB ((((1), 6), 14) :: ((((14), 2), 15) :: ((((1), 5), 12) :: ((((12), 2), 13) :: ((((1), 4), 10) :: ((((10), 2), 11) :: ((((1), 3), 8) :: ((((8), 0), 9) :: ((((1), 2), 6) :: ((((6), 0), 7) :: ((((1), 1), 4) :: ((((4), 0), 5) :: ((((1), 0), 2) :: ((((2), 2), 3) :: rl)))))))))))))))) : Wx m_Grammar_init 0 [some (.ref 1)] [] (2, 0, iB i0 l, q0L, rB rl) (14, 748) Q := by
  refine ex_aload_n (i := 0) dX1_init_0 rfl rfl ?_
  refine ex_objInit dX1_init_1 ln_Grammar_3 wo_2 wo_3 (by decide) ?_
  refine ex_aload_n (i := 0) dX1_init_4 rfl rfl ?_
  refine ex_Kw (K := (13 + 1, 745 + xNf 2)) ⟨by decide, by decide⟩ ?_
  refine ex_new (ci := 2) dX1_init_5 cf_2 nw_Grammar_9.1 nw_Grammar_9.2.1 nw_Grammar_9.2.2 rfl ?_
  refine ex_mem (xZ_B (h0 2 (by decide)) (fun k => hl 2 k (by decide))) ?_
  refine ex_rr (xZR_B (fun k => hr 2 k (by decide))) ?_
  refine ex_dup dX1_init_8 rfl ?_
  refine ex_bipush (v := nI 15) dX1_init_9 (by decide) ?_
  refine ex_iconst (v := nI 5) dX1_init_11 (by decide) ?_
  refine ex_callI (Kc := (1, 75)) (K := (12, 670)) (a := 2) (ci := 2) (as := [.int (nI (15)), .int (nI (5))]) (Qk := fun v M => v = none ∧ M = (4, 0, iB i0 ((((2), 1), nI (5)) :: ((((2), 0), nI (15)) :: l)), q0L, rB ((((2), 2), 3) :: rl))) dX1_init_12 ln_Grammar_11 mf_Grid_init rfl (Nat.le_of_ble_eq_true rfl) np_Grid_init rfl (Nat.le_of_ble_eq_true rfl) (Nat.le_of_ble_eq_true rfl) ⟨(Nat.le_of_ble_eq_true rfl), (Nat.le_of_ble_eq_true rfl)⟩ (Or.inl (by decide)) ⟨by decide, by decide⟩ (sp_Grid_init rfl rfl (by decide) (h0 3 (by decide)) (fun k => hl 3 k (by decide)) ⟨none, rfl, rfl, rfl⟩) ?_
  rintro _ _ ⟨rfl, rfl⟩
  refine ex_putR dX1_init_15 fl_Grammar_14 cf_1 rfl (Or.inr ⟨rfl, rfl, rfl⟩) (fun _ => rfl) (fun _ => rfl) ⟨_, rfl⟩ rfl (by decide) ?_
  refine ex_rB ?_
  refine ex_aload_n (i := 0) dX1_init_18 rfl rfl ?_
  refine ex_Kw (K := (11 + 1, 669 + xNf 6)) ⟨by decide, by decide⟩ ?_
  refine ex_new (ci := 6) dX1_init_19 cf_6 nw_Grammar_20.1 nw_Grammar_20.2.1 nw_Grammar_20.2.2 rfl ?_
  refine ex_mem (xZ_B (h0 4 (by decide)) (fun k => hl 4 k (by decide))) ?_
  refine ex_rr (xZR_B (fun k => hr 4 k (by decide))) ?_
  refine ex_dup dX1_init_22 rfl ?_
  refine ex_bipush (v := nI 7) dX1_init_23 (by decide) ?_
  refine ex_callI (Kc := (1, 7)) (K := (10, 662)) (a := 4) (ci := 6) (as := [.int (nI (7))]) (Qk := fun v M => v = none ∧ M = (6, 0, iB i0 ((((2), 1), nI (5)) :: ((((2), 0), nI (15)) :: l)), q0L, rB ((((4), 0), 5) :: ((((1), 0), 2) :: ((((2), 2), 3) :: rl))))) dX1_init_25 ln_Grammar_22 mf_Row_init rfl (Nat.le_of_ble_eq_true rfl) np_Row_init rfl (Nat.le_of_ble_eq_true rfl) (Nat.le_of_ble_eq_true rfl) ⟨(Nat.le_of_ble_eq_true rfl), (Nat.le_of_ble_eq_true rfl)⟩ (Or.inl (by decide)) ⟨by decide, by decide⟩ (sp_Row_init rfl rfl (by decide) (h0 5 (by decide)) (fun k => hl 5 k (by decide)) ⟨none, rfl, rfl, rfl⟩) ?_
  rintro _ _ ⟨rfl, rfl⟩
  refine ex_putR dX1_init_28 fl_Grammar_25 cf_1 rfl (Or.inr ⟨rfl, rfl, rfl⟩) (fun _ => rfl) (fun _ => rfl) ⟨_, rfl⟩ rfl (by decide) ?_
  refine ex_rB ?_
  refine ex_aload_n (i := 0) dX1_init_31 rfl rfl ?_
  refine ex_Kw (K := (9 + 1, 661 + xNf 6)) ⟨by decide, by decide⟩ ?_
  refine ex_new (ci := 6) dX1_init_32 cf_6 nw_Grammar_20.1 nw_Grammar_20.2.1 nw_Grammar_20.2.2 rfl ?_
  refine ex_mem (xZ_B (h0 6 (by decide)) (fun k => hl 6 k (by decide))) ?_
  refine ex_rr (xZR_B (fun k => hr 6 k (by decide))) ?_
  refine ex_dup dX1_init_35 rfl ?_
  refine ex_bipush (v := nI 7) dX1_init_36 (by decide) ?_
  refine ex_callI (Kc := (1, 7)) (K := (8, 654)) (a := 6) (ci := 6) (as := [.int (nI (7))]) (Qk := fun v M => v = none ∧ M = (8, 0, iB i0 ((((2), 1), nI (5)) :: ((((2), 0), nI (15)) :: l)), q0L, rB ((((6), 0), 7) :: ((((1), 1), 4) :: ((((4), 0), 5) :: ((((1), 0), 2) :: ((((2), 2), 3) :: rl))))))) dX1_init_38 ln_Grammar_22 mf_Row_init rfl (Nat.le_of_ble_eq_true rfl) np_Row_init rfl (Nat.le_of_ble_eq_true rfl) (Nat.le_of_ble_eq_true rfl) ⟨(Nat.le_of_ble_eq_true rfl), (Nat.le_of_ble_eq_true rfl)⟩ (Or.inl (by decide)) ⟨by decide, by decide⟩ (sp_Row_init rfl rfl (by decide) (h0 7 (by decide)) (fun k => hl 7 k (by decide)) ⟨none, rfl, rfl, rfl⟩) ?_
  rintro _ _ ⟨rfl, rfl⟩
  refine ex_putR dX1_init_41 fl_Grammar_29 cf_1 rfl (Or.inr ⟨rfl, rfl, rfl⟩) (fun _ => rfl) (fun _ => rfl) ⟨_, rfl⟩ rfl (by decide) ?_
  refine ex_rB ?_
  refine ex_aload_n (i := 0) dX1_init_44 rfl rfl ?_
  refine ex_Kw (K := (7 + 1, 653 + xNf 6)) ⟨by decide, by decide⟩ ?_
  refine ex_new (ci := 6) dX1_init_45 cf_6 nw_Grammar_20.1 nw_Grammar_20.2.1 nw_Grammar_20.2.2 rfl ?_
  refine ex_mem (xZ_B (h0 8 (by decide)) (fun k => hl 8 k (by decide))) ?_
  refine ex_rr (xZR_B (fun k => hr 8 k (by decide))) ?_
  refine ex_dup dX1_init_48 rfl ?_
  refine ex_bipush (v := nI 14) dX1_init_49 (by decide) ?_
  refine ex_callI (Kc := (1, 14)) (K := (6, 639)) (a := 8) (ci := 6) (as := [.int (nI (14))]) (Qk := fun v M => v = none ∧ M = (10, 0, iB i0 ((((2), 1), nI (5)) :: ((((2), 0), nI (15)) :: l)), q0L, rB ((((8), 0), 9) :: ((((1), 2), 6) :: ((((6), 0), 7) :: ((((1), 1), 4) :: ((((4), 0), 5) :: ((((1), 0), 2) :: ((((2), 2), 3) :: rl))))))))) dX1_init_51 ln_Grammar_22 mf_Row_init rfl (Nat.le_of_ble_eq_true rfl) np_Row_init rfl (Nat.le_of_ble_eq_true rfl) (Nat.le_of_ble_eq_true rfl) ⟨(Nat.le_of_ble_eq_true rfl), (Nat.le_of_ble_eq_true rfl)⟩ (Or.inl (by decide)) ⟨by decide, by decide⟩ (sp_Row_init rfl rfl (by decide) (h0 9 (by decide)) (fun k => hl 9 k (by decide)) ⟨none, rfl, rfl, rfl⟩) ?_
  rintro _ _ ⟨rfl, rfl⟩
  refine ex_putR dX1_init_54 fl_Grammar_32 cf_1 rfl (Or.inr ⟨rfl, rfl, rfl⟩) (fun _ => rfl) (fun _ => rfl) ⟨_, rfl⟩ rfl (by decide) ?_
  refine ex_rB ?_
  refine ex_aload_n (i := 0) dX1_init_57 rfl rfl ?_
  refine ex_Kw (K := (5 + 1, 636 + xNf 2)) ⟨by decide, by decide⟩ ?_
  refine ex_new (ci := 2) dX1_init_58 cf_2 nw_Grammar_9.1 nw_Grammar_9.2.1 nw_Grammar_9.2.2 rfl ?_
  refine ex_mem (xZ_B (h0 10 (by decide)) (fun k => hl 10 k (by decide))) ?_
  refine ex_rr (xZR_B (fun k => hr 10 k (by decide))) ?_
  refine ex_dup dX1_init_61 rfl ?_
  refine ex_bipush (v := nI 14) dX1_init_62 (by decide) ?_
  refine ex_bipush (v := nI 15) dX1_init_64 (by decide) ?_
  refine ex_callI (Kc := (1, 210)) (K := (4, 426)) (a := 10) (ci := 2) (as := [.int (nI (14)), .int (nI (15))]) (Qk := fun v M => v = none ∧ M = (12, 0, iB i0 ((((10), 1), nI (15)) :: ((((10), 0), nI (14)) :: ((((2), 1), nI (5)) :: ((((2), 0), nI (15)) :: l)))), q0L, rB ((((10), 2), 11) :: ((((1), 3), 8) :: ((((8), 0), 9) :: ((((1), 2), 6) :: ((((6), 0), 7) :: ((((1), 1), 4) :: ((((4), 0), 5) :: ((((1), 0), 2) :: ((((2), 2), 3) :: rl))))))))))) dX1_init_66 ln_Grammar_11 mf_Grid_init rfl (Nat.le_of_ble_eq_true rfl) np_Grid_init rfl (Nat.le_of_ble_eq_true rfl) (Nat.le_of_ble_eq_true rfl) ⟨(Nat.le_of_ble_eq_true rfl), (Nat.le_of_ble_eq_true rfl)⟩ (Or.inl (by decide)) ⟨by decide, by decide⟩ (sp_Grid_init rfl rfl (by decide) (h0 11 (by decide)) (fun k => hl 11 k (by decide)) ⟨none, rfl, rfl, rfl⟩) ?_
  rintro _ _ ⟨rfl, rfl⟩
  refine ex_putR dX1_init_69 fl_Grammar_35 cf_1 rfl (Or.inr ⟨rfl, rfl, rfl⟩) (fun _ => rfl) (fun _ => rfl) ⟨_, rfl⟩ rfl (by decide) ?_
  refine ex_rB ?_
  refine ex_aload_n (i := 0) dX1_init_72 rfl rfl ?_
  refine ex_Kw (K := (3 + 1, 423 + xNf 2)) ⟨by decide, by decide⟩ ?_
  refine ex_new (ci := 2) dX1_init_73 cf_2 nw_Grammar_9.1 nw_Grammar_9.2.1 nw_Grammar_9.2.2 rfl ?_
  refine ex_mem (xZ_B (h0 12 (by decide)) (fun k => hl 12 k (by decide))) ?_
  refine ex_rr (xZR_B (fun k => hr 12 k (by decide))) ?_
  refine ex_dup dX1_init_76 rfl ?_
  refine ex_bipush (v := nI 14) dX1_init_77 (by decide) ?_
  refine ex_bipush (v := nI 15) dX1_init_79 (by decide) ?_
  refine ex_callI (Kc := (1, 210)) (K := (2, 213)) (a := 12) (ci := 2) (as := [.int (nI (14)), .int (nI (15))]) (Qk := fun v M => v = none ∧ M = (14, 0, iB i0 ((((12), 1), nI (15)) :: ((((12), 0), nI (14)) :: ((((10), 1), nI (15)) :: ((((10), 0), nI (14)) :: ((((2), 1), nI (5)) :: ((((2), 0), nI (15)) :: l)))))), q0L, rB ((((12), 2), 13) :: ((((1), 4), 10) :: ((((10), 2), 11) :: ((((1), 3), 8) :: ((((8), 0), 9) :: ((((1), 2), 6) :: ((((6), 0), 7) :: ((((1), 1), 4) :: ((((4), 0), 5) :: ((((1), 0), 2) :: ((((2), 2), 3) :: rl))))))))))))) dX1_init_81 ln_Grammar_11 mf_Grid_init rfl (Nat.le_of_ble_eq_true rfl) np_Grid_init rfl (Nat.le_of_ble_eq_true rfl) (Nat.le_of_ble_eq_true rfl) ⟨(Nat.le_of_ble_eq_true rfl), (Nat.le_of_ble_eq_true rfl)⟩ (Or.inl (by decide)) ⟨by decide, by decide⟩ (sp_Grid_init rfl rfl (by decide) (h0 13 (by decide)) (fun k => hl 13 k (by decide)) ⟨none, rfl, rfl, rfl⟩) ?_
  rintro _ _ ⟨rfl, rfl⟩
  refine ex_putR dX1_init_84 fl_Grammar_38 cf_1 rfl (Or.inr ⟨rfl, rfl, rfl⟩) (fun _ => rfl) (fun _ => rfl) ⟨_, rfl⟩ rfl (by decide) ?_
  refine ex_rB ?_
  refine ex_aload_n (i := 0) dX1_init_87 rfl rfl ?_
  refine ex_Kw (K := (1 + 1, 210 + xNf 2)) ⟨by decide, by decide⟩ ?_
  refine ex_new (ci := 2) dX1_init_88 cf_2 nw_Grammar_9.1 nw_Grammar_9.2.1 nw_Grammar_9.2.2 rfl ?_
  refine ex_mem (xZ_B (h0 14 (by decide)) (fun k => hl 14 k (by decide))) ?_
  refine ex_rr (xZR_B (fun k => hr 14 k (by decide))) ?_
  refine ex_dup dX1_init_91 rfl ?_
  refine ex_bipush (v := nI 14) dX1_init_92 (by decide) ?_
  refine ex_bipush (v := nI 15) dX1_init_94 (by decide) ?_
  refine ex_callI (Kc := (1, 210)) (K := (0, 0)) (a := 14) (ci := 2) (as := [.int (nI (14)), .int (nI (15))]) (Qk := fun v M => v = none ∧ M = (16, 0, iB i0 ((((14), 1), nI (15)) :: ((((14), 0), nI (14)) :: ((((12), 1), nI (15)) :: ((((12), 0), nI (14)) :: ((((10), 1), nI (15)) :: ((((10), 0), nI (14)) :: ((((2), 1), nI (5)) :: ((((2), 0), nI (15)) :: l)))))))), q0L, rB ((((14), 2), 15) :: ((((1), 5), 12) :: ((((12), 2), 13) :: ((((1), 4), 10) :: ((((10), 2), 11) :: ((((1), 3), 8) :: ((((8), 0), 9) :: ((((1), 2), 6) :: ((((6), 0), 7) :: ((((1), 1), 4) :: ((((4), 0), 5) :: ((((1), 0), 2) :: ((((2), 2), 3) :: rl))))))))))))))) dX1_init_96 ln_Grammar_11 mf_Grid_init rfl (Nat.le_of_ble_eq_true rfl) np_Grid_init rfl (Nat.le_of_ble_eq_true rfl) (Nat.le_of_ble_eq_true rfl) ⟨(Nat.le_of_ble_eq_true rfl), (Nat.le_of_ble_eq_true rfl)⟩ (Or.inl (by decide)) ⟨by decide, by decide⟩ (sp_Grid_init rfl rfl (by decide) (h0 15 (by decide)) (fun k => hl 15 k (by decide)) ⟨none, rfl, rfl, rfl⟩) ?_
  rintro _ _ ⟨rfl, rfl⟩
  refine ex_putR dX1_init_99 fl_Grammar_41 cf_1 rfl (Or.inr ⟨rfl, rfl, rfl⟩) (fun _ => rfl) (fun _ => rfl) ⟨_, rfl⟩ rfl (by decide) ?_
  refine ex_rB ?_
  refine ex_aload_n (i := 0) dX1_init_102 rfl rfl ?_
  refine ex_iconst (v := nI 0) dX1_init_103 (by decide) ?_
  refine ex_putI dX1_init_104 fl_Grammar_44 cf_1 rfl (Or.inl rfl) rfl rfl rfl (by decide) ?_
  refine ex_iB ?_
  refine ex_aload_n (i := 0) dX1_init_107 rfl rfl ?_
  refine ex_iconst (v := nI 0) dX1_init_108 (by decide) ?_
  refine ex_putI dX1_init_109 fl_Grammar_48 cf_1 rfl (Or.inl rfl) rfl rfl rfl (by decide) ?_
  refine ex_iB ?_
  refine ex_ret dX1_init_112 rfl ?_
  exact hQ
set_option maxRecDepth 20000 in
theorem sp_States_init_16 (h0 : ∀ a, a < 94 → i0 a = fun _ => 0) (hl : ∀ a k, 17 ≤ a → l.lookup (a, k) = none) (hr : ∀ a k, 17 ≤ a → rl.lookup (a, k) = none) (hQ : Q (.ok none) (27, 0, iB i0 ((((16), 7), nI (0)) :: ((((16), 6), nI (0)) :: ((((25), 1), nI (7)) :: ((((25), 0), nI (50)) :: ((((23), 1), nI (14)) :: ((((23), 0), nI (50)) :: ((((21), 1), nI (75)) :: ((((21), 0), nI (50)) :: l)))))))), q0L, rB ((((16), 5), 25) :: ((((25), 2), 26) :: ((((16), 4), 23) :: ((((23), 2), 24) :: ((((16), 3), 21) :: ((((21), 2), 22) :: ((((16), 2), 19) :: ((((19), 0), 20) :: ((((16), 1), 17) :: ((((17), 0), 18) :: ((((16), 0), 1) :: rl))))))))))))) : Wx m_States_init 0 [some (.ref 16), some (.ref 1)] [] (17, 0, iB i0 l, q0L, rB rl) (10, 4875) Q := by
  refine ex_aload_n (i := 0) dX7_init_0 rfl rfl ?_
  refine ex_objInit dX7_init_1 ln_States_3 wo_2 wo_3 (by decide) ?_
  refine ex_aload_n (i := 0) dX7_init_4 rfl rfl ?_
  refine ex_aload_n (i := 1) dX7_init_5 rfl rfl ?_
  refine ex_putR dX7_init_6 fl_States_9 cf_7 rfl (Or.inr ⟨rfl, rfl, rfl⟩) (fun _ => rfl) (fun _ => rfl) ⟨_, rfl⟩ rfl (by decide) ?_
  refine ex_rB ?_
  refine ex_aload_n (i := 0) dX7_init_9 rfl rfl ?_
  refine ex_Kw (K := (9 + 1, 4874 + xNf 3)) ⟨by decide, by decide⟩ ?_
  refine ex_new (ci := 3) dX7_init_10 cf_3 nw_States_15.1 nw_States_15.2.1 nw_States_15.2.2 rfl ?_
  refine ex_mem (xZ_B (h0 17 (by decide)) (fun k => hl 17 k (by decide))) ?_
  refine ex_rr (xZR_B (fun k => hr 17 k (by decide))) ?_
  refine ex_dup dX7_init_13 rfl ?_
  refine ex_bipush (v := nI 50) dX7_init_14 (by decide) ?_
  refine ex_callI (Kc := (1, 50)) (K := (8, 4824)) (a := 17) (ci := 3) (as := [.int (nI (50))]) (Qk := fun v M => v = none ∧ M = (19, 0, iB i0 l, q0L, rB ((((17), 0), 18) :: ((((16), 0), 1) :: rl)))) dX7_init_16 ln_States_17 mf_LongRow_init rfl (Nat.le_of_ble_eq_true rfl) np_LongRow_init rfl (Nat.le_of_ble_eq_true rfl) (Nat.le_of_ble_eq_true rfl) ⟨(Nat.le_of_ble_eq_true rfl), (Nat.le_of_ble_eq_true rfl)⟩ (Or.inl (by decide)) ⟨by decide, by decide⟩ (sp_LongRow_init rfl rfl (by decide) ⟨none, rfl, rfl, rfl⟩) ?_
  rintro _ _ ⟨rfl, rfl⟩
  refine ex_putR dX7_init_19 fl_States_20 cf_7 rfl (Or.inr ⟨rfl, rfl, rfl⟩) (fun _ => rfl) (fun _ => rfl) ⟨_, rfl⟩ rfl (by decide) ?_
  refine ex_rB ?_
  refine ex_aload_n (i := 0) dX7_init_22 rfl rfl ?_
  refine ex_Kw (K := (7 + 1, 4823 + xNf 3)) ⟨by decide, by decide⟩ ?_
  refine ex_new (ci := 3) dX7_init_23 cf_3 nw_States_15.1 nw_States_15.2.1 nw_States_15.2.2 rfl ?_
  refine ex_mem (xZ_B (h0 19 (by decide)) (fun k => hl 19 k (by decide))) ?_
  refine ex_rr (xZR_B (fun k => hr 19 k (by decide))) ?_
  refine ex_dup dX7_init_26 rfl ?_
  refine ex_bipush (v := nI 14) dX7_init_27 (by decide) ?_
  refine ex_callI (Kc := (1, 14)) (K := (6, 4809)) (a := 19) (ci := 3) (as := [.int (nI (14))]) (Qk := fun v M => v = none ∧ M = (21, 0, iB i0 l, q0L, rB ((((19), 0), 20) :: ((((16), 1), 17) :: ((((17), 0), 18) :: ((((16), 0), 1) :: rl)))))) dX7_init_29 ln_States_17 mf_LongRow_init rfl (Nat.le_of_ble_eq_true rfl) np_LongRow_init rfl (Nat.le_of_ble_eq_true rfl) (Nat.le_of_ble_eq_true rfl) ⟨(Nat.le_of_ble_eq_true rfl), (Nat.le_of_ble_eq_true rfl)⟩ (Or.inl (by decide)) ⟨by decide, by decide⟩ (sp_LongRow_init rfl rfl (by decide) ⟨none, rfl, rfl, rfl⟩) ?_
  rintro _ _ ⟨rfl, rfl⟩
  refine ex_putR dX7_init_32 fl_States_24 cf_7 rfl (Or.inr ⟨rfl, rfl, rfl⟩) (fun _ => rfl) (fun _ => rfl) ⟨_, rfl⟩ rfl (by decide) ?_
  refine ex_rB ?_
  refine ex_aload_n (i := 0) dX7_init_35 rfl rfl ?_
  refine ex_Kw (K := (5 + 1, 4806 + xNf 2)) ⟨by decide, by decide⟩ ?_
  refine ex_new (ci := 2) dX7_init_36 cf_2 nw_States_27.1 nw_States_27.2.1 nw_States_27.2.2 rfl ?_
  refine ex_mem (xZ_B (h0 21 (by decide)) (fun k => hl 21 k (by decide))) ?_
  refine ex_rr (xZR_B (fun k => hr 21 k (by decide))) ?_
  refine ex_dup dX7_init_39 rfl ?_
  refine ex_bipush (v := nI 50) dX7_init_40 (by decide) ?_
  refine ex_bipush (v := nI 75) dX7_init_42 (by decide) ?_
  refine ex_callI (Kc := (1, 3750)) (K := (4, 1056)) (a := 21) (ci := 2) (as := [.int (nI (50)), .int (nI (75))]) (Qk := fun v M => v = none ∧ M = (23, 0, iB i0 ((((21), 1), nI (75)) :: ((((21), 0), nI (50)) :: l)), q0L, rB ((((21), 2), 22) :: ((((16), 2), 19) :: ((((19), 0), 20) :: ((((16), 1), 17) :: ((((17), 0), 18) :: ((((16), 0), 1) :: rl)))))))) dX7_init_44 ln_States_29 mf_Grid_init rfl (Nat.le_of_ble_eq_true rfl) np_Grid_init rfl (Nat.le_of_ble_eq_true rfl) (Nat.le_of_ble_eq_true rfl) ⟨(Nat.le_of_ble_eq_true rfl), (Nat.le_of_ble_eq_true rfl)⟩ (Or.inl (by decide)) ⟨by decide, by decide⟩ (sp_Grid_init rfl rfl (by decide) (h0 22 (by decide)) (fun k => hl 22 k (by decide)) ⟨none, rfl, rfl, rfl⟩) ?_
  rintro _ _ ⟨rfl, rfl⟩
  refine ex_putR dX7_init_47 fl_States_32 cf_7 rfl (Or.inr ⟨rfl, rfl, rfl⟩) (fun _ => rfl) (fun _ => rfl) ⟨_, rfl⟩ rfl (by decide) ?_
  refine ex_rB ?_
  refine ex_aload_n (i := 0) dX7_init_50 rfl rfl ?_
  refine ex_Kw (K := (3 + 1, 1053 + xNf 2)) ⟨by decide, by decide⟩ ?_
  refine ex_new (ci := 2) dX7_init_51 cf_2 nw_States_27.1 nw_States_27.2.1 nw_States_27.2.2 rfl ?_
  refine ex_mem (xZ_B (h0 23 (by decide)) (fun k => hl 23 k (by decide))) ?_
  refine ex_rr (xZR_B (fun k => hr 23 k (by decide))) ?_
  refine ex_dup dX7_init_54 rfl ?_
  refine ex_bipush (v := nI 50) dX7_init_55 (by decide) ?_
  refine ex_bipush (v := nI 14) dX7_init_57 (by decide) ?_
  refine ex_callI (Kc := (1, 700)) (K := (2, 353)) (a := 23) (ci := 2) (as := [.int (nI (50)), .int (nI (14))]) (Qk := fun v M => v = none ∧ M = (25, 0, iB i0 ((((23), 1), nI (14)) :: ((((23), 0), nI (50)) :: ((((21), 1), nI (75)) :: ((((21), 0), nI (50)) :: l)))), q0L, rB ((((23), 2), 24) :: ((((16), 3), 21) :: ((((21), 2), 22) :: ((((16), 2), 19) :: ((((19), 0), 20) :: ((((16), 1), 17) :: ((((17), 0), 18) :: ((((16), 0), 1) :: rl)))))))))) dX7_init_59 ln_States_29 mf_Grid_init rfl (Nat.le_of_ble_eq_true rfl) np_Grid_init rfl (Nat.le_of_ble_eq_true rfl) (Nat.le_of_ble_eq_true rfl) ⟨(Nat.le_of_ble_eq_true rfl), (Nat.le_of_ble_eq_true rfl)⟩ (Or.inl (by decide)) ⟨by decide, by decide⟩ (sp_Grid_init rfl rfl (by decide) (h0 24 (by decide)) (fun k => hl 24 k (by decide)) ⟨none, rfl, rfl, rfl⟩) ?_
  rintro _ _ ⟨rfl, rfl⟩
  refine ex_putR dX7_init_62 fl_States_36 cf_7 rfl (Or.inr ⟨rfl, rfl, rfl⟩) (fun _ => rfl) (fun _ => rfl) ⟨_, rfl⟩ rfl (by decide) ?_
  refine ex_rB ?_
  refine ex_aload_n (i := 0) dX7_init_65 rfl rfl ?_
  refine ex_Kw (K := (1 + 1, 350 + xNf 2)) ⟨by decide, by decide⟩ ?_
  refine ex_new (ci := 2) dX7_init_66 cf_2 nw_States_27.1 nw_States_27.2.1 nw_States_27.2.2 rfl ?_
  refine ex_mem (xZ_B (h0 25 (by decide)) (fun k => hl 25 k (by decide))) ?_
  refine ex_rr (xZR_B (fun k => hr 25 k (by decide))) ?_
  refine ex_dup dX7_init_69 rfl ?_
  refine ex_bipush (v := nI 50) dX7_init_70 (by decide) ?_
  refine ex_bipush (v := nI 7) dX7_init_72 (by decide) ?_
  refine ex_callI (Kc := (1, 350)) (K := (0, 0)) (a := 25) (ci := 2) (as := [.int (nI (50)), .int (nI (7))]) (Qk := fun v M => v = none ∧ M = (27, 0, iB i0 ((((25), 1), nI (7)) :: ((((25), 0), nI (50)) :: ((((23), 1), nI (14)) :: ((((23), 0), nI (50)) :: ((((21), 1), nI (75)) :: ((((21), 0), nI (50)) :: l)))))), q0L, rB ((((25), 2), 26) :: ((((16), 4), 23) :: ((((23), 2), 24) :: ((((16), 3), 21) :: ((((21), 2), 22) :: ((((16), 2), 19) :: ((((19), 0), 20) :: ((((16), 1), 17) :: ((((17), 0), 18) :: ((((16), 0), 1) :: rl)))))))))))) dX7_init_74 ln_States_29 mf_Grid_init rfl (Nat.le_of_ble_eq_true rfl) np_Grid_init rfl (Nat.le_of_ble_eq_true rfl) (Nat.le_of_ble_eq_true rfl) ⟨(Nat.le_of_ble_eq_true rfl), (Nat.le_of_ble_eq_true rfl)⟩ (Or.inl (by decide)) ⟨by decide, by decide⟩ (sp_Grid_init rfl rfl (by decide) (h0 26 (by decide)) (fun k => hl 26 k (by decide)) ⟨none, rfl, rfl, rfl⟩) ?_
  rintro _ _ ⟨rfl, rfl⟩
  refine ex_putR dX7_init_77 fl_States_39 cf_7 rfl (Or.inr ⟨rfl, rfl, rfl⟩) (fun _ => rfl) (fun _ => rfl) ⟨_, rfl⟩ rfl (by decide) ?_
  refine ex_rB ?_
  refine ex_aload_n (i := 0) dX7_init_80 rfl rfl ?_
  refine ex_iconst (v := nI 0) dX7_init_81 (by decide) ?_
  refine ex_putI dX7_init_82 fl_States_42 cf_7 rfl (Or.inl rfl) rfl rfl rfl (by decide) ?_
  refine ex_iB ?_
  refine ex_aload_n (i := 0) dX7_init_85 rfl rfl ?_
  refine ex_iconst (v := nI 0) dX7_init_86 (by decide) ?_
  refine ex_putI dX7_init_87 fl_States_46 cf_7 rfl (Or.inl rfl) rfl rfl rfl (by decide) ?_
  refine ex_iB ?_
  refine ex_ret dX7_init_90 rfl ?_
  exact hQ
set_option maxRecDepth 20000 in
theorem sp_Rings_init_27 (h0 : ∀ a, a < 94 → i0 a = fun _ => 0) (hl : ∀ a k, 28 ≤ a → l.lookup (a, k) = none) (hr : ∀ a k, 28 ≤ a → rl.lookup (a, k) = none) (hQ : Q (.ok none) (32, 0, iB i0 ((((27), 3), nI (0)) :: l), q0L, rB ((((27), 2), 30) :: ((((30), 0), 31) :: ((((27), 1), 28) :: ((((28), 0), 29) :: ((((27), 0), 1) :: rl))))))) : Wx m_Rings_init 0 [some (.ref 27), some (.ref 1)] [] (28, 0, iB i0 l, q0L, rB rl) (4, 31) Q := by
  refine ex_aload_n (i := 0) dX5_init_0 rfl rfl ?_
  refine ex_objInit dX5_init_1 ln_Rings_3 wo_2 wo_3 (by decide) ?_
  refine ex_aload_n (i := 0) dX5_init_4 rfl rfl ?_
  refine ex_aload_n (i := 1) dX5_init_5 rfl rfl ?_
  refine ex_putR dX5_init_6 fl_Rings_9 cf_5 rfl (Or.inr ⟨rfl, rfl, rfl⟩) (fun _ => rfl) (fun _ => rfl) ⟨_, rfl⟩ rfl (by decide) ?_
  refine ex_rB ?_
  refine ex_aload_n (i := 0) dX5_init_9 rfl rfl ?_
  refine ex_Kw (K := (3 + 1, 30 + xNf 6)) ⟨by decide, by decide⟩ ?_
  refine ex_new (ci := 6) dX5_init_10 cf_6 nw_Rings_15.1 nw_Rings_15.2.1 nw_Rings_15.2.2 rfl ?_
  refine ex_mem (xZ_B (h0 28 (by decide)) (fun k => hl 28 k (by decide))) ?_
  refine ex_rr (xZR_B (fun k => hr 28 k (by decide))) ?_
  refine ex_dup dX5_init_13 rfl ?_
  refine ex_bipush (v := nI 14) dX5_init_14 (by decide) ?_
  refine ex_callI (Kc := (1, 14)) (K := (2, 16)) (a := 28) (ci := 6) (as := [.int (nI (14))]) (Qk := fun v M => v = none ∧ M = (30, 0, iB i0 l, q0L, rB ((((28), 0), 29) :: ((((27), 0), 1) :: rl)))) dX5_init_16 ln_Rings_17 mf_Row_init rfl (Nat.le_of_ble_eq_true rfl) np_Row_init rfl (Nat.le_of_ble_eq_true rfl) (Nat.le_of_ble_eq_true rfl) ⟨(Nat.le_of_ble_eq_true rfl), (Nat.le_of_ble_eq_true rfl)⟩ (Or.inl (by decide)) ⟨by decide, by decide⟩ (sp_Row_init rfl rfl (by decide) (h0 29 (by decide)) (fun k => hl 29 k (by decide)) ⟨none, rfl, rfl, rfl⟩) ?_
  rintro _ _ ⟨rfl, rfl⟩
  refine ex_putR dX5_init_19 fl_Rings_20 cf_5 rfl (Or.inr ⟨rfl, rfl, rfl⟩) (fun _ => rfl) (fun _ => rfl) ⟨_, rfl⟩ rfl (by decide) ?_
  refine ex_rB ?_
  refine ex_aload_n (i := 0) dX5_init_22 rfl rfl ?_
  refine ex_Kw (K := (1 + 1, 15 + xNf 6)) ⟨by decide, by decide⟩ ?_
  refine ex_new (ci := 6) dX5_init_23 cf_6 nw_Rings_15.1 nw_Rings_15.2.1 nw_Rings_15.2.2 rfl ?_
  refine ex_mem (xZ_B (h0 30 (by decide)) (fun k => hl 30 k (by decide))) ?_
  refine ex_rr (xZR_B (fun k => hr 30 k (by decide))) ?_
  refine ex_dup dX5_init_26 rfl ?_
  refine ex_bipush (v := nI 15) dX5_init_27 (by decide) ?_
  refine ex_callI (Kc := (1, 15)) (K := (0, 0)) (a := 30) (ci := 6) (as := [.int (nI (15))]) (Qk := fun v M => v = none ∧ M = (32, 0, iB i0 l, q0L, rB ((((30), 0), 31) :: ((((27), 1), 28) :: ((((28), 0), 29) :: ((((27), 0), 1) :: rl)))))) dX5_init_29 ln_Rings_17 mf_Row_init rfl (Nat.le_of_ble_eq_true rfl) np_Row_init rfl (Nat.le_of_ble_eq_true rfl) (Nat.le_of_ble_eq_true rfl) ⟨(Nat.le_of_ble_eq_true rfl), (Nat.le_of_ble_eq_true rfl)⟩ (Or.inl (by decide)) ⟨by decide, by decide⟩ (sp_Row_init rfl rfl (by decide) (h0 31 (by decide)) (fun k => hl 31 k (by decide)) ⟨none, rfl, rfl, rfl⟩) ?_
  rintro _ _ ⟨rfl, rfl⟩
  refine ex_putR dX5_init_32 fl_Rings_24 cf_5 rfl (Or.inr ⟨rfl, rfl, rfl⟩) (fun _ => rfl) (fun _ => rfl) ⟨_, rfl⟩ rfl (by decide) ?_
  refine ex_rB ?_
  refine ex_aload_n (i := 0) dX5_init_35 rfl rfl ?_
  refine ex_iconst (v := nI 0) dX5_init_36 (by decide) ?_
  refine ex_putI dX5_init_37 fl_Rings_27 cf_5 rfl (Or.inl rfl) (by decide) (by decide) rfl (by decide) ?_
  refine ex_iB ?_
  refine ex_ret dX5_init_40 rfl ?_
  exact hQ
set_option maxRecDepth 20000 in
theorem sp_Parser_init_32 (h0 : ∀ a, a < 94 → i0 a = fun _ => 0) (hl : ∀ a k, 33 ≤ a → l.lookup (a, k) = none) (hr : ∀ a k, 33 ≤ a → rl.lookup (a, k) = none) (hQ : Q (.ok none) (41, 0, iB i0 ((((32), 7), nI (0)) :: ((((32), 6), nI (0)) :: l)), q0L, rB ((((32), 5), 39) :: ((((39), 0), 40) :: ((((32), 4), 37) :: ((((37), 0), 38) :: ((((32), 3), 35) :: ((((35), 0), 36) :: ((((32), 2), 33) :: ((((33), 0), 34) :: ((((32), 1), 16) :: ((((32), 0), 1) :: rl)))))))))))) : Wx m_Parser_init 0 [some (.ref 32), some (.ref 1), some (.ref 16)] [] (33, 0, iB i0 l, q0L, rB rl) (8, 386) Q := by
  refine ex_aload_n (i := 0) dX4_init_0 rfl rfl ?_
  refine ex_objInit dX4_init_1 ln_Parser_3 wo_2 wo_3 (by decide) ?_
  refine ex_aload_n (i := 0) dX4_init_4 rfl rfl ?_
  refine ex_aload_n (i := 1) dX4_init_5 rfl rfl ?_
  refine ex_putR dX4_init_6 fl_Parser_9 cf_4 rfl (Or.inr ⟨rfl, rfl, rfl⟩) (fun _ => rfl) (fun _ => rfl) ⟨_, rfl⟩ rfl (by decide) ?_
  refine ex_rB ?_
  refine ex_aload_n (i := 0) dX4_init_9 rfl rfl ?_
  refine ex_aload_n (i := 2) dX4_init_10 rfl rfl ?_
  refine ex_putR dX4_init_11 fl_Parser_15 cf_4 rfl (Or.inr ⟨rfl, rfl, rfl⟩) (fun _ => rfl) (fun _ => rfl) ⟨_, rfl⟩ rfl (by decide) ?_
  refine ex_rB ?_
  refine ex_aload_n (i := 0) dX4_init_14 rfl rfl ?_
  refine ex_Kw (K := (7 + 1, 385 + xNf 6)) ⟨by decide, by decide⟩ ?_
  refine ex_new (ci := 6) dX4_init_15 cf_6 nw_Parser_19.1 nw_Parser_19.2.1 nw_Parser_19.2.2 rfl ?_
  refine ex_mem (xZ_B (h0 33 (by decide)) (fun k => hl 33 k (by decide))) ?_
  refine ex_rr (xZR_B (fun k => hr 33 k (by decide))) ?_
  refine ex_dup dX4_init_18 rfl ?_
  refine ex_bipush (v := nI 40) dX4_init_19 (by decide) ?_
  refine ex_callI (Kc := (1, 40)) (K := (6, 345)) (a := 33) (ci := 6) (as := [.int (nI (40))]) (Qk := fun v M => v = none ∧ M = (35, 0, iB i0 l, q0L, rB ((((33), 0), 34) :: ((((32), 1), 16) :: ((((32), 0), 1) :: rl))))) dX4_init_21 ln_Parser_21 mf_Row_init rfl (Nat.le_of_ble_eq_true rfl) np_Row_init rfl (Nat.le_of_ble_eq_true rfl) (Nat.le_of_ble_eq_true rfl) ⟨(Nat.le_of_ble_eq_true rfl), (Nat.le_of_ble_eq_true rfl)⟩ (Or.inl (by decide)) ⟨by decide, by decide⟩ (sp_Row_init rfl rfl (by decide) (h0 34 (by decide)) (fun k => hl 34 k (by decide)) ⟨none, rfl, rfl, rfl⟩) ?_
  rintro _ _ ⟨rfl, rfl⟩
  refine ex_putR dX4_init_24 fl_Parser_24 cf_4 rfl (Or.inr ⟨rfl, rfl, rfl⟩) (fun _ => rfl) (fun _ => rfl) ⟨_, rfl⟩ rfl (by decide) ?_
  refine ex_rB ?_
  refine ex_aload_n (i := 0) dX4_init_27 rfl rfl ?_
  refine ex_Kw (K := (5 + 1, 344 + xNf 6)) ⟨by decide, by decide⟩ ?_
  refine ex_new (ci := 6) dX4_init_28 cf_6 nw_Parser_19.1 nw_Parser_19.2.1 nw_Parser_19.2.2 rfl ?_
  refine ex_mem (xZ_B (h0 35 (by decide)) (fun k => hl 35 k (by decide))) ?_
  refine ex_rr (xZR_B (fun k => hr 35 k (by decide))) ?_
  refine ex_dup dX4_init_31 rfl ?_
  refine ex_bipush (v := nI 40) dX4_init_32 (by decide) ?_
  refine ex_callI (Kc := (1, 40)) (K := (4, 304)) (a := 35) (ci := 6) (as := [.int (nI (40))]) (Qk := fun v M => v = none ∧ M = (37, 0, iB i0 l, q0L, rB ((((35), 0), 36) :: ((((32), 2), 33) :: ((((33), 0), 34) :: ((((32), 1), 16) :: ((((32), 0), 1) :: rl))))))) dX4_init_34 ln_Parser_21 mf_Row_init rfl (Nat.le_of_ble_eq_true rfl) np_Row_init rfl (Nat.le_of_ble_eq_true rfl) (Nat.le_of_ble_eq_true rfl) ⟨(Nat.le_of_ble_eq_true rfl), (Nat.le_of_ble_eq_true rfl)⟩ (Or.inl (by decide)) ⟨by decide, by decide⟩ (sp_Row_init rfl rfl (by decide) (h0 36 (by decide)) (fun k => hl 36 k (by decide)) ⟨none, rfl, rfl, rfl⟩) ?_
  rintro _ _ ⟨rfl, rfl⟩
  refine ex_putR dX4_init_37 fl_Parser_28 cf_4 rfl (Or.inr ⟨rfl, rfl, rfl⟩) (fun _ => rfl) (fun _ => rfl) ⟨_, rfl⟩ rfl (by decide) ?_
  refine ex_rB ?_
  refine ex_aload_n (i := 0) dX4_init_40 rfl rfl ?_
  refine ex_Kw (K := (3 + 1, 303 + xNf 6)) ⟨by decide, by decide⟩ ?_
  refine ex_new (ci := 6) dX4_init_41 cf_6 nw_Parser_19.1 nw_Parser_19.2.1 nw_Parser_19.2.2 rfl ?_
  refine ex_mem (xZ_B (h0 37 (by decide)) (fun k => hl 37 k (by decide))) ?_
  refine ex_rr (xZR_B (fun k => hr 37 k (by decide))) ?_
  refine ex_dup dX4_init_44 rfl ?_
  refine ex_sipush (v := nI 151) dX4_init_45 (by decide) ?_
  refine ex_callI (Kc := (1, 151)) (K := (2, 152)) (a := 37) (ci := 6) (as := [.int (nI (151))]) (Qk := fun v M => v = none ∧ M = (39, 0, iB i0 l, q0L, rB ((((37), 0), 38) :: ((((32), 3), 35) :: ((((35), 0), 36) :: ((((32), 2), 33) :: ((((33), 0), 34) :: ((((32), 1), 16) :: ((((32), 0), 1) :: rl))))))))) dX4_init_48 ln_Parser_21 mf_Row_init rfl (Nat.le_of_ble_eq_true rfl) np_Row_init rfl (Nat.le_of_ble_eq_true rfl) (Nat.le_of_ble_eq_true rfl) ⟨(Nat.le_of_ble_eq_true rfl), (Nat.le_of_ble_eq_true rfl)⟩ (Or.inl (by decide)) ⟨by decide, by decide⟩ (sp_Row_init rfl rfl (by decide) (h0 38 (by decide)) (fun k => hl 38 k (by decide)) ⟨none, rfl, rfl, rfl⟩) ?_
  rintro _ _ ⟨rfl, rfl⟩
  refine ex_putR dX4_init_51 fl_Parser_31 cf_4 rfl (Or.inr ⟨rfl, rfl, rfl⟩) (fun _ => rfl) (fun _ => rfl) ⟨_, rfl⟩ rfl (by decide) ?_
  refine ex_rB ?_
  refine ex_aload_n (i := 0) dX4_init_54 rfl rfl ?_
  refine ex_Kw (K := (1 + 1, 151 + xNf 6)) ⟨by decide, by decide⟩ ?_
  refine ex_new (ci := 6) dX4_init_55 cf_6 nw_Parser_19.1 nw_Parser_19.2.1 nw_Parser_19.2.2 rfl ?_
  refine ex_mem (xZ_B (h0 39 (by decide)) (fun k => hl 39 k (by decide))) ?_
  refine ex_rr (xZR_B (fun k => hr 39 k (by decide))) ?_
  refine ex_dup dX4_init_58 rfl ?_
  refine ex_sipush (v := nI 151) dX4_init_59 (by decide) ?_
  refine ex_callI (Kc := (1, 151)) (K := (0, 0)) (a := 39) (ci := 6) (as := [.int (nI (151))]) (Qk := fun v M => v = none ∧ M = (41, 0, iB i0 l, q0L, rB ((((39), 0), 40) :: ((((32), 4), 37) :: ((((37), 0), 38) :: ((((32), 3), 35) :: ((((35), 0), 36) :: ((((32), 2), 33) :: ((((33), 0), 34) :: ((((32), 1), 16) :: ((((32), 0), 1) :: rl))))))))))) dX4_init_62 ln_Parser_21 mf_Row_init rfl (Nat.le_of_ble_eq_true rfl) np_Row_init rfl (Nat.le_of_ble_eq_true rfl) (Nat.le_of_ble_eq_true rfl) ⟨(Nat.le_of_ble_eq_true rfl), (Nat.le_of_ble_eq_true rfl)⟩ (Or.inl (by decide)) ⟨by decide, by decide⟩ (sp_Row_init rfl rfl (by decide) (h0 40 (by decide)) (fun k => hl 40 k (by decide)) ⟨none, rfl, rfl, rfl⟩) ?_
  rintro _ _ ⟨rfl, rfl⟩
  refine ex_putR dX4_init_65 fl_Parser_34 cf_4 rfl (Or.inr ⟨rfl, rfl, rfl⟩) (fun _ => rfl) (fun _ => rfl) ⟨_, rfl⟩ rfl (by decide) ?_
  refine ex_rB ?_
  refine ex_aload_n (i := 0) dX4_init_68 rfl rfl ?_
  refine ex_iconst (v := nI 0) dX4_init_69 (by decide) ?_
  refine ex_putI dX4_init_70 fl_Parser_37 cf_4 rfl (Or.inl rfl) rfl rfl rfl (by decide) ?_
  refine ex_iB ?_
  refine ex_aload_n (i := 0) dX4_init_73 rfl rfl ?_
  refine ex_iconst (v := nI 0) dX4_init_74 (by decide) ?_
  refine ex_putI dX4_init_75 fl_Parser_41 cf_4 rfl (Or.inl rfl) rfl rfl rfl (by decide) ?_
  refine ex_iB ?_
  refine ex_ret dX4_init_78 rfl ?_
  exact hQ
set_option maxRecDepth 20000 in
theorem sp_Evaluator_init_41 (h0 : ∀ a, a < 94 → i0 a = fun _ => 0) (hl : ∀ a k, 42 ≤ a → l.lookup (a, k) = none) (hr : ∀ a k, 42 ≤ a → rl.lookup (a, k) = none) (hQ : Q (.ok none) (46, 0, iB i0 l, q0L, rB ((((41), 2), 44) :: ((((44), 0), 45) :: ((((41), 1), 42) :: ((((42), 0), 43) :: ((((41), 0), 1) :: rl))))))) : Wx m_Evaluator_init 0 [some (.ref 41), some (.ref 1)] [] (42, 0, iB i0 l, q0L, rB rl) (4, 902) Q := by
  refine ex_aload_n (i := 0) dX0_init_0 rfl rfl ?_
  refine ex_objInit dX0_init_1 ln_Evaluator_3 wo_2 wo_3 (by decide) ?_
  refine ex_aload_n (i := 0) dX0_init_4 rfl rfl ?_
  refine ex_aload_n (i := 1) dX0_init_5 rfl rfl ?_
  refine ex_putR dX0_init_6 fl_Evaluator_9 cf_0 rfl (Or.inr ⟨rfl, rfl, rfl⟩) (fun _ => rfl) (fun _ => rfl) ⟨_, rfl⟩ rfl (by decide) ?_
  refine ex_rB ?_
  refine ex_aload_n (i := 0) dX0_init_9 rfl rfl ?_
  refine ex_Kw (K := (3 + 1, 901 + xNf 6)) ⟨by decide, by decide⟩ ?_
  refine ex_new (ci := 6) dX0_init_10 cf_6 nw_Evaluator_15.1 nw_Evaluator_15.2.1 nw_Evaluator_15.2.2 rfl ?_
  refine ex_mem (xZ_B (h0 42 (by decide)) (fun k => hl 42 k (by decide))) ?_
  refine ex_rr (xZR_B (fun k => hr 42 k (by decide))) ?_
  refine ex_dup dX0_init_13 rfl ?_
  refine ex_sipush (v := nI 450) dX0_init_14 (by decide) ?_
  refine ex_callI (Kc := (1, 450)) (K := (2, 451)) (a := 42) (ci := 6) (as := [.int (nI (450))]) (Qk := fun v M => v = none ∧ M = (44, 0, iB i0 l, q0L, rB ((((42), 0), 43) :: ((((41), 0), 1) :: rl)))) dX0_init_17 ln_Evaluator_17 mf_Row_init rfl (Nat.le_of_ble_eq_true rfl) np_Row_init rfl (Nat.le_of_ble_eq_true rfl) (Nat.le_of_ble_eq_true rfl) ⟨(Nat.le_of_ble_eq_true rfl), (Nat.le_of_ble_eq_true rfl)⟩ (Or.inl (by decide)) ⟨by decide, by decide⟩ (sp_Row_init rfl rfl (by decide) (h0 43 (by decide)) (fun k => hl 43 k (by decide)) ⟨none, rfl, rfl, rfl⟩) ?_
  rintro _ _ ⟨rfl, rfl⟩
  refine ex_putR dX0_init_20 fl_Evaluator_20 cf_0 rfl (Or.inr ⟨rfl, rfl, rfl⟩) (fun _ => rfl) (fun _ => rfl) ⟨_, rfl⟩ rfl (by decide) ?_
  refine ex_rB ?_
  refine ex_aload_n (i := 0) dX0_init_23 rfl rfl ?_
  refine ex_Kw (K := (1 + 1, 450 + xNf 6)) ⟨by decide, by decide⟩ ?_
  refine ex_new (ci := 6) dX0_init_24 cf_6 nw_Evaluator_15.1 nw_Evaluator_15.2.1 nw_Evaluator_15.2.2 rfl ?_
  refine ex_mem (xZ_B (h0 44 (by decide)) (fun k => hl 44 k (by decide))) ?_
  refine ex_rr (xZR_B (fun k => hr 44 k (by decide))) ?_
  refine ex_dup dX0_init_27 rfl ?_
  refine ex_sipush (v := nI 450) dX0_init_28 (by decide) ?_
  refine ex_callI (Kc := (1, 450)) (K := (0, 0)) (a := 44) (ci := 6) (as := [.int (nI (450))]) (Qk := fun v M => v = none ∧ M = (46, 0, iB i0 l, q0L, rB ((((44), 0), 45) :: ((((41), 1), 42) :: ((((42), 0), 43) :: ((((41), 0), 1) :: rl)))))) dX0_init_31 ln_Evaluator_17 mf_Row_init rfl (Nat.le_of_ble_eq_true rfl) np_Row_init rfl (Nat.le_of_ble_eq_true rfl) (Nat.le_of_ble_eq_true rfl) ⟨(Nat.le_of_ble_eq_true rfl), (Nat.le_of_ble_eq_true rfl)⟩ (Or.inl (by decide)) ⟨by decide, by decide⟩ (sp_Row_init rfl rfl (by decide) (h0 45 (by decide)) (fun k => hl 45 k (by decide)) ⟨none, rfl, rfl, rfl⟩) ?_
  rintro _ _ ⟨rfl, rfl⟩
  refine ex_putR dX0_init_34 fl_Evaluator_24 cf_0 rfl (Or.inr ⟨rfl, rfl, rfl⟩) (fun _ => rfl) (fun _ => rfl) ⟨_, rfl⟩ rfl (by decide) ?_
  refine ex_rB ?_
  refine ex_ret dX0_init_37 rfl ?_
  exact hQ
set_option maxRecDepth 20000 in
theorem sp_Tree_init_46 (h0 : ∀ a, a < 94 → i0 a = fun _ => 0) (hl : ∀ a k, 47 ≤ a → l.lookup (a, k) = none) (hr : ∀ a k, 47 ≤ a → rl.lookup (a, k) = none) (hQ : Q (.ok none) (51, 0, iB i0 ((((46), 2), nI (0)) :: ((((47), 1), nI (8)) :: ((((47), 0), nI (150)) :: l))), q0L, rB ((((46), 1), 49) :: ((((49), 0), 50) :: ((((46), 0), 47) :: ((((47), 2), 48) :: rl)))))) : Wx m_Tree_init 0 [some (.ref 46)] [] (47, 0, iB i0 l, q0L, rB rl) (4, 1654) Q := by
  refine ex_aload_n (i := 0) dX8_init_0 rfl rfl ?_
  refine ex_objInit dX8_init_1 ln_Tree_3 wo_2 wo_3 (by decide) ?_
  refine ex_aload_n (i := 0) dX8_init_4 rfl rfl ?_
  refine ex_Kw (K := (3 + 1, 1651 + xNf 2)) ⟨by decide, by decide⟩ ?_
  refine ex_new (ci := 2) dX8_init_5 cf_2 nw_Tree_9.1 nw_Tree_9.2.1 nw_Tree_9.2.2 rfl ?_
  refine ex_mem (xZ_B (h0 47 (by decide)) (fun k => hl 47 k (by decide))) ?_
  refine ex_rr (xZR_B (fun k => hr 47 k (by decide))) ?_
  refine ex_dup dX8_init_8 rfl ?_
  refine ex_sipush (v := nI 150) dX8_init_9 (by decide) ?_
  refine ex_bipush (v := nI 8) dX8_init_12 (by decide) ?_
  refine ex_callI (Kc := (1, 1200)) (K := (2, 451)) (a := 47) (ci := 2) (as := [.int (nI (150)), .int (nI (8))]) (Qk := fun v M => v = none ∧ M = (49, 0, iB i0 ((((47), 1), nI (8)) :: ((((47), 0), nI (150)) :: l)), q0L, rB ((((47), 2), 48) :: rl))) dX8_init_14 ln_Tree_11 mf_Grid_init rfl (Nat.le_of_ble_eq_true rfl) np_Grid_init rfl (Nat.le_of_ble_eq_true rfl) (Nat.le_of_ble_eq_true rfl) ⟨(Nat.le_of_ble_eq_true rfl), (Nat.le_of_ble_eq_true rfl)⟩ (Or.inl (by decide)) ⟨by decide, by decide⟩ (sp_Grid_init rfl rfl (by decide) (h0 48 (by decide)) (fun k => hl 48 k (by decide)) ⟨none, rfl, rfl, rfl⟩) ?_
  rintro _ _ ⟨rfl, rfl⟩
  refine ex_putR dX8_init_17 fl_Tree_14 cf_8 rfl (Or.inr ⟨rfl, rfl, rfl⟩) (fun _ => rfl) (fun _ => rfl) ⟨_, rfl⟩ rfl (by decide) ?_
  refine ex_rB ?_
  refine ex_aload_n (i := 0) dX8_init_20 rfl rfl ?_
  refine ex_Kw (K := (1 + 1, 450 + xNf 3)) ⟨by decide, by decide⟩ ?_
  refine ex_new (ci := 3) dX8_init_21 cf_3 nw_Tree_20.1 nw_Tree_20.2.1 nw_Tree_20.2.2 rfl ?_
  refine ex_mem (xZ_B (h0 49 (by decide)) (fun k => hl 49 k (by decide))) ?_
  refine ex_rr (xZR_B (fun k => hr 49 k (by decide))) ?_
  refine ex_dup dX8_init_24 rfl ?_
  refine ex_sipush (v := nI 450) dX8_init_25 (by decide) ?_
  refine ex_callI (Kc := (1, 450)) (K := (0, 0)) (a := 49) (ci := 3) (as := [.int (nI (450))]) (Qk := fun v M => v = none ∧ M = (51, 0, iB i0 ((((47), 1), nI (8)) :: ((((47), 0), nI (150)) :: l)), q0L, rB ((((49), 0), 50) :: ((((46), 0), 47) :: ((((47), 2), 48) :: rl))))) dX8_init_28 ln_Tree_22 mf_LongRow_init rfl (Nat.le_of_ble_eq_true rfl) np_LongRow_init rfl (Nat.le_of_ble_eq_true rfl) (Nat.le_of_ble_eq_true rfl) ⟨(Nat.le_of_ble_eq_true rfl), (Nat.le_of_ble_eq_true rfl)⟩ (Or.inl (by decide)) ⟨by decide, by decide⟩ (sp_LongRow_init rfl rfl (by decide) ⟨none, rfl, rfl, rfl⟩) ?_
  rintro _ _ ⟨rfl, rfl⟩
  refine ex_putR dX8_init_31 fl_Tree_25 cf_8 rfl (Or.inr ⟨rfl, rfl, rfl⟩) (fun _ => rfl) (fun _ => rfl) ⟨_, rfl⟩ rfl (by decide) ?_
  refine ex_rB ?_
  refine ex_aload_n (i := 0) dX8_init_34 rfl rfl ?_
  refine ex_iconst (v := nI 0) dX8_init_35 (by decide) ?_
  refine ex_putI dX8_init_36 fl_Tree_29 cf_8 rfl (Or.inl rfl) rfl rfl rfl (by decide) ?_
  refine ex_iB ?_
  refine ex_ret dX8_init_39 rfl ?_
  exact hQ
set_option maxRecDepth 20000 in
theorem sp_Tree_init_51 (h0 : ∀ a, a < 94 → i0 a = fun _ => 0) (hl : ∀ a k, 52 ≤ a → l.lookup (a, k) = none) (hr : ∀ a k, 52 ≤ a → rl.lookup (a, k) = none) (hQ : Q (.ok none) (56, 0, iB i0 ((((51), 2), nI (0)) :: ((((52), 1), nI (8)) :: ((((52), 0), nI (150)) :: l))), q0L, rB ((((51), 1), 54) :: ((((54), 0), 55) :: ((((51), 0), 52) :: ((((52), 2), 53) :: rl)))))) : Wx m_Tree_init 0 [some (.ref 51)] [] (52, 0, iB i0 l, q0L, rB rl) (4, 1654) Q := by
  refine ex_aload_n (i := 0) dX8_init_0 rfl rfl ?_
  refine ex_objInit dX8_init_1 ln_Tree_3 wo_2 wo_3 (by decide) ?_
  refine ex_aload_n (i := 0) dX8_init_4 rfl rfl ?_
  refine ex_Kw (K := (3 + 1, 1651 + xNf 2)) ⟨by decide, by decide⟩ ?_
  refine ex_new (ci := 2) dX8_init_5 cf_2 nw_Tree_9.1 nw_Tree_9.2.1 nw_Tree_9.2.2 rfl ?_
  refine ex_mem (xZ_B (h0 52 (by decide)) (fun k => hl 52 k (by decide))) ?_
  refine ex_rr (xZR_B (fun k => hr 52 k (by decide))) ?_
  refine ex_dup dX8_init_8 rfl ?_
  refine ex_sipush (v := nI 150) dX8_init_9 (by decide) ?_
  refine ex_bipush (v := nI 8) dX8_init_12 (by decide) ?_
  refine ex_callI (Kc := (1, 1200)) (K := (2, 451)) (a := 52) (ci := 2) (as := [.int (nI (150)), .int (nI (8))]) (Qk := fun v M => v = none ∧ M = (54, 0, iB i0 ((((52), 1), nI (8)) :: ((((52), 0), nI (150)) :: l)), q0L, rB ((((52), 2), 53) :: rl))) dX8_init_14 ln_Tree_11 mf_Grid_init rfl (Nat.le_of_ble_eq_true rfl) np_Grid_init rfl (Nat.le_of_ble_eq_true rfl) (Nat.le_of_ble_eq_true rfl) ⟨(Nat.le_of_ble_eq_true rfl), (Nat.le_of_ble_eq_true rfl)⟩ (Or.inl (by decide)) ⟨by decide, by decide⟩ (sp_Grid_init rfl rfl (by decide) (h0 53 (by decide)) (fun k => hl 53 k (by decide)) ⟨none, rfl, rfl, rfl⟩) ?_
  rintro _ _ ⟨rfl, rfl⟩
  refine ex_putR dX8_init_17 fl_Tree_14 cf_8 rfl (Or.inr ⟨rfl, rfl, rfl⟩) (fun _ => rfl) (fun _ => rfl) ⟨_, rfl⟩ rfl (by decide) ?_
  refine ex_rB ?_
  refine ex_aload_n (i := 0) dX8_init_20 rfl rfl ?_
  refine ex_Kw (K := (1 + 1, 450 + xNf 3)) ⟨by decide, by decide⟩ ?_
  refine ex_new (ci := 3) dX8_init_21 cf_3 nw_Tree_20.1 nw_Tree_20.2.1 nw_Tree_20.2.2 rfl ?_
  refine ex_mem (xZ_B (h0 54 (by decide)) (fun k => hl 54 k (by decide))) ?_
  refine ex_rr (xZR_B (fun k => hr 54 k (by decide))) ?_
  refine ex_dup dX8_init_24 rfl ?_
  refine ex_sipush (v := nI 450) dX8_init_25 (by decide) ?_
  refine ex_callI (Kc := (1, 450)) (K := (0, 0)) (a := 54) (ci := 3) (as := [.int (nI (450))]) (Qk := fun v M => v = none ∧ M = (56, 0, iB i0 ((((52), 1), nI (8)) :: ((((52), 0), nI (150)) :: l)), q0L, rB ((((54), 0), 55) :: ((((51), 0), 52) :: ((((52), 2), 53) :: rl))))) dX8_init_28 ln_Tree_22 mf_LongRow_init rfl (Nat.le_of_ble_eq_true rfl) np_LongRow_init rfl (Nat.le_of_ble_eq_true rfl) (Nat.le_of_ble_eq_true rfl) ⟨(Nat.le_of_ble_eq_true rfl), (Nat.le_of_ble_eq_true rfl)⟩ (Or.inl (by decide)) ⟨by decide, by decide⟩ (sp_LongRow_init rfl rfl (by decide) ⟨none, rfl, rfl, rfl⟩) ?_
  rintro _ _ ⟨rfl, rfl⟩
  refine ex_putR dX8_init_31 fl_Tree_25 cf_8 rfl (Or.inr ⟨rfl, rfl, rfl⟩) (fun _ => rfl) (fun _ => rfl) ⟨_, rfl⟩ rfl (by decide) ?_
  refine ex_rB ?_
  refine ex_aload_n (i := 0) dX8_init_34 rfl rfl ?_
  refine ex_iconst (v := nI 0) dX8_init_35 (by decide) ?_
  refine ex_putI dX8_init_36 fl_Tree_29 cf_8 rfl (Or.inl rfl) rfl rfl rfl (by decide) ?_
  refine ex_iB ?_
  refine ex_ret dX8_init_39 rfl ?_
  exact hQ
set_option maxRecDepth 20000 in
theorem sp_Works_init_0 (h0 : ∀ a, a < 94 → i0 a = fun _ => 0) (hQ : Q (.ok none) (56, 0, iB i0 ((((0), 8), (-1)) :: ((((0), 7), nI (0)) :: ((((51), 2), nI (0)) :: ((((52), 1), nI (8)) :: ((((52), 0), nI (150)) :: ((((46), 2), nI (0)) :: ((((47), 1), nI (8)) :: ((((47), 0), nI (150)) :: ((((32), 7), nI (0)) :: ((((32), 6), nI (0)) :: ((((27), 3), nI (0)) :: ((((16), 7), nI (0)) :: ((((16), 6), nI (0)) :: ((((25), 1), nI (7)) :: ((((25), 0), nI (50)) :: ((((23), 1), nI (14)) :: ((((23), 0), nI (50)) :: ((((21), 1), nI (75)) :: ((((21), 0), nI (50)) :: ((((1), 8), nI (0)) :: ((((1), 7), nI (0)) :: ((((14), 1), nI (15)) :: ((((14), 0), nI (14)) :: ((((12), 1), nI (15)) :: ((((12), 0), nI (14)) :: ((((10), 1), nI (15)) :: ((((10), 0), nI (14)) :: ((((2), 1), nI (5)) :: ((((2), 0), nI (15)) :: []))))))))))))))))))))))))))))), q0L, rB ((((0), 6), 51) :: ((((51), 1), 54) :: ((((54), 0), 55) :: ((((51), 0), 52) :: ((((52), 2), 53) :: ((((0), 5), 46) :: ((((46), 1), 49) :: ((((49), 0), 50) :: ((((46), 0), 47) :: ((((47), 2), 48) :: ((((0), 4), 41) :: ((((41), 2), 44) :: ((((44), 0), 45) :: ((((41), 1), 42) :: ((((42), 0), 43) :: ((((41), 0), 1) :: ((((0), 3), 32) :: ((((32), 5), 39) :: ((((39), 0), 40) :: ((((32), 4), 37) :: ((((37), 0), 38) :: ((((32), 3), 35) :: ((((35), 0), 36) :: ((((32), 2), 33) :: ((((33), 0), 34) :: ((((32), 1), 16) :: ((((32), 0), 1) :: ((((0), 2), 27) :: ((((27), 2), 30) :: ((((30), 0), 31) :: ((((27), 1), 28) :: ((((28), 0), 29) :: ((((27), 0), 1) :: ((((0), 1), 16) :: ((((16), 5), 25) :: ((((25), 2), 26) :: ((((16), 4), 23) :: ((((23), 2), 24) :: ((((16), 3), 21) :: ((((21), 2), 22) :: ((((16), 2), 19) :: ((((19), 0), 20) :: ((((16), 1), 17) :: ((((17), 0), 18) :: ((((16), 0), 1) :: ((((0), 0), 1) :: ((((1), 6), 14) :: ((((14), 2), 15) :: ((((1), 5), 12) :: ((((12), 2), 13) :: ((((1), 4), 10) :: ((((10), 2), 11) :: ((((1), 3), 8) :: ((((8), 0), 9) :: ((((1), 2), 6) :: ((((6), 0), 7) :: ((((1), 1), 4) :: ((((4), 0), 5) :: ((((1), 0), 2) :: ((((2), 2), 3) :: [])))))))))))))))))))))))))))))))))))))))))))))))))))))))))))))) : Wx m_Works_init 0 [some (.ref 0)] [] (1, 0, iB i0 [], q0L, rB []) (55, 10288) Q := by
  refine ex_aload_n (i := 0) dX9_init_0 rfl rfl ?_
  refine ex_objInit dX9_init_1 ln_Works_3 wo_2 wo_3 (by decide) ?_
  refine ex_aload_n (i := 0) dX9_init_4 rfl rfl ?_
  refine ex_Kw (K := (54 + 1, 10279 + xNf 1)) ⟨by decide, by decide⟩ ?_
  refine ex_new (ci := 1) dX9_init_5 cf_1 nw_Works_9.1 nw_Works_9.2.1 nw_Works_9.2.2 rfl ?_
  refine ex_mem (xZ_B (h0 1 (by decide)) (fun k => rfl)) ?_
  refine ex_rr (xZR_B (fun k => rfl)) ?_
  refine ex_dup dX9_init_8 rfl ?_
  refine ex_callI (Kc := (14, 748)) (K := (40, 9531)) (a := 1) (ci := 1) (as := []) (Qk := fun v M => v = none ∧ M = (16, 0, iB i0 ((((1), 8), nI (0)) :: ((((1), 7), nI (0)) :: ((((14), 1), nI (15)) :: ((((14), 0), nI (14)) :: ((((12), 1), nI (15)) :: ((((12), 0), nI (14)) :: ((((10), 1), nI (15)) :: ((((10), 0), nI (14)) :: ((((2), 1), nI (5)) :: ((((2), 0), nI (15)) :: [])))))))))), q0L, rB ((((1), 6), 14) :: ((((14), 2), 15) :: ((((1), 5), 12) :: ((((12), 2), 13) :: ((((1), 4), 10) :: ((((10), 2), 11) :: ((((1), 3), 8) :: ((((8), 0), 9) :: ((((1), 2), 6) :: ((((6), 0), 7) :: ((((1), 1), 4) :: ((((4), 0), 5) :: ((((1), 0), 2) :: ((((2), 2), 3) :: [])))))))))))))))) dX9_init_9 ln_Works_11 mf_Grammar_init rfl (Nat.le_of_ble_eq_true rfl) np_Grammar_init rfl (Nat.le_of_ble_eq_true rfl) (Nat.le_of_ble_eq_true rfl) ⟨(Nat.le_of_ble_eq_true rfl), (Nat.le_of_ble_eq_true rfl)⟩ (Or.inl (by decide)) ⟨by decide, by decide⟩ (sp_Grammar_init_1 h0 (lkN (c := 2) (by decide)) (lkN (c := 2) (by decide)) ⟨none, rfl, rfl, rfl⟩) ?_
  rintro _ _ ⟨rfl, rfl⟩
  refine ex_putR dX9_init_12 fl_Works_12 cf_9 rfl (Or.inr ⟨rfl, rfl, rfl⟩) (fun _ => rfl) (fun _ => rfl) ⟨_, rfl⟩ rfl (by decide) ?_
  refine ex_rB ?_
  refine ex_aload_n (i := 0) dX9_init_15 rfl rfl ?_
  refine ex_Kw (K := (39 + 1, 9523 + xNf 7)) ⟨by decide, by decide⟩ ?_
  refine ex_new (ci := 7) dX9_init_16 cf_7 nw_Works_16.1 nw_Works_16.2.1 nw_Works_16.2.2 rfl ?_
  refine ex_mem (xZ_B (h0 16 (by decide)) (fun k => rfl)) ?_
  refine ex_rr (xZR_B (fun k => rfl)) ?_
  refine ex_dup dX9_init_19 rfl ?_
  refine ex_aload_n (i := 0) dX9_init_20 rfl rfl ?_
  refine ex_getR (v := .ref (1)) dX9_init_21 fl_Works_12 rfl rfl (by decide) rfl ?_
  refine ex_callI (Kc := (10, 4875)) (K := (29, 4648)) (a := 16) (ci := 7) (as := [.ref (1)]) (Qk := fun v M => v = none ∧ M = (27, 0, iB i0 ((((16), 7), nI (0)) :: ((((16), 6), nI (0)) :: ((((25), 1), nI (7)) :: ((((25), 0), nI (50)) :: ((((23), 1), nI (14)) :: ((((23), 0), nI (50)) :: ((((21), 1), nI (75)) :: ((((21), 0), nI (50)) :: ((((1), 8), nI (0)) :: ((((1), 7), nI (0)) :: ((((14), 1), nI (15)) :: ((((14), 0), nI (14)) :: ((((12), 1), nI (15)) :: ((((12), 0), nI (14)) :: ((((10), 1), nI (15)) :: ((((10), 0), nI (14)) :: ((((2), 1), nI (5)) :: ((((2), 0), nI (15)) :: [])))))))))))))))))), q0L, rB ((((16), 5), 25) :: ((((25), 2), 26) :: ((((16), 4), 23) :: ((((23), 2), 24) :: ((((16), 3), 21) :: ((((21), 2), 22) :: ((((16), 2), 19) :: ((((19), 0), 20) :: ((((16), 1), 17) :: ((((17), 0), 18) :: ((((16), 0), 1) :: ((((0), 0), 1) :: ((((1), 6), 14) :: ((((14), 2), 15) :: ((((1), 5), 12) :: ((((12), 2), 13) :: ((((1), 4), 10) :: ((((10), 2), 11) :: ((((1), 3), 8) :: ((((8), 0), 9) :: ((((1), 2), 6) :: ((((6), 0), 7) :: ((((1), 1), 4) :: ((((4), 0), 5) :: ((((1), 0), 2) :: ((((2), 2), 3) :: [])))))))))))))))))))))))))))) dX9_init_24 ln_Works_18 mf_States_init rfl (Nat.le_of_ble_eq_true rfl) np_States_init rfl (Nat.le_of_ble_eq_true rfl) (Nat.le_of_ble_eq_true rfl) ⟨(Nat.le_of_ble_eq_true rfl), (Nat.le_of_ble_eq_true rfl)⟩ (Or.inl (by decide)) ⟨by decide, by decide⟩ (sp_States_init_16 h0 (lkN (c := 17) (by decide)) (lkN (c := 17) (by decide)) ⟨none, rfl, rfl, rfl⟩) ?_
  rintro _ _ ⟨rfl, rfl⟩
  refine ex_putR dX9_init_27 fl_Works_21 cf_9 rfl (Or.inr ⟨rfl, rfl, rfl⟩) (fun _ => rfl) (fun _ => rfl) ⟨_, rfl⟩ rfl (by decide) ?_
  refine ex_rB ?_
  refine ex_aload_n (i := 0) dX9_init_30 rfl rfl ?_
  refine ex_Kw (K := (28 + 1, 4644 + xNf 5)) ⟨by decide, by decide⟩ ?_
  refine ex_new (ci := 5) dX9_init_31 cf_5 nw_Works_25.1 nw_Works_25.2.1 nw_Works_25.2.2 rfl ?_
  refine ex_mem (xZ_B (h0 27 (by decide)) (fun k => rfl)) ?_
  refine ex_rr (xZR_B (fun k => rfl)) ?_
  refine ex_dup dX9_init_34 rfl ?_
  refine ex_aload_n (i := 0) dX9_init_35 rfl rfl ?_
  refine ex_getR (v := .ref (1)) dX9_init_36 fl_Works_12 rfl rfl (by decide) rfl ?_
  refine ex_callI (Kc := (4, 31)) (K := (24, 4613)) (a := 27) (ci := 5) (as := [.ref (1)]) (Qk := fun v M => v = none ∧ M = (32, 0, iB i0 ((((27), 3), nI (0)) :: ((((16), 7), nI (0)) :: ((((16), 6), nI (0)) :: ((((25), 1), nI (7)) :: ((((25), 0), nI (50)) :: ((((23), 1), nI (14)) :: ((((23), 0), nI (50)) :: ((((21), 1), nI (75)) :: ((((21), 0), nI (50)) :: ((((1), 8), nI (0)) :: ((((1), 7), nI (0)) :: ((((14), 1), nI (15)) :: ((((14), 0), nI (14)) :: ((((12), 1), nI (15)) :: ((((12), 0), nI (14)) :: ((((10), 1), nI (15)) :: ((((10), 0), nI (14)) :: ((((2), 1), nI (5)) :: ((((2), 0), nI (15)) :: []))))))))))))))))))), q0L, rB ((((27), 2), 30) :: ((((30), 0), 31) :: ((((27), 1), 28) :: ((((28), 0), 29) :: ((((27), 0), 1) :: ((((0), 1), 16) :: ((((16), 5), 25) :: ((((25), 2), 26) :: ((((16), 4), 23) :: ((((23), 2), 24) :: ((((16), 3), 21) :: ((((21), 2), 22) :: ((((16), 2), 19) :: ((((19), 0), 20) :: ((((16), 1), 17) :: ((((17), 0), 18) :: ((((16), 0), 1) :: ((((0), 0), 1) :: ((((1), 6), 14) :: ((((14), 2), 15) :: ((((1), 5), 12) :: ((((12), 2), 13) :: ((((1), 4), 10) :: ((((10), 2), 11) :: ((((1), 3), 8) :: ((((8), 0), 9) :: ((((1), 2), 6) :: ((((6), 0), 7) :: ((((1), 1), 4) :: ((((4), 0), 5) :: ((((1), 0), 2) :: ((((2), 2), 3) :: [])))))))))))))))))))))))))))))))))) dX9_init_39 ln_Works_27 mf_Rings_init rfl (Nat.le_of_ble_eq_true rfl) np_Rings_init rfl (Nat.le_of_ble_eq_true rfl) (Nat.le_of_ble_eq_true rfl) ⟨(Nat.le_of_ble_eq_true rfl), (Nat.le_of_ble_eq_true rfl)⟩ (Or.inl (by decide)) ⟨by decide, by decide⟩ (sp_Rings_init_27 h0 (lkN (c := 28) (by decide)) (lkN (c := 28) (by decide)) ⟨none, rfl, rfl, rfl⟩) ?_
  rintro _ _ ⟨rfl, rfl⟩
  refine ex_putR dX9_init_42 fl_Works_28 cf_9 rfl (Or.inr ⟨rfl, rfl, rfl⟩) (fun _ => rfl) (fun _ => rfl) ⟨_, rfl⟩ rfl (by decide) ?_
  refine ex_rB ?_
  refine ex_aload_n (i := 0) dX9_init_45 rfl rfl ?_
  refine ex_Kw (K := (23 + 1, 4605 + xNf 4)) ⟨by decide, by decide⟩ ?_
  refine ex_new (ci := 4) dX9_init_46 cf_4 nw_Works_32.1 nw_Works_32.2.1 nw_Works_32.2.2 rfl ?_
  refine ex_mem (xZ_B (h0 32 (by decide)) (fun k => rfl)) ?_
  refine ex_rr (xZR_B (fun k => rfl)) ?_
  refine ex_dup dX9_init_49 rfl ?_
  refine ex_aload_n (i := 0) dX9_init_50 rfl rfl ?_
  refine ex_getR (v := .ref (1)) dX9_init_51 fl_Works_12 rfl rfl (by decide) rfl ?_
  refine ex_aload_n (i := 0) dX9_init_54 rfl rfl ?_
  refine ex_getR (v := .ref (16)) dX9_init_55 fl_Works_21 rfl rfl (by decide) rfl ?_
  refine ex_callI (Kc := (8, 386)) (K := (15, 4219)) (a := 32) (ci := 4) (as := [.ref (1), .ref (16)]) (Qk := fun v M => v = none ∧ M = (41, 0, iB i0 ((((32), 7), nI (0)) :: ((((32), 6), nI (0)) :: ((((27), 3), nI (0)) :: ((((16), 7), nI (0)) :: ((((16), 6), nI (0)) :: ((((25), 1), nI (7)) :: ((((25), 0), nI (50)) :: ((((23), 1), nI (14)) :: ((((23), 0), nI (50)) :: ((((21), 1), nI (75)) :: ((((21), 0), nI (50)) :: ((((1), 8), nI (0)) :: ((((1), 7), nI (0)) :: ((((14), 1), nI (15)) :: ((((14), 0), nI (14)) :: ((((12), 1), nI (15)) :: ((((12), 0), nI (14)) :: ((((10), 1), nI (15)) :: ((((10), 0), nI (14)) :: ((((2), 1), nI (5)) :: ((((2), 0), nI (15)) :: []))))))))))))))))))))), q0L, rB ((((32), 5), 39) :: ((((39), 0), 40) :: ((((32), 4), 37) :: ((((37), 0), 38) :: ((((32), 3), 35) :: ((((35), 0), 36) :: ((((32), 2), 33) :: ((((33), 0), 34) :: ((((32), 1), 16) :: ((((32), 0), 1) :: ((((0), 2), 27) :: ((((27), 2), 30) :: ((((30), 0), 31) :: ((((27), 1), 28) :: ((((28), 0), 29) :: ((((27), 0), 1) :: ((((0), 1), 16) :: ((((16), 5), 25) :: ((((25), 2), 26) :: ((((16), 4), 23) :: ((((23), 2), 24) :: ((((16), 3), 21) :: ((((21), 2), 22) :: ((((16), 2), 19) :: ((((19), 0), 20) :: ((((16), 1), 17) :: ((((17), 0), 18) :: ((((16), 0), 1) :: ((((0), 0), 1) :: ((((1), 6), 14) :: ((((14), 2), 15) :: ((((1), 5), 12) :: ((((12), 2), 13) :: ((((1), 4), 10) :: ((((10), 2), 11) :: ((((1), 3), 8) :: ((((8), 0), 9) :: ((((1), 2), 6) :: ((((6), 0), 7) :: ((((1), 1), 4) :: ((((4), 0), 5) :: ((((1), 0), 2) :: ((((2), 2), 3) :: []))))))))))))))))))))))))))))))))))))))))))))) dX9_init_58 ln_Works_34 mf_Parser_init rfl (Nat.le_of_ble_eq_true rfl) np_Parser_init rfl (Nat.le_of_ble_eq_true rfl) (Nat.le_of_ble_eq_true rfl) ⟨(Nat.le_of_ble_eq_true rfl), (Nat.le_of_ble_eq_true rfl)⟩ (Or.inl (by decide)) ⟨by decide, by decide⟩ (sp_Parser_init_32 h0 (lkN (c := 33) (by decide)) (lkN (c := 33) (by decide)) ⟨none, rfl, rfl, rfl⟩) ?_
  rintro _ _ ⟨rfl, rfl⟩
  refine ex_putR dX9_init_61 fl_Works_37 cf_9 rfl (Or.inr ⟨rfl, rfl, rfl⟩) (fun _ => rfl) (fun _ => rfl) ⟨_, rfl⟩ rfl (by decide) ?_
  refine ex_rB ?_
  refine ex_aload_n (i := 0) dX9_init_64 rfl rfl ?_
  refine ex_Kw (K := (14 + 1, 4216 + xNf 0)) ⟨by decide, by decide⟩ ?_
  refine ex_new (ci := 0) dX9_init_65 cf_0 nw_Works_41.1 nw_Works_41.2.1 nw_Works_41.2.2 rfl ?_
  refine ex_mem (xZ_B (h0 41 (by decide)) (fun k => rfl)) ?_
  refine ex_rr (xZR_B (fun k => rfl)) ?_
  refine ex_dup dX9_init_68 rfl ?_
  refine ex_aload_n (i := 0) dX9_init_69 rfl rfl ?_
  refine ex_getR (v := .ref (1)) dX9_init_70 fl_Works_12 rfl rfl (by decide) rfl ?_
  refine ex_callI (Kc := (4, 902)) (K := (10, 3314)) (a := 41) (ci := 0) (as := [.ref (1)]) (Qk := fun v M => v = none ∧ M = (46, 0, iB i0 ((((32), 7), nI (0)) :: ((((32), 6), nI (0)) :: ((((27), 3), nI (0)) :: ((((16), 7), nI (0)) :: ((((16), 6), nI (0)) :: ((((25), 1), nI (7)) :: ((((25), 0), nI (50)) :: ((((23), 1), nI (14)) :: ((((23), 0), nI (50)) :: ((((21), 1), nI (75)) :: ((((21), 0), nI (50)) :: ((((1), 8), nI (0)) :: ((((1), 7), nI (0)) :: ((((14), 1), nI (15)) :: ((((14), 0), nI (14)) :: ((((12), 1), nI (15)) :: ((((12), 0), nI (14)) :: ((((10), 1), nI (15)) :: ((((10), 0), nI (14)) :: ((((2), 1), nI (5)) :: ((((2), 0), nI (15)) :: []))))))))))))))))))))), q0L, rB ((((41), 2), 44) :: ((((44), 0), 45) :: ((((41), 1), 42) :: ((((42), 0), 43) :: ((((41), 0), 1) :: ((((0), 3), 32) :: ((((32), 5), 39) :: ((((39), 0), 40) :: ((((32), 4), 37) :: ((((37), 0), 38) :: ((((32), 3), 35) :: ((((35), 0), 36) :: ((((32), 2), 33) :: ((((33), 0), 34) :: ((((32), 1), 16) :: ((((32), 0), 1) :: ((((0), 2), 27) :: ((((27), 2), 30) :: ((((30), 0), 31) :: ((((27), 1), 28) :: ((((28), 0), 29) :: ((((27), 0), 1) :: ((((0), 1), 16) :: ((((16), 5), 25) :: ((((25), 2), 26) :: ((((16), 4), 23) :: ((((23), 2), 24) :: ((((16), 3), 21) :: ((((21), 2), 22) :: ((((16), 2), 19) :: ((((19), 0), 20) :: ((((16), 1), 17) :: ((((17), 0), 18) :: ((((16), 0), 1) :: ((((0), 0), 1) :: ((((1), 6), 14) :: ((((14), 2), 15) :: ((((1), 5), 12) :: ((((12), 2), 13) :: ((((1), 4), 10) :: ((((10), 2), 11) :: ((((1), 3), 8) :: ((((8), 0), 9) :: ((((1), 2), 6) :: ((((6), 0), 7) :: ((((1), 1), 4) :: ((((4), 0), 5) :: ((((1), 0), 2) :: ((((2), 2), 3) :: []))))))))))))))))))))))))))))))))))))))))))))))))))) dX9_init_73 ln_Works_43 mf_Evaluator_init rfl (Nat.le_of_ble_eq_true rfl) np_Evaluator_init rfl (Nat.le_of_ble_eq_true rfl) (Nat.le_of_ble_eq_true rfl) ⟨(Nat.le_of_ble_eq_true rfl), (Nat.le_of_ble_eq_true rfl)⟩ (Or.inl (by decide)) ⟨by decide, by decide⟩ (sp_Evaluator_init_41 h0 (lkN (c := 42) (by decide)) (lkN (c := 42) (by decide)) ⟨none, rfl, rfl, rfl⟩) ?_
  rintro _ _ ⟨rfl, rfl⟩
  refine ex_putR dX9_init_76 fl_Works_44 cf_9 rfl (Or.inr ⟨rfl, rfl, rfl⟩) (fun _ => rfl) (fun _ => rfl) ⟨_, rfl⟩ rfl (by decide) ?_
  refine ex_rB ?_
  refine ex_aload_n (i := 0) dX9_init_79 rfl rfl ?_
  refine ex_Kw (K := (9 + 1, 3311 + xNf 8)) ⟨by decide, by decide⟩ ?_
  refine ex_new (ci := 8) dX9_init_80 cf_8 nw_Works_48.1 nw_Works_48.2.1 nw_Works_48.2.2 rfl ?_
  refine ex_mem (xZ_B (h0 46 (by decide)) (fun k => rfl)) ?_
  refine ex_rr (xZR_B (fun k => rfl)) ?_
  refine ex_dup dX9_init_83 rfl ?_
  refine ex_callI (Kc := (4, 1654)) (K := (5, 1657)) (a := 46) (ci := 8) (as := []) (Qk := fun v M => v = none ∧ M = (51, 0, iB i0 ((((46), 2), nI (0)) :: ((((47), 1), nI (8)) :: ((((47), 0), nI (150)) :: ((((32), 7), nI (0)) :: ((((32), 6), nI (0)) :: ((((27), 3), nI (0)) :: ((((16), 7), nI (0)) :: ((((16), 6), nI (0)) :: ((((25), 1), nI (7)) :: ((((25), 0), nI (50)) :: ((((23), 1), nI (14)) :: ((((23), 0), nI (50)) :: ((((21), 1), nI (75)) :: ((((21), 0), nI (50)) :: ((((1), 8), nI (0)) :: ((((1), 7), nI (0)) :: ((((14), 1), nI (15)) :: ((((14), 0), nI (14)) :: ((((12), 1), nI (15)) :: ((((12), 0), nI (14)) :: ((((10), 1), nI (15)) :: ((((10), 0), nI (14)) :: ((((2), 1), nI (5)) :: ((((2), 0), nI (15)) :: [])))))))))))))))))))))))), q0L, rB ((((46), 1), 49) :: ((((49), 0), 50) :: ((((46), 0), 47) :: ((((47), 2), 48) :: ((((0), 4), 41) :: ((((41), 2), 44) :: ((((44), 0), 45) :: ((((41), 1), 42) :: ((((42), 0), 43) :: ((((41), 0), 1) :: ((((0), 3), 32) :: ((((32), 5), 39) :: ((((39), 0), 40) :: ((((32), 4), 37) :: ((((37), 0), 38) :: ((((32), 3), 35) :: ((((35), 0), 36) :: ((((32), 2), 33) :: ((((33), 0), 34) :: ((((32), 1), 16) :: ((((32), 0), 1) :: ((((0), 2), 27) :: ((((27), 2), 30) :: ((((30), 0), 31) :: ((((27), 1), 28) :: ((((28), 0), 29) :: ((((27), 0), 1) :: ((((0), 1), 16) :: ((((16), 5), 25) :: ((((25), 2), 26) :: ((((16), 4), 23) :: ((((23), 2), 24) :: ((((16), 3), 21) :: ((((21), 2), 22) :: ((((16), 2), 19) :: ((((19), 0), 20) :: ((((16), 1), 17) :: ((((17), 0), 18) :: ((((16), 0), 1) :: ((((0), 0), 1) :: ((((1), 6), 14) :: ((((14), 2), 15) :: ((((1), 5), 12) :: ((((12), 2), 13) :: ((((1), 4), 10) :: ((((10), 2), 11) :: ((((1), 3), 8) :: ((((8), 0), 9) :: ((((1), 2), 6) :: ((((6), 0), 7) :: ((((1), 1), 4) :: ((((4), 0), 5) :: ((((1), 0), 2) :: ((((2), 2), 3) :: [])))))))))))))))))))))))))))))))))))))))))))))))))))))))) dX9_init_84 ln_Works_50 mf_Tree_init rfl (Nat.le_of_ble_eq_true rfl) np_Tree_init rfl (Nat.le_of_ble_eq_true rfl) (Nat.le_of_ble_eq_true rfl) ⟨(Nat.le_of_ble_eq_true rfl), (Nat.le_of_ble_eq_true rfl)⟩ (Or.inl (by decide)) ⟨by decide, by decide⟩ (sp_Tree_init_46 h0 (lkN (c := 47) (by decide)) (lkN (c := 47) (by decide)) ⟨none, rfl, rfl, rfl⟩) ?_
  rintro _ _ ⟨rfl, rfl⟩
  refine ex_putR dX9_init_87 fl_Works_51 cf_9 rfl (Or.inl rfl) (fun _ => rfl) (fun _ => rfl) ⟨_, rfl⟩ rfl (by decide) ?_
  refine ex_rB ?_
  refine ex_aload_n (i := 0) dX9_init_90 rfl rfl ?_
  refine ex_Kw (K := (4 + 1, 1654 + xNf 8)) ⟨by decide, by decide⟩ ?_
  refine ex_new (ci := 8) dX9_init_91 cf_8 nw_Works_48.1 nw_Works_48.2.1 nw_Works_48.2.2 rfl ?_
  refine ex_mem (xZ_B (h0 51 (by decide)) (fun k => rfl)) ?_
  refine ex_rr (xZR_B (fun k => rfl)) ?_
  refine ex_dup dX9_init_94 rfl ?_
  refine ex_callI (Kc := (4, 1654)) (K := (0, 0)) (a := 51) (ci := 8) (as := []) (Qk := fun v M => v = none ∧ M = (56, 0, iB i0 ((((51), 2), nI (0)) :: ((((52), 1), nI (8)) :: ((((52), 0), nI (150)) :: ((((46), 2), nI (0)) :: ((((47), 1), nI (8)) :: ((((47), 0), nI (150)) :: ((((32), 7), nI (0)) :: ((((32), 6), nI (0)) :: ((((27), 3), nI (0)) :: ((((16), 7), nI (0)) :: ((((16), 6), nI (0)) :: ((((25), 1), nI (7)) :: ((((25), 0), nI (50)) :: ((((23), 1), nI (14)) :: ((((23), 0), nI (50)) :: ((((21), 1), nI (75)) :: ((((21), 0), nI (50)) :: ((((1), 8), nI (0)) :: ((((1), 7), nI (0)) :: ((((14), 1), nI (15)) :: ((((14), 0), nI (14)) :: ((((12), 1), nI (15)) :: ((((12), 0), nI (14)) :: ((((10), 1), nI (15)) :: ((((10), 0), nI (14)) :: ((((2), 1), nI (5)) :: ((((2), 0), nI (15)) :: []))))))))))))))))))))))))))), q0L, rB ((((51), 1), 54) :: ((((54), 0), 55) :: ((((51), 0), 52) :: ((((52), 2), 53) :: ((((0), 5), 46) :: ((((46), 1), 49) :: ((((49), 0), 50) :: ((((46), 0), 47) :: ((((47), 2), 48) :: ((((0), 4), 41) :: ((((41), 2), 44) :: ((((44), 0), 45) :: ((((41), 1), 42) :: ((((42), 0), 43) :: ((((41), 0), 1) :: ((((0), 3), 32) :: ((((32), 5), 39) :: ((((39), 0), 40) :: ((((32), 4), 37) :: ((((37), 0), 38) :: ((((32), 3), 35) :: ((((35), 0), 36) :: ((((32), 2), 33) :: ((((33), 0), 34) :: ((((32), 1), 16) :: ((((32), 0), 1) :: ((((0), 2), 27) :: ((((27), 2), 30) :: ((((30), 0), 31) :: ((((27), 1), 28) :: ((((28), 0), 29) :: ((((27), 0), 1) :: ((((0), 1), 16) :: ((((16), 5), 25) :: ((((25), 2), 26) :: ((((16), 4), 23) :: ((((23), 2), 24) :: ((((16), 3), 21) :: ((((21), 2), 22) :: ((((16), 2), 19) :: ((((19), 0), 20) :: ((((16), 1), 17) :: ((((17), 0), 18) :: ((((16), 0), 1) :: ((((0), 0), 1) :: ((((1), 6), 14) :: ((((14), 2), 15) :: ((((1), 5), 12) :: ((((12), 2), 13) :: ((((1), 4), 10) :: ((((10), 2), 11) :: ((((1), 3), 8) :: ((((8), 0), 9) :: ((((1), 2), 6) :: ((((6), 0), 7) :: ((((1), 1), 4) :: ((((4), 0), 5) :: ((((1), 0), 2) :: ((((2), 2), 3) :: []))))))))))))))))))))))))))))))))))))))))))))))))))))))))))))) dX9_init_95 ln_Works_50 mf_Tree_init rfl (Nat.le_of_ble_eq_true rfl) np_Tree_init rfl (Nat.le_of_ble_eq_true rfl) (Nat.le_of_ble_eq_true rfl) ⟨(Nat.le_of_ble_eq_true rfl), (Nat.le_of_ble_eq_true rfl)⟩ (Or.inl (by decide)) ⟨by decide, by decide⟩ (sp_Tree_init_51 h0 (lkN (c := 52) (by decide)) (lkN (c := 52) (by decide)) ⟨none, rfl, rfl, rfl⟩) ?_
  rintro _ _ ⟨rfl, rfl⟩
  refine ex_putR dX9_init_98 fl_Works_55 cf_9 rfl (Or.inl rfl) (fun _ => rfl) (fun _ => rfl) ⟨_, rfl⟩ rfl (by decide) ?_
  refine ex_rB ?_
  refine ex_aload_n (i := 0) dX9_init_101 rfl rfl ?_
  refine ex_iconst (v := nI 0) dX9_init_102 (by decide) ?_
  refine ex_putI dX9_init_103 fl_Works_58 cf_9 rfl (Or.inl rfl) (by decide) (by decide) rfl (by decide) ?_
  refine ex_iB ?_
  refine ex_aload_n (i := 0) dX9_init_106 rfl rfl ?_
  refine ex_iconst (v := -1) dX9_init_107 (by decide) ?_
  refine ex_putI dX9_init_108 fl_Works_62 cf_9 rfl (Or.inl rfl) rfl rfl rfl (by decide) ?_
  refine ex_iB ?_
  refine ex_ret dX9_init_111 rfl ?_
  exact hQ
theorem lp_Model_init {i : Nat → Nat → Int32} {r : Nat → Nat → Value} (hr6 : r 56 6 = .ref 62) (hQ : ∀ i1, (∀ c, c ≠ 62 → i1 c = i c) → (∀ j, j < 210 → i1 62 j = -1) → Q (.ok none) (93, 0, i1, q0L, r)) :
    ∀ d k i1, k + d = 210 → (∀ c, c ≠ 62 → i1 c = i c) → (∀ j, j < k → i1 62 j = -1) → Wx m_Model_init 321 [some (.ref 56), some (.int (nI k))] [] (93, 0, i1, q0L, r) (0, 0) Q := by
  intro d
  induction d with
  | zero =>
    intro k i1 hk h1 h2
    have e : k = 210 := hk
    subst e
    refine ex_iload_n (i := 1) dX10_init_321 rfl rfl ?_
    refine ex_sipush (v := nI 210) dX10_init_322 (by decide) ?_
    refine ex_icmp_geN (tgt := 341) dX10_init_325 (by decide) (by decide) (by decide) (fun h325 => ?_) (fun h325 => by exact absurd h325 (by decide))
    refine ex_ret dX10_init_341 rfl ?_
    exact hQ i1 h1 h2
  | succ d ih =>
    intro k i1 hk h1 h2
    have X := ih (k + 1) (xU i1 62 k (-1)) (by omega) (fun c hc => by rw [xU_ne _ _ _ hc]; exact h1 c hc) (fun j hj => by
      rw [xU_at]; unfold upd
      by_cases e : j = k
      · rw [if_pos e]
      · rw [if_neg e]; exact h2 j (by omega))
    refine ex_iload_n (i := 1) dX10_init_321 rfl rfl ?_
    refine ex_sipush (v := nI 210) dX10_init_322 (by decide) ?_
    refine ex_icmp_geN (tgt := 341) dX10_init_325 (by decide) (by omega) (by omega) (fun h325 => by omega) (fun h325 => ?_)
    refine ex_aload_n (i := 0) dX10_init_328 rfl rfl ?_
    refine ex_getR (v := .ref (62)) dX10_init_329 fl_Model_25 rfl rfl (by decide) hr6 ?_
    refine ex_iload_n (i := 1) dX10_init_332 rfl rfl ?_
    refine ex_iconst (v := -1) dX10_init_333 (by decide) ?_
    refine ex_iastN dX10_init_334 rfl (by decide) (by omega) ?_
    refine ex_iincN (L' := [some (.ref (56)), some (.int (nI (k + 1)))]) dX10_init_335 rfl rfl (by decide) rfl ?_
    refine ex_goto (tgt := 321) dX10_init_338 (by decide) ?_
    exact X
set_option maxRecDepth 20000 in
theorem sp_Model_init (h0 : ∀ a, a < 94 → i0 a = fun _ => 0) (hl : ∀ a k, 57 ≤ a → l.lookup (a, k) = none) (hQ : ∀ i1, (∀ c, c ≠ 62 → i1 c = iB i0 ((((56), 44), (-1)) :: l) c) → (∀ j, j < 210 → i1 62 j = -1) → Q (.ok none) (93, 0, i1, q0L, rB ((((56), 42), 92) :: ((((56), 41), 91) :: ((((56), 40), 90) :: ((((56), 39), 89) :: ((((56), 38), 88) :: ((((56), 37), 87) :: ((((56), 36), 86) :: ((((56), 34), 85) :: ((((56), 33), 84) :: ((((56), 32), 83) :: ((((56), 31), 82) :: ((((56), 30), 81) :: ((((56), 29), 80) :: ((((56), 28), 79) :: ((((56), 26), 78) :: ((((56), 25), 77) :: ((((56), 24), 76) :: ((((56), 23), 75) :: ((((56), 22), 74) :: ((((56), 21), 73) :: ((((56), 20), 72) :: ((((56), 19), 71) :: ((((56), 18), 70) :: ((((56), 17), 69) :: ((((56), 16), 68) :: ((((56), 15), 67) :: ((((56), 14), 66) :: ((((56), 13), 65) :: ((((56), 8), 64) :: ((((56), 7), 63) :: ((((56), 6), 62) :: ((((56), 5), 61) :: ((((56), 4), 60) :: ((((56), 2), 59) :: ((((56), 1), 58) :: ((((56), 0), 57) :: rl)))))))))))))))))))))))))))))))))))))) : Wx m_Model_init 0 [some (.ref 56), none] [] (57, 0, iB i0 l, q0L, rB rl) (36, 11063) Q := by
  refine ex_aload_n (i := 0) dX10_init_0 rfl rfl ?_
  refine ex_objInit dX10_init_1 ln_Model_1 wo_2 wo_3 (by decide) ?_
  refine ex_aload_n (i := 0) dX10_init_4 rfl rfl ?_
  refine ex_bipush (v := nI 15) dX10_init_5 (by decide) ?_
  refine ex_Kw (K := (35 + 1, 11048 + 15)) ⟨by decide, by decide⟩ ?_
  refine ex_newaI (N := 15) dX10_init_7 wr_int rfl rfl (by decide) ?_
  refine ex_mem (xZ_B (h0 57 (by decide)) (fun k => hl 57 k (by decide))) ?_
  refine ex_putR dX10_init_9 fl_Model_7 cf_10 rfl (Or.inr ⟨rfl, rfl, rfl⟩) (fun _ => rfl) (fun _ => rfl) ⟨_, rfl⟩ rfl (by decide) ?_
  refine ex_rB ?_
  refine ex_aload_n (i := 0) dX10_init_12 rfl rfl ?_
  refine ex_bipush (v := nI 60) dX10_init_13 (by decide) ?_
  refine ex_Kw (K := (34 + 1, 10988 + 60)) ⟨by decide, by decide⟩ ?_
  refine ex_newaI (N := 60) dX10_init_15 wr_int rfl rfl (by decide) ?_
  refine ex_mem (xZ_B (h0 58 (by decide)) (fun k => hl 58 k (by decide))) ?_
  refine ex_putR dX10_init_17 fl_Model_13 cf_10 rfl (Or.inr ⟨rfl, rfl, rfl⟩) (fun _ => rfl) (fun _ => rfl) ⟨_, rfl⟩ rfl (by decide) ?_
  refine ex_rB ?_
  refine ex_aload_n (i := 0) dX10_init_20 rfl rfl ?_
  refine ex_bipush (v := nI 15) dX10_init_21 (by decide) ?_
  refine ex_Kw (K := (33 + 1, 10973 + 15)) ⟨by decide, by decide⟩ ?_
  refine ex_newaI (N := 15) dX10_init_23 wr_int rfl rfl (by decide) ?_
  refine ex_mem (xZ_B (h0 59 (by decide)) (fun k => hl 59 k (by decide))) ?_
  refine ex_putR dX10_init_25 fl_Model_16 cf_10 rfl (Or.inr ⟨rfl, rfl, rfl⟩) (fun _ => rfl) (fun _ => rfl) ⟨_, rfl⟩ rfl (by decide) ?_
  refine ex_rB ?_
  refine ex_aload_n (i := 0) dX10_init_28 rfl rfl ?_
  refine ex_bipush (v := nI 7) dX10_init_29 (by decide) ?_
  refine ex_Kw (K := (32 + 1, 10966 + 7)) ⟨by decide, by decide⟩ ?_
  refine ex_newaI (N := 7) dX10_init_31 wr_int rfl rfl (by decide) ?_
  refine ex_mem (xZ_B (h0 60 (by decide)) (fun k => hl 60 k (by decide))) ?_
  refine ex_putR dX10_init_33 fl_Model_19 cf_10 rfl (Or.inr ⟨rfl, rfl, rfl⟩) (fun _ => rfl) (fun _ => rfl) ⟨_, rfl⟩ rfl (by decide) ?_
  refine ex_rB ?_
  refine ex_aload_n (i := 0) dX10_init_36 rfl rfl ?_
  refine ex_bipush (v := nI 7) dX10_init_37 (by decide) ?_
  refine ex_Kw (K := (31 + 1, 10959 + 7)) ⟨by decide, by decide⟩ ?_
  refine ex_newaI (N := 7) dX10_init_39 wr_int rfl rfl (by decide) ?_
  refine ex_mem (xZ_B (h0 61 (by decide)) (fun k => hl 61 k (by decide))) ?_
  refine ex_putR dX10_init_41 fl_Model_22 cf_10 rfl (Or.inr ⟨rfl, rfl, rfl⟩) (fun _ => rfl) (fun _ => rfl) ⟨_, rfl⟩ rfl (by decide) ?_
  refine ex_rB ?_
  refine ex_aload_n (i := 0) dX10_init_44 rfl rfl ?_
  refine ex_sipush (v := nI 210) dX10_init_45 (by decide) ?_
  refine ex_Kw (K := (30 + 1, 10749 + 210)) ⟨by decide, by decide⟩ ?_
  refine ex_newaI (N := 210) dX10_init_48 wr_int rfl rfl (by decide) ?_
  refine ex_mem (xZ_B (h0 62 (by decide)) (fun k => hl 62 k (by decide))) ?_
  refine ex_putR dX10_init_50 fl_Model_25 cf_10 rfl (Or.inr ⟨rfl, rfl, rfl⟩) (fun _ => rfl) (fun _ => rfl) ⟨_, rfl⟩ rfl (by decide) ?_
  refine ex_rB ?_
  refine ex_aload_n (i := 0) dX10_init_53 rfl rfl ?_
  refine ex_sipush (v := nI 210) dX10_init_54 (by decide) ?_
  refine ex_Kw (K := (29 + 1, 10539 + 210)) ⟨by decide, by decide⟩ ?_
  refine ex_newaI (N := 210) dX10_init_57 wr_int rfl rfl (by decide) ?_
  refine ex_mem (xZ_B (h0 63 (by decide)) (fun k => hl 63 k (by decide))) ?_
  refine ex_putR dX10_init_59 fl_Model_28 cf_10 rfl (Or.inr ⟨rfl, rfl, rfl⟩) (fun _ => rfl) (fun _ => rfl) ⟨_, rfl⟩ rfl (by decide) ?_
  refine ex_rB ?_
  refine ex_aload_n (i := 0) dX10_init_62 rfl rfl ?_
  refine ex_sipush (v := nI 210) dX10_init_63 (by decide) ?_
  refine ex_Kw (K := (28 + 1, 10329 + 210)) ⟨by decide, by decide⟩ ?_
  refine ex_newaI (N := 210) dX10_init_66 wr_int rfl rfl (by decide) ?_
  refine ex_mem (xZ_B (h0 64 (by decide)) (fun k => hl 64 k (by decide))) ?_
  refine ex_putR dX10_init_68 fl_Model_31 cf_10 rfl (Or.inr ⟨rfl, rfl, rfl⟩) (fun _ => rfl) (fun _ => rfl) ⟨_, rfl⟩ rfl (by decide) ?_
  refine ex_rB ?_
  refine ex_aload_n (i := 0) dX10_init_71 rfl rfl ?_
  refine ex_sipush (v := nI 3750) dX10_init_72 (by decide) ?_
  refine ex_Kw (K := (27 + 1, 6579 + 3750)) ⟨by decide, by decide⟩ ?_
  refine ex_newaZ (N := 3750) dX10_init_75 wr_boolean rfl rfl (by decide) ?_
  refine ex_mem (xZ_B (h0 65 (by decide)) (fun k => hl 65 k (by decide))) ?_
  refine ex_putR dX10_init_77 fl_Model_34 cf_10 rfl (Or.inr ⟨rfl, rfl, rfl⟩) (fun _ => rfl) (fun _ => rfl) ⟨_, rfl⟩ rfl (by decide) ?_
  refine ex_rB ?_
  refine ex_aload_n (i := 0) dX10_init_80 rfl rfl ?_
  refine ex_bipush (v := nI 75) dX10_init_81 (by decide) ?_
  refine ex_Kw (K := (26 + 1, 6504 + 75)) ⟨by decide, by decide⟩ ?_
  refine ex_newaZ (N := 75) dX10_init_83 wr_boolean rfl rfl (by decide) ?_
  refine ex_mem (xZ_B (h0 66 (by decide)) (fun k => hl 66 k (by decide))) ?_
  refine ex_putR dX10_init_85 fl_Model_38 cf_10 rfl (Or.inr ⟨rfl, rfl, rfl⟩) (fun _ => rfl) (fun _ => rfl) ⟨_, rfl⟩ rfl (by decide) ?_
  refine ex_rB ?_
  refine ex_aload_n (i := 0) dX10_init_88 rfl rfl ?_
  refine ex_sipush (v := nI 700) dX10_init_89 (by decide) ?_
  refine ex_Kw (K := (25 + 1, 5804 + 700)) ⟨by decide, by decide⟩ ?_
  refine ex_newaI (N := 700) dX10_init_92 wr_int rfl rfl (by decide) ?_
  refine ex_mem (xZ_B (h0 67 (by decide)) (fun k => hl 67 k (by decide))) ?_
  refine ex_putR dX10_init_94 fl_Model_41 cf_10 rfl (Or.inr ⟨rfl, rfl, rfl⟩) (fun _ => rfl) (fun _ => rfl) ⟨_, rfl⟩ rfl (by decide) ?_
  refine ex_rB ?_
  refine ex_aload_n (i := 0) dX10_init_97 rfl rfl ?_
  refine ex_bipush (v := nI 14) dX10_init_98 (by decide) ?_
  refine ex_Kw (K := (24 + 1, 5790 + 14)) ⟨by decide, by decide⟩ ?_
  refine ex_newaZ (N := 14) dX10_init_100 wr_boolean rfl rfl (by decide) ?_
  refine ex_mem (xZ_B (h0 68 (by decide)) (fun k => hl 68 k (by decide))) ?_
  refine ex_putR dX10_init_102 fl_Model_44 cf_10 rfl (Or.inr ⟨rfl, rfl, rfl⟩) (fun _ => rfl) (fun _ => rfl) ⟨_, rfl⟩ rfl (by decide) ?_
  refine ex_rB ?_
  refine ex_aload_n (i := 0) dX10_init_105 rfl rfl ?_
  refine ex_bipush (v := nI 14) dX10_init_106 (by decide) ?_
  refine ex_Kw (K := (23 + 1, 5776 + 14)) ⟨by decide, by decide⟩ ?_
  refine ex_newaI (N := 14) dX10_init_108 wr_int rfl rfl (by decide) ?_
  refine ex_mem (xZ_B (h0 69 (by decide)) (fun k => hl 69 k (by decide))) ?_
  refine ex_putR dX10_init_110 fl_Model_47 cf_10 rfl (Or.inr ⟨rfl, rfl, rfl⟩) (fun _ => rfl) (fun _ => rfl) ⟨_, rfl⟩ rfl (by decide) ?_
  refine ex_rB ?_
  refine ex_aload_n (i := 0) dX10_init_113 rfl rfl ?_
  refine ex_sipush (v := nI 700) dX10_init_114 (by decide) ?_
  refine ex_Kw (K := (22 + 1, 5076 + 700)) ⟨by decide, by decide⟩ ?_
  refine ex_newaI (N := 700) dX10_init_117 wr_int rfl rfl (by decide) ?_
  refine ex_mem (xZ_B (h0 70 (by decide)) (fun k => hl 70 k (by decide))) ?_
  refine ex_putR dX10_init_119 fl_Model_50 cf_10 rfl (Or.inr ⟨rfl, rfl, rfl⟩) (fun _ => rfl) (fun _ => rfl) ⟨_, rfl⟩ rfl (by decide) ?_
  refine ex_rB ?_
  refine ex_aload_n (i := 0) dX10_init_122 rfl rfl ?_
  refine ex_sipush (v := nI 700) dX10_init_123 (by decide) ?_
  refine ex_Kw (K := (21 + 1, 4376 + 700)) ⟨by decide, by decide⟩ ?_
  refine ex_newaI (N := 700) dX10_init_126 wr_int rfl rfl (by decide) ?_
  refine ex_mem (xZ_B (h0 71 (by decide)) (fun k => hl 71 k (by decide))) ?_
  refine ex_putR dX10_init_128 fl_Model_53 cf_10 rfl (Or.inr ⟨rfl, rfl, rfl⟩) (fun _ => rfl) (fun _ => rfl) ⟨_, rfl⟩ rfl (by decide) ?_
  refine ex_rB ?_
  refine ex_aload_n (i := 0) dX10_init_131 rfl rfl ?_
  refine ex_sipush (v := nI 700) dX10_init_132 (by decide) ?_
  refine ex_Kw (K := (20 + 1, 3676 + 700)) ⟨by decide, by decide⟩ ?_
  refine ex_newaI (N := 700) dX10_init_135 wr_int rfl rfl (by decide) ?_
  refine ex_mem (xZ_B (h0 72 (by decide)) (fun k => hl 72 k (by decide))) ?_
  refine ex_putR dX10_init_137 fl_Model_56 cf_10 rfl (Or.inr ⟨rfl, rfl, rfl⟩) (fun _ => rfl) (fun _ => rfl) ⟨_, rfl⟩ rfl (by decide) ?_
  refine ex_rB ?_
  refine ex_aload_n (i := 0) dX10_init_140 rfl rfl ?_
  refine ex_sipush (v := nI 350) dX10_init_141 (by decide) ?_
  refine ex_Kw (K := (19 + 1, 3326 + 350)) ⟨by decide, by decide⟩ ?_
  refine ex_newaI (N := 350) dX10_init_144 wr_int rfl rfl (by decide) ?_
  refine ex_mem (xZ_B (h0 73 (by decide)) (fun k => hl 73 k (by decide))) ?_
  refine ex_putR dX10_init_146 fl_Model_59 cf_10 rfl (Or.inr ⟨rfl, rfl, rfl⟩) (fun _ => rfl) (fun _ => rfl) ⟨_, rfl⟩ rfl (by decide) ?_
  refine ex_rB ?_
  refine ex_aload_n (i := 0) dX10_init_149 rfl rfl ?_
  refine ex_bipush (v := nI 56) dX10_init_150 (by decide) ?_
  refine ex_Kw (K := (18 + 1, 3270 + 56)) ⟨by decide, by decide⟩ ?_
  refine ex_newaZ (N := 56) dX10_init_152 wr_boolean rfl rfl (by decide) ?_
  refine ex_mem (xZ_B (h0 74 (by decide)) (fun k => hl 74 k (by decide))) ?_
  refine ex_putR dX10_init_154 fl_Model_62 cf_10 rfl (Or.inr ⟨rfl, rfl, rfl⟩) (fun _ => rfl) (fun _ => rfl) ⟨_, rfl⟩ rfl (by decide) ?_
  refine ex_rB ?_
  refine ex_aload_n (i := 0) dX10_init_157 rfl rfl ?_
  refine ex_bipush (v := nI 15) dX10_init_158 (by decide) ?_
  refine ex_Kw (K := (17 + 1, 3255 + 15)) ⟨by decide, by decide⟩ ?_
  refine ex_newaI (N := 15) dX10_init_160 wr_int rfl rfl (by decide) ?_
  refine ex_mem (xZ_B (h0 75 (by decide)) (fun k => hl 75 k (by decide))) ?_
  refine ex_putR dX10_init_162 fl_Model_65 cf_10 rfl (Or.inr ⟨rfl, rfl, rfl⟩) (fun _ => rfl) (fun _ => rfl) ⟨_, rfl⟩ rfl (by decide) ?_
  refine ex_rB ?_
  refine ex_aload_n (i := 0) dX10_init_165 rfl rfl ?_
  refine ex_iconst (v := nI 5) dX10_init_166 (by decide) ?_
  refine ex_Kw (K := (16 + 1, 3250 + 5)) ⟨by decide, by decide⟩ ?_
  refine ex_newaI (N := 5) dX10_init_167 wr_int rfl rfl (by decide) ?_
  refine ex_mem (xZ_B (h0 76 (by decide)) (fun k => hl 76 k (by decide))) ?_
  refine ex_putR dX10_init_169 fl_Model_68 cf_10 rfl (Or.inr ⟨rfl, rfl, rfl⟩) (fun _ => rfl) (fun _ => rfl) ⟨_, rfl⟩ rfl (by decide) ?_
  refine ex_rB ?_
  refine ex_aload_n (i := 0) dX10_init_172 rfl rfl ?_
  refine ex_bipush (v := nI 40) dX10_init_173 (by decide) ?_
  refine ex_Kw (K := (15 + 1, 3210 + 40)) ⟨by decide, by decide⟩ ?_
  refine ex_newaI (N := 40) dX10_init_175 wr_int rfl rfl (by decide) ?_
  refine ex_mem (xZ_B (h0 77 (by decide)) (fun k => hl 77 k (by decide))) ?_
  refine ex_putR dX10_init_177 fl_Model_71 cf_10 rfl (Or.inr ⟨rfl, rfl, rfl⟩) (fun _ => rfl) (fun _ => rfl) ⟨_, rfl⟩ rfl (by decide) ?_
  refine ex_rB ?_
  refine ex_aload_n (i := 0) dX10_init_180 rfl rfl ?_
  refine ex_bipush (v := nI 40) dX10_init_181 (by decide) ?_
  refine ex_Kw (K := (14 + 1, 3170 + 40)) ⟨by decide, by decide⟩ ?_
  refine ex_newaI (N := 40) dX10_init_183 wr_int rfl rfl (by decide) ?_
  refine ex_mem (xZ_B (h0 78 (by decide)) (fun k => hl 78 k (by decide))) ?_
  refine ex_putR dX10_init_185 fl_Model_74 cf_10 rfl (Or.inr ⟨rfl, rfl, rfl⟩) (fun _ => rfl) (fun _ => rfl) ⟨_, rfl⟩ rfl (by decide) ?_
  refine ex_rB ?_
  refine ex_aload_n (i := 0) dX10_init_188 rfl rfl ?_
  refine ex_sipush (v := nI 160) dX10_init_189 (by decide) ?_
  refine ex_Kw (K := (13 + 1, 3010 + 160)) ⟨by decide, by decide⟩ ?_
  refine ex_newaI (N := 160) dX10_init_192 wr_int rfl rfl (by decide) ?_
  refine ex_mem (xZ_B (h0 79 (by decide)) (fun k => hl 79 k (by decide))) ?_
  refine ex_putR dX10_init_194 fl_Model_77 cf_10 rfl (Or.inr ⟨rfl, rfl, rfl⟩) (fun _ => rfl) (fun _ => rfl) ⟨_, rfl⟩ rfl (by decide) ?_
  refine ex_rB ?_
  refine ex_aload_n (i := 0) dX10_init_197 rfl rfl ?_
  refine ex_sipush (v := nI 160) dX10_init_198 (by decide) ?_
  refine ex_Kw (K := (12 + 1, 2850 + 160)) ⟨by decide, by decide⟩ ?_
  refine ex_newaI (N := 160) dX10_init_201 wr_int rfl rfl (by decide) ?_
  refine ex_mem (xZ_B (h0 80 (by decide)) (fun k => hl 80 k (by decide))) ?_
  refine ex_putR dX10_init_203 fl_Model_80 cf_10 rfl (Or.inr ⟨rfl, rfl, rfl⟩) (fun _ => rfl) (fun _ => rfl) ⟨_, rfl⟩ rfl (by decide) ?_
  refine ex_rB ?_
  refine ex_aload_n (i := 0) dX10_init_206 rfl rfl ?_
  refine ex_sipush (v := nI 150) dX10_init_207 (by decide) ?_
  refine ex_Kw (K := (11 + 1, 2700 + 150)) ⟨by decide, by decide⟩ ?_
  refine ex_newaI (N := 150) dX10_init_210 wr_int rfl rfl (by decide) ?_
  refine ex_mem (xZ_B (h0 81 (by decide)) (fun k => hl 81 k (by decide))) ?_
  refine ex_putR dX10_init_212 fl_Model_83 cf_10 rfl (Or.inr ⟨rfl, rfl, rfl⟩) (fun _ => rfl) (fun _ => rfl) ⟨_, rfl⟩ rfl (by decide) ?_
  refine ex_rB ?_
  refine ex_aload_n (i := 0) dX10_init_215 rfl rfl ?_
  refine ex_sipush (v := nI 150) dX10_init_216 (by decide) ?_
  refine ex_Kw (K := (10 + 1, 2550 + 150)) ⟨by decide, by decide⟩ ?_
  refine ex_newaI (N := 150) dX10_init_219 wr_int rfl rfl (by decide) ?_
  refine ex_mem (xZ_B (h0 82 (by decide)) (fun k => hl 82 k (by decide))) ?_
  refine ex_putR dX10_init_221 fl_Model_86 cf_10 rfl (Or.inr ⟨rfl, rfl, rfl⟩) (fun _ => rfl) (fun _ => rfl) ⟨_, rfl⟩ rfl (by decide) ?_
  refine ex_rB ?_
  refine ex_aload_n (i := 0) dX10_init_224 rfl rfl ?_
  refine ex_sipush (v := nI 150) dX10_init_225 (by decide) ?_
  refine ex_Kw (K := (9 + 1, 2400 + 150)) ⟨by decide, by decide⟩ ?_
  refine ex_newaI (N := 150) dX10_init_228 wr_int rfl rfl (by decide) ?_
  refine ex_mem (xZ_B (h0 83 (by decide)) (fun k => hl 83 k (by decide))) ?_
  refine ex_putR dX10_init_230 fl_Model_89 cf_10 rfl (Or.inr ⟨rfl, rfl, rfl⟩) (fun _ => rfl) (fun _ => rfl) ⟨_, rfl⟩ rfl (by decide) ?_
  refine ex_rB ?_
  refine ex_aload_n (i := 0) dX10_init_233 rfl rfl ?_
  refine ex_sipush (v := nI 150) dX10_init_234 (by decide) ?_
  refine ex_Kw (K := (8 + 1, 2250 + 150)) ⟨by decide, by decide⟩ ?_
  refine ex_newaI (N := 150) dX10_init_237 wr_int rfl rfl (by decide) ?_
  refine ex_mem (xZ_B (h0 84 (by decide)) (fun k => hl 84 k (by decide))) ?_
  refine ex_putR dX10_init_239 fl_Model_92 cf_10 rfl (Or.inr ⟨rfl, rfl, rfl⟩) (fun _ => rfl) (fun _ => rfl) ⟨_, rfl⟩ rfl (by decide) ?_
  refine ex_rB ?_
  refine ex_aload_n (i := 0) dX10_init_242 rfl rfl ?_
  refine ex_sipush (v := nI 150) dX10_init_243 (by decide) ?_
  refine ex_Kw (K := (7 + 1, 2100 + 150)) ⟨by decide, by decide⟩ ?_
  refine ex_newaI (N := 150) dX10_init_246 wr_int rfl rfl (by decide) ?_
  refine ex_mem (xZ_B (h0 85 (by decide)) (fun k => hl 85 k (by decide))) ?_
  refine ex_putR dX10_init_248 fl_Model_95 cf_10 rfl (Or.inr ⟨rfl, rfl, rfl⟩) (fun _ => rfl) (fun _ => rfl) ⟨_, rfl⟩ rfl (by decide) ?_
  refine ex_rB ?_
  refine ex_aload_n (i := 0) dX10_init_251 rfl rfl ?_
  refine ex_sipush (v := nI 150) dX10_init_252 (by decide) ?_
  refine ex_Kw (K := (6 + 1, 1950 + 150)) ⟨by decide, by decide⟩ ?_
  refine ex_newaI (N := 150) dX10_init_255 wr_int rfl rfl (by decide) ?_
  refine ex_mem (xZ_B (h0 86 (by decide)) (fun k => hl 86 k (by decide))) ?_
  refine ex_putR dX10_init_257 fl_Model_98 cf_10 rfl (Or.inr ⟨rfl, rfl, rfl⟩) (fun _ => rfl) (fun _ => rfl) ⟨_, rfl⟩ rfl (by decide) ?_
  refine ex_rB ?_
  refine ex_aload_n (i := 0) dX10_init_260 rfl rfl ?_
  refine ex_sipush (v := nI 150) dX10_init_261 (by decide) ?_
  refine ex_Kw (K := (5 + 1, 1800 + 150)) ⟨by decide, by decide⟩ ?_
  refine ex_newaI (N := 150) dX10_init_264 wr_int rfl rfl (by decide) ?_
  refine ex_mem (xZ_B (h0 87 (by decide)) (fun k => hl 87 k (by decide))) ?_
  refine ex_putR dX10_init_266 fl_Model_101 cf_10 rfl (Or.inr ⟨rfl, rfl, rfl⟩) (fun _ => rfl) (fun _ => rfl) ⟨_, rfl⟩ rfl (by decide) ?_
  refine ex_rB ?_
  refine ex_aload_n (i := 0) dX10_init_269 rfl rfl ?_
  refine ex_sipush (v := nI 150) dX10_init_270 (by decide) ?_
  refine ex_Kw (K := (4 + 1, 1650 + 150)) ⟨by decide, by decide⟩ ?_
  refine ex_newaI (N := 150) dX10_init_273 wr_int rfl rfl (by decide) ?_
  refine ex_mem (xZ_B (h0 88 (by decide)) (fun k => hl 88 k (by decide))) ?_
  refine ex_putR dX10_init_275 fl_Model_104 cf_10 rfl (Or.inr ⟨rfl, rfl, rfl⟩) (fun _ => rfl) (fun _ => rfl) ⟨_, rfl⟩ rfl (by decide) ?_
  refine ex_rB ?_
  refine ex_aload_n (i := 0) dX10_init_278 rfl rfl ?_
  refine ex_sipush (v := nI 150) dX10_init_279 (by decide) ?_
  refine ex_Kw (K := (3 + 1, 1500 + 150)) ⟨by decide, by decide⟩ ?_
  refine ex_newaI (N := 150) dX10_init_282 wr_int rfl rfl (by decide) ?_
  refine ex_mem (xZ_B (h0 89 (by decide)) (fun k => hl 89 k (by decide))) ?_
  refine ex_putR dX10_init_284 fl_Model_107 cf_10 rfl (Or.inr ⟨rfl, rfl, rfl⟩) (fun _ => rfl) (fun _ => rfl) ⟨_, rfl⟩ rfl (by decide) ?_
  refine ex_rB ?_
  refine ex_aload_n (i := 0) dX10_init_287 rfl rfl ?_
  refine ex_sipush (v := nI 600) dX10_init_288 (by decide) ?_
  refine ex_Kw (K := (2 + 1, 900 + 600)) ⟨by decide, by decide⟩ ?_
  refine ex_newaI (N := 600) dX10_init_291 wr_int rfl rfl (by decide) ?_
  refine ex_mem (xZ_B (h0 90 (by decide)) (fun k => hl 90 k (by decide))) ?_
  refine ex_putR dX10_init_293 fl_Model_110 cf_10 rfl (Or.inr ⟨rfl, rfl, rfl⟩) (fun _ => rfl) (fun _ => rfl) ⟨_, rfl⟩ rfl (by decide) ?_
  refine ex_rB ?_
  refine ex_aload_n (i := 0) dX10_init_296 rfl rfl ?_
  refine ex_sipush (v := nI 450) dX10_init_297 (by decide) ?_
  refine ex_Kw (K := (1 + 1, 450 + 450)) ⟨by decide, by decide⟩ ?_
  refine ex_newaJ (N := 450) dX10_init_300 wr_long rfl rfl (by decide) ?_
  refine ex_mq xZL_q ?_
  refine ex_putR dX10_init_302 fl_Model_113 cf_10 rfl (Or.inr ⟨rfl, rfl, rfl⟩) (fun _ => rfl) (fun _ => rfl) ⟨_, rfl⟩ rfl (by decide) ?_
  refine ex_rB ?_
  refine ex_aload_n (i := 0) dX10_init_305 rfl rfl ?_
  refine ex_sipush (v := nI 450) dX10_init_306 (by decide) ?_
  refine ex_Kw (K := (0 + 1, 0 + 450)) ⟨by decide, by decide⟩ ?_
  refine ex_newaZ (N := 450) dX10_init_309 wr_boolean rfl rfl (by decide) ?_
  refine ex_mem (xZ_B (h0 92 (by decide)) (fun k => hl 92 k (by decide))) ?_
  refine ex_putR dX10_init_311 fl_Model_117 cf_10 rfl (Or.inr ⟨rfl, rfl, rfl⟩) (fun _ => rfl) (fun _ => rfl) ⟨_, rfl⟩ rfl (by decide) ?_
  refine ex_rB ?_
  refine ex_aload_n (i := 0) dX10_init_314 rfl rfl ?_
  refine ex_iconst (v := -1) dX10_init_315 (by decide) ?_
  refine ex_putI dX10_init_316 fl_Model_120 cf_10 rfl (Or.inl rfl) rfl rfl rfl (by decide) ?_
  refine ex_iB ?_
  refine ex_iconst (v := nI 0) dX10_init_319 (by decide) ?_
  refine ex_istore_n (L' := [some (.ref (56)), some (.int (nI (0)))]) dX10_init_320 (i := 1) rfl (by decide) rfl ?_
  exact lp_Model_init rfl (fun i1 h1 h2 => hQ i1 h1 h2) 210 0 _ rfl (fun c _ => rfl) (fun j h => absurd h (Nat.not_lt_zero j))
end S88b
