/-! ===== constructors ===== -/
def iB (i0 : Nat → Nat → Int32) (l : List ((Nat × Nat) × Int32)) : Nat → Nat → Int32 := fun a k => match l.lookup (a, k) with | some v => v | none => i0 a k
def rB (l : List ((Nat × Nat) × Nat)) : Nat → Nat → Value := fun a k => match l.lookup (a, k) with | some v => .ref v | none => .null
theorem lk_cons {β : Type} {l : List ((Nat × Nat) × β)} {a k b j : Nat} {v : β} : List.lookup (b, j) (((a, k), v) :: l) = if b = a ∧ j = k then some v else List.lookup (b, j) l := by
  by_cases h : b = a ∧ j = k
  · obtain ⟨rfl, rfl⟩ := h
    rw [if_pos ⟨rfl, rfl⟩]; simp [List.lookup]
  · rw [if_neg h]
    have : ((b, j) == (a, k)) = false := by
      rw [beq_eq_false_iff_ne]
      intro e; cases e; exact h ⟨rfl, rfl⟩
    simp [List.lookup, this]
theorem iB_U {i0 : Nat → Nat → Int32} {l : List ((Nat × Nat) × Int32)} {a k : Nat} {x : Int32} : xU (iB i0 l) a k x = iB i0 (((a, k), x) :: l) := by
  funext b j
  unfold iB xU
  rw [lk_cons]
  by_cases h : b = a
  · subst h
    unfold upd
    by_cases h2 : j = k
    · subst h2; simp
    · simp [h2]
  · rw [if_neg h, if_neg (fun z => h z.1)]
theorem rB_U {l : List ((Nat × Nat) × Nat)} {a k v : Nat} : xUR (rB l) a k (.ref v) = rB (((a, k), v) :: l) := by
  funext b j
  unfold rB xUR
  rw [lk_cons]
  by_cases h : b = a
  · subst h
    by_cases h2 : j = k
    · subst h2; simp
    · simp [h2]
  · rw [if_neg h, if_neg (fun z => h z.1)]
theorem xZ_B {i0 : Nat → Nat → Int32} {l : List ((Nat × Nat) × Int32)} {n : Nat} (h0 : i0 n = fun _ => 0) (hl : ∀ k, l.lookup (n, k) = none) : xZ (iB i0 l) n = iB i0 l := by
  funext b j
  unfold xZ
  by_cases h : b = n
  · subst h
    rw [if_pos rfl]
    unfold iB
    rw [hl, h0]
  · rw [if_neg h]
theorem xZR_B {l : List ((Nat × Nat) × Nat)} {n : Nat} (hl : ∀ k, l.lookup (n, k) = none) : xZR (rB l) n = rB l := by
  funext b j
  unfold xZR
  by_cases h : b = n
  · subst h
    rw [if_pos rfl]
    unfold rB
    rw [hl]
  · rw [if_neg h]
theorem xZL_q {n : Nat} : xZL q0L n = q0L := by
  funext b j
  unfold xZL q0L
  split <;> rfl
theorem lkN {β : Type} {c : Nat} : ∀ {l : List ((Nat × Nat) × β)}, (l.all fun p => decide (p.1.1 < c)) = true → ∀ a k, c ≤ a → l.lookup (a, k) = none
  | [], _, _, _, _ => rfl
  | ((b, j), v) :: l, h, a, k, hc => by
    rw [List.all_cons, Bool.and_eq_true] at h
    have h1 : b < c := of_decide_eq_true h.1
    rw [lk_cons, if_neg (by omega)]
    exact lkN h.2 a k hc
theorem mx0 {N : Nat} (h : N < 4096) : (if nI 0 < nI N then nI N else nI 0) = nI N := by
  by_cases c : nI 0 < nI N
  · rw [if_pos c]
  · rw [if_neg c]
    have : ¬ 0 < N := fun z => c (by rw [Int32.lt_iff_toInt_lt, nI_toInt (by omega), nI_toInt (by omega)]; omega)
    rw [show N = 0 by omega]
section S88
variable {μ : xMeth} {pc : Nat} {L : xLoc} {st : List Value} {n g : Nat} {i : Nat → Nat → Int32} {q : Nat → Nat → Int64} {r : Nat → Nat → Value} {K : Nat × Nat} {Q : xRes → xMem → Prop}
theorem ex_Kw {M : xMem} {K K' : Nat × Nat} (h : K.1 ≤ K'.1 ∧ K.2 ≤ K'.2) (k : Wx μ pc L st M K Q) : Wx μ pc L st M K' Q := by
  intro p l e s m args below meth c R base b D T CT ST QF hC hF H locs cells slots ls hS hL hc hs
  exact k p l e s m args below meth c R base b D T CT ST QF hC hF H locs cells slots ls hS hL (Nat.le_trans (Nat.add_le_add_left h.1 _) hc) (Nat.le_trans (Nat.add_le_add_left h.2 _) hs)
theorem ex_iB {i0 : Nat → Nat → Int32} {l : List ((Nat × Nat) × Int32)} {a k : Nat} {x : Int32} (h : Wx μ pc L st (n, g, iB i0 (((a, k), x) :: l), q, r) K Q) : Wx μ pc L st (n, g, xU (iB i0 l) a k x, q, r) K Q := by rw [iB_U]; exact h
theorem ex_rB {l : List ((Nat × Nat) × Nat)} {a k v : Nat} (h : Wx μ pc L st (n, g, i, q, rB (((a, k), v) :: l)) K Q) : Wx μ pc L st (n, g, i, q, xUR (rB l) a k (.ref v)) K Q := by rw [rB_U]; exact h
theorem ex_mq {q' : Nat → Nat → Int64} (h : q = q') (k : Wx μ pc L st (n, g, i, q', r) K Q) : Wx μ pc L st (n, g, i, q, r) K Q := by rw [h]; exact k
end S88
section S88b
variable {i0 : Nat → Nat → Int32} {l : List ((Nat × Nat) × Int32)} {rl : List ((Nat × Nat) × Nat)} {Q : xRes → xMem → Prop}
theorem sp_Row_init {a N : Nat} (hs : SHl[a]? = some (.inl 6)) (hs2 : SHl[a + 1]? = some (.inr (0, N))) (hN : N < 4096) (h0 : i0 (a + 1) = fun _ => 0) (hl : ∀ k, l.lookup (a + 1, k) = none) (hQ : Q (.ok none) (a + 2, 0, iB i0 l, q0L, rB (((a, 0), a + 1) :: rl))) : Wx m_Row_init 0 [some (.ref a), some (.int (nI (N)))] [] (a + 1, 0, iB i0 l, q0L, rB rl) (1, N) Q := by
  refine ex_aload_n (i := 0) dX6_init_0 rfl rfl ?_
  refine ex_objInit dX6_init_1 ln_Row_1 wo_2 wo_3 (by decide) ?_
  refine ex_aload_n (i := 0) dX6_init_4 rfl rfl ?_
  refine ex_iconst (v := nI 0) dX6_init_5 (by decide) ?_
  refine ex_iload_n (i := 1) dX6_init_6 rfl rfl ?_
  refine ex_mmax dX6_init_7 ln_Row_7 wm_2 wm_3 wm_4 ⟨(Nat.le_of_ble_eq_true rfl), (Nat.le_of_ble_eq_true rfl), (Nat.le_of_ble_eq_true rfl)⟩ ?_
  refine ex_Kw (K := (0 + 1, 0 + (N))) ⟨Nat.le_refl _, Nat.le_of_eq (Nat.zero_add _)⟩ ?_
  refine ex_newaI (N := (N)) dX6_init_10 wr_int hs2 (mx0 hN) hN ?_
  refine ex_mem (xZ_B h0 (fun k => hl k)) ?_
  refine ex_putR dX6_init_12 fl_Row_13 cf_6 rfl (Or.inr ⟨rfl, rfl, rfl⟩) (fun _ => rfl) (fun _ => rfl) ⟨_, rfl⟩ hs (by first | exact Nat.lt_succ_self _ | exact Nat.lt_of_lt_of_le (Nat.lt_succ_self _) (Nat.le_succ _)) ?_
  refine ex_rB ?_
  refine ex_ret dX6_init_15 rfl ?_
  exact hQ
theorem sp_LongRow_init {a N : Nat} (hs : SHl[a]? = some (.inl 3)) (hs2 : SHl[a + 1]? = some (.inr (2, N))) (hN : N < 4096) (hQ : Q (.ok none) (a + 2, 0, iB i0 l, q0L, rB (((a, 0), a + 1) :: rl))) : Wx m_LongRow_init 0 [some (.ref a), some (.int (nI (N)))] [] (a + 1, 0, iB i0 l, q0L, rB rl) (1, N) Q := by
  refine ex_aload_n (i := 0) dX3_init_0 rfl rfl ?_
  refine ex_objInit dX3_init_1 ln_LongRow_1 wo_2 wo_3 (by decide) ?_
  refine ex_aload_n (i := 0) dX3_init_4 rfl rfl ?_
  refine ex_iconst (v := nI 0) dX3_init_5 (by decide) ?_
  refine ex_iload_n (i := 1) dX3_init_6 rfl rfl ?_
  refine ex_mmax dX3_init_7 ln_LongRow_7 wm_2 wm_3 wm_4 ⟨(Nat.le_of_ble_eq_true rfl), (Nat.le_of_ble_eq_true rfl), (Nat.le_of_ble_eq_true rfl)⟩ ?_
  refine ex_Kw (K := (0 + 1, 0 + (N))) ⟨Nat.le_refl _, Nat.le_of_eq (Nat.zero_add _)⟩ ?_
  refine ex_newaJ (N := (N)) dX3_init_10 wr_long hs2 (mx0 hN) hN ?_
  refine ex_mq xZL_q ?_
  refine ex_putR dX3_init_12 fl_LongRow_13 cf_3 rfl (Or.inr ⟨rfl, rfl, rfl⟩) (fun _ => rfl) (fun _ => rfl) ⟨_, rfl⟩ hs (by first | exact Nat.lt_succ_self _ | exact Nat.lt_of_lt_of_le (Nat.lt_succ_self _) (Nat.le_succ _)) ?_
  refine ex_rB ?_
  refine ex_ret dX3_init_15 rfl ?_
  exact hQ
theorem sp_Grid_init {a R C : Nat} (hs : SHl[a]? = some (.inl 2)) (hs2 : SHl[a + 1]? = some (.inr (0, R * C))) (hN : R * C < 4096) (h0 : i0 (a + 1) = fun _ => 0) (hl : ∀ k, l.lookup (a + 1, k) = none) (hQ : Q (.ok none) (a + 2, 0, iB i0 (((a, 1), nI C) :: ((a, 0), nI R) :: l), q0L, rB (((a, 2), a + 1) :: rl))) : Wx m_Grid_init 0 [some (.ref a), some (.int (nI R)), some (.int (nI C))] [] (a + 1, 0, iB i0 l, q0L, rB rl) (1, R * C) Q := by
  have hl2 : ∀ k, List.lookup (a + 1, k) (((a, 1), nI C) :: ((a, 0), nI R) :: l) = none := fun k => by rw [lk_cons, if_neg (by omega), lk_cons, if_neg (by omega)]; exact hl k
  refine ex_aload_n (i := 0) dX2_init_0 rfl rfl ?_
  refine ex_objInit dX2_init_1 ln_Grid_1 wo_2 wo_3 (by decide) ?_
  refine ex_aload_n (i := 0) dX2_init_4 rfl rfl ?_
  refine ex_iload_n (i := 1) dX2_init_5 rfl rfl ?_
  refine ex_putI dX2_init_6 fl_Grid_7 cf_2 rfl (Or.inr ⟨rfl, rfl, rfl⟩) rfl rfl hs (by first | exact Nat.lt_succ_self _ | exact Nat.lt_of_lt_of_le (Nat.lt_succ_self _) (Nat.le_succ _)) ?_
  refine ex_iB ?_
  refine ex_aload_n (i := 0) dX2_init_9 rfl rfl ?_
  refine ex_iload_n (i := 2) dX2_init_10 rfl rfl ?_
  refine ex_putI dX2_init_11 fl_Grid_13 cf_2 rfl (Or.inr ⟨rfl, rfl, rfl⟩) rfl rfl hs (by first | exact Nat.lt_succ_self _ | exact Nat.lt_of_lt_of_le (Nat.lt_succ_self _) (Nat.le_succ _)) ?_
  refine ex_iB ?_
  refine ex_aload_n (i := 0) dX2_init_14 rfl rfl ?_
  refine ex_iconst (v := nI 0) dX2_init_15 (by decide) ?_
  refine ex_iload_n (i := 1) dX2_init_16 rfl rfl ?_
  refine ex_iload_n (i := 2) dX2_init_17 rfl rfl ?_
  refine ex_imulN dX2_init_18 ?_
  refine ex_mmax dX2_init_19 ln_Grid_16 wm_2 wm_3 wm_4 ⟨(Nat.le_of_ble_eq_true rfl), (Nat.le_of_ble_eq_true rfl), (Nat.le_of_ble_eq_true rfl)⟩ ?_
  refine ex_Kw (K := (0 + 1, 0 + (R * C))) ⟨Nat.le_refl _, Nat.le_of_eq (Nat.zero_add _)⟩ ?_
  refine ex_newaI (N := (R * C)) dX2_init_22 wr_int hs2 (mx0 hN) hN ?_
  refine ex_mem (xZ_B h0 hl2) ?_
  refine ex_putR dX2_init_24 fl_Grid_22 cf_2 rfl (Or.inr ⟨rfl, rfl, rfl⟩) (fun _ => rfl) (fun _ => rfl) ⟨_, rfl⟩ hs (by first | exact Nat.lt_succ_self _ | exact Nat.lt_of_lt_of_le (Nat.lt_succ_self _) (Nat.le_succ _)) ?_
  refine ex_rB ?_
  refine ex_ret dX2_init_27 rfl ?_
  exact hQ
set_option maxRecDepth 20000 in
theorem sp_Grammar_init_1 (h0 : ∀ a, a < 60 → i0 a = fun _ => 0) (hl : ∀ a k, 2 ≤ a → l.lookup (a, k) = none) (hr : ∀ a k, 2 ≤ a → rl.lookup (a, k) = none) (hQ : Q (.ok none) (16, 0, iB i0 ((((1), 8), nI (0)) :: ((((1), 7), nI (0)) :: ((((14), 1), nI (15)) :: ((((14), 0), nI (14)) :: ((((12), 1), nI (15)) :: ((((12), 0), nI (14)) :: ((((10), 1), nI (15)) :: ((((10), 0), nI (14)) :: ((((2), 1), nI (5)) :: ((((2), 0), nI (15)) :: l)))))))))), q0L, rB ((((1), 6), 14) :: ((((14), 2), 15) :: ((((1), 5), 12) :: ((((12), 2), 13) :: ((((1), 4), 10) :: ((((10), 2), 11) :: ((((1), 3), 8) :: ((((8), 0), 9) :: ((((1), 2), 6) :: ((((6), 0), 7) :: ((((1), 1), 4) :: ((((4), 0), 5) :: ((((1), 0), 2) :: ((((2), 2), 3) :: rl)))))))))))))))) : Wx m_Grammar_init 0 [some (.ref 1)] [] (2, 0, iB i0 l, q0L, rB rl) (14, 748) Q := by
  refine ex_aload_n (i := 0) dX1_init_0 rfl rfl ?_
  refine ex_objInit dX1_init_1 ln_Grammar_3 wo_2 wo_3 (by decide) ?_
  refine ex_aload_n (i := 0) dX1_init_4 rfl rfl ?_
  refine ex_Kw (K := (13 + 1, 745 + xNf 2)) ⟨by decide, by decide⟩ ?_
  refine ex_new (ci := 2) dX1_init_5 cf_2 nw_Grammar_9.1 nw_Grammar_9.2.1 nw_Grammar_9.2.2 rfl ?_
  refine ex_mem (xZ_B (h0 2 (by decide)) (fun k => hl 2 k (by decide))) ?_
  refine ex_rr (xZR_B (fun k => hr 2 k (by decide))) ?_
  refine ex_dup dX1_init_8 rfl ?_
  refine ex_bipush (v := nI 15) dX1_init_9 (by decide) ?_
  refine ex_iconst (v := nI 5) dX1_init_11 (by decide) ?_
  refine ex_callI (Kc := (1, 75)) (K := (12, 670)) (a := 2) (ci := 2) (as := [.int (nI (15)), .int (nI (5))]) (Qk := fun v M => v = none ∧ M = (4, 0, iB i0 ((((2), 1), nI (5)) :: ((((2), 0), nI (15)) :: l)), q0L, rB ((((2), 2), 3) :: rl))) dX1_init_12 ln_Grammar_11 mf_Grid_init rfl (Nat.le_of_ble_eq_true rfl) np_Grid_init rfl (Nat.le_of_ble_eq_true rfl) (Nat.le_of_ble_eq_true rfl) ⟨(Nat.le_of_ble_eq_true rfl), (Nat.le_of_ble_eq_true rfl)⟩ (Or.inl (by decide)) ⟨by decide, by decide⟩ (sp_Grid_init rfl rfl (by decide) (h0 3 (by decide)) (fun k => hl 3 k (by decide)) ⟨none, rfl, rfl, rfl⟩) ?_
  rintro _ _ ⟨rfl, rfl⟩
  refine ex_putR dX1_init_15 fl_Grammar_14 cf_1 rfl (Or.inr ⟨rfl, rfl, rfl⟩) (fun _ => rfl) (fun _ => rfl) ⟨_, rfl⟩ rfl (by decide) ?_
  refine ex_rB ?_
  refine ex_aload_n (i := 0) dX1_init_18 rfl rfl ?_
  refine ex_Kw (K := (11 + 1, 669 + xNf 6)) ⟨by decide, by decide⟩ ?_
  refine ex_new (ci := 6) dX1_init_19 cf_6 nw_Grammar_20.1 nw_Grammar_20.2.1 nw_Grammar_20.2.2 rfl ?_
  refine ex_mem (xZ_B (h0 4 (by decide)) (fun k => hl 4 k (by decide))) ?_
  refine ex_rr (xZR_B (fun k => hr 4 k (by decide))) ?_
  refine ex_dup dX1_init_22 rfl ?_
  refine ex_bipush (v := nI 7) dX1_init_23 (by decide) ?_
  refine ex_callI (Kc := (1, 7)) (K := (10, 662)) (a := 4) (ci := 6) (as := [.int (nI (7))]) (Qk := fun v M => v = none ∧ M = (6, 0, iB i0 ((((2), 1), nI (5)) :: ((((2), 0), nI (15)) :: l)), q0L, rB ((((4), 0), 5) :: ((((1), 0), 2) :: ((((2), 2), 3) :: rl))))) dX1_init_25 ln_Grammar_22 mf_Row_init rfl (Nat.le_of_ble_eq_true rfl) np_Row_init rfl (Nat.le_of_ble_eq_true rfl) (Nat.le_of_ble_eq_true rfl) ⟨(Nat.le_of_ble_eq_true rfl), (Nat.le_of_ble_eq_true rfl)⟩ (Or.inl (by decide)) ⟨by decide, by decide⟩ (sp_Row_init rfl rfl (by decide) (h0 5 (by decide)) (fun k => hl 5 k (by decide)) ⟨none, rfl, rfl, rfl⟩) ?_
  rintro _ _ ⟨rfl, rfl⟩
  refine ex_putR dX1_init_28 fl_Grammar_25 cf_1 rfl (Or.inr ⟨rfl, rfl, rfl⟩) (fun _ => rfl) (fun _ => rfl) ⟨_, rfl⟩ rfl (by decide) ?_
  refine ex_rB ?_
  refine ex_aload_n (i := 0) dX1_init_31 rfl rfl ?_
  refine ex_Kw (K := (9 + 1, 661 + xNf 6)) ⟨by decide, by decide⟩ ?_
  refine ex_new (ci := 6) dX1_init_32 cf_6 nw_Grammar_20.1 nw_Grammar_20.2.1 nw_Grammar_20.2.2 rfl ?_
  refine ex_mem (xZ_B (h0 6 (by decide)) (fun k => hl 6 k (by decide))) ?_
  refine ex_rr (xZR_B (fun k => hr 6 k (by decide))) ?_
  refine ex_dup dX1_init_35 rfl ?_
  refine ex_bipush (v := nI 7) dX1_init_36 (by decide) ?_
  refine ex_callI (Kc := (1, 7)) (K := (8, 654)) (a := 6) (ci := 6) (as := [.int (nI (7))]) (Qk := fun v M => v = none ∧ M = (8, 0, iB i0 ((((2), 1), nI (5)) :: ((((2), 0), nI (15)) :: l)), q0L, rB ((((6), 0), 7) :: ((((1), 1), 4) :: ((((4), 0), 5) :: ((((1), 0), 2) :: ((((2), 2), 3) :: rl))))))) dX1_init_38 ln_Grammar_22 mf_Row_init rfl (Nat.le_of_ble_eq_true rfl) np_Row_init rfl (Nat.le_of_ble_eq_true rfl) (Nat.le_of_ble_eq_true rfl) ⟨(Nat.le_of_ble_eq_true rfl), (Nat.le_of_ble_eq_true rfl)⟩ (Or.inl (by decide)) ⟨by decide, by decide⟩ (sp_Row_init rfl rfl (by decide) (h0 7 (by decide)) (fun k => hl 7 k (by decide)) ⟨none, rfl, rfl, rfl⟩) ?_
  rintro _ _ ⟨rfl, rfl⟩
  refine ex_putR dX1_init_41 fl_Grammar_29 cf_1 rfl (Or.inr ⟨rfl, rfl, rfl⟩) (fun _ => rfl) (fun _ => rfl) ⟨_, rfl⟩ rfl (by decide) ?_
  refine ex_rB ?_
  refine ex_aload_n (i := 0) dX1_init_44 rfl rfl ?_
  refine ex_Kw (K := (7 + 1, 653 + xNf 6)) ⟨by decide, by decide⟩ ?_
  refine ex_new (ci := 6) dX1_init_45 cf_6 nw_Grammar_20.1 nw_Grammar_20.2.1 nw_Grammar_20.2.2 rfl ?_
  refine ex_mem (xZ_B (h0 8 (by decide)) (fun k => hl 8 k (by decide))) ?_
  refine ex_rr (xZR_B (fun k => hr 8 k (by decide))) ?_
  refine ex_dup dX1_init_48 rfl ?_
  refine ex_bipush (v := nI 14) dX1_init_49 (by decide) ?_
  refine ex_callI (Kc := (1, 14)) (K := (6, 639)) (a := 8) (ci := 6) (as := [.int (nI (14))]) (Qk := fun v M => v = none ∧ M = (10, 0, iB i0 ((((2), 1), nI (5)) :: ((((2), 0), nI (15)) :: l)), q0L, rB ((((8), 0), 9) :: ((((1), 2), 6) :: ((((6), 0), 7) :: ((((1), 1), 4) :: ((((4), 0), 5) :: ((((1), 0), 2) :: ((((2), 2), 3) :: rl))))))))) dX1_init_51 ln_Grammar_22 mf_Row_init rfl (Nat.le_of_ble_eq_true rfl) np_Row_init rfl (Nat.le_of_ble_eq_true rfl) (Nat.le_of_ble_eq_true rfl) ⟨(Nat.le_of_ble_eq_true rfl), (Nat.le_of_ble_eq_true rfl)⟩ (Or.inl (by decide)) ⟨by decide, by decide⟩ (sp_Row_init rfl rfl (by decide) (h0 9 (by decide)) (fun k => hl 9 k (by decide)) ⟨none, rfl, rfl, rfl⟩) ?_
  rintro _ _ ⟨rfl, rfl⟩
  refine ex_putR dX1_init_54 fl_Grammar_32 cf_1 rfl (Or.inr ⟨rfl, rfl, rfl⟩) (fun _ => rfl) (fun _ => rfl) ⟨_, rfl⟩ rfl (by decide) ?_
  refine ex_rB ?_
  refine ex_aload_n (i := 0) dX1_init_57 rfl rfl ?_
  refine ex_Kw (K := (5 + 1, 636 + xNf 2)) ⟨by decide, by decide⟩ ?_
  refine ex_new (ci := 2) dX1_init_58 cf_2 nw_Grammar_9.1 nw_Grammar_9.2.1 nw_Grammar_9.2.2 rfl ?_
  refine ex_mem (xZ_B (h0 10 (by decide)) (fun k => hl 10 k (by decide))) ?_
  refine ex_rr (xZR_B (fun k => hr 10 k (by decide))) ?_
  refine ex_dup dX1_init_61 rfl ?_
  refine ex_bipush (v := nI 14) dX1_init_62 (by decide) ?_
  refine ex_bipush (v := nI 15) dX1_init_64 (by decide) ?_
  refine ex_callI (Kc := (1, 210)) (K := (4, 426)) (a := 10) (ci := 2) (as := [.int (nI (14)), .int (nI (15))]) (Qk := fun v M => v = none ∧ M = (12, 0, iB i0 ((((10), 1), nI (15)) :: ((((10), 0), nI (14)) :: ((((2), 1), nI (5)) :: ((((2), 0), nI (15)) :: l)))), q0L, rB ((((10), 2), 11) :: ((((1), 3), 8) :: ((((8), 0), 9) :: ((((1), 2), 6) :: ((((6), 0), 7) :: ((((1), 1), 4) :: ((((4), 0), 5) :: ((((1), 0), 2) :: ((((2), 2), 3) :: rl))))))))))) dX1_init_66 ln_Grammar_11 mf_Grid_init rfl (Nat.le_of_ble_eq_true rfl) np_Grid_init rfl (Nat.le_of_ble_eq_true rfl) (Nat.le_of_ble_eq_true rfl) ⟨(Nat.le_of_ble_eq_true rfl), (Nat.le_of_ble_eq_true rfl)⟩ (Or.inl (by decide)) ⟨by decide, by decide⟩ (sp_Grid_init rfl rfl (by decide) (h0 11 (by decide)) (fun k => hl 11 k (by decide)) ⟨none, rfl, rfl, rfl⟩) ?_
  rintro _ _ ⟨rfl, rfl⟩
  refine ex_putR dX1_init_69 fl_Grammar_35 cf_1 rfl (Or.inr ⟨rfl, rfl, rfl⟩) (fun _ => rfl) (fun _ => rfl) ⟨_, rfl⟩ rfl (by decide) ?_
  refine ex_rB ?_
  refine ex_aload_n (i := 0) dX1_init_72 rfl rfl ?_
  refine ex_Kw (K := (3 + 1, 423 + xNf 2)) ⟨by decide, by decide⟩ ?_
  refine ex_new (ci := 2) dX1_init_73 cf_2 nw_Grammar_9.1 nw_Grammar_9.2.1 nw_Grammar_9.2.2 rfl ?_
  refine ex_mem (xZ_B (h0 12 (by decide)) (fun k => hl 12 k (by decide))) ?_
  refine ex_rr (xZR_B (fun k => hr 12 k (by decide))) ?_
  refine ex_dup dX1_init_76 rfl ?_
  refine ex_bipush (v := nI 14) dX1_init_77 (by decide) ?_
  refine ex_bipush (v := nI 15) dX1_init_79 (by decide) ?_
  refine ex_callI (Kc := (1, 210)) (K := (2, 213)) (a := 12) (ci := 2) (as := [.int (nI (14)), .int (nI (15))]) (Qk := fun v M => v = none ∧ M = (14, 0, iB i0 ((((12), 1), nI (15)) :: ((((12), 0), nI (14)) :: ((((10), 1), nI (15)) :: ((((10), 0), nI (14)) :: ((((2), 1), nI (5)) :: ((((2), 0), nI (15)) :: l)))))), q0L, rB ((((12), 2), 13) :: ((((1), 4), 10) :: ((((10), 2), 11) :: ((((1), 3), 8) :: ((((8), 0), 9) :: ((((1), 2), 6) :: ((((6), 0), 7) :: ((((1), 1), 4) :: ((((4), 0), 5) :: ((((1), 0), 2) :: ((((2), 2), 3) :: rl))))))))))))) dX1_init_81 ln_Grammar_11 mf_Grid_init rfl (Nat.le_of_ble_eq_true rfl) np_Grid_init rfl (Nat.le_of_ble_eq_true rfl) (Nat.le_of_ble_eq_true rfl) ⟨(Nat.le_of_ble_eq_true rfl), (Nat.le_of_ble_eq_true rfl)⟩ (Or.inl (by decide)) ⟨by decide, by decide⟩ (sp_Grid_init rfl rfl (by decide) (h0 13 (by decide)) (fun k => hl 13 k (by decide)) ⟨none, rfl, rfl, rfl⟩) ?_
  rintro _ _ ⟨rfl, rfl⟩
  refine ex_putR dX1_init_84 fl_Grammar_38 cf_1 rfl (Or.inr ⟨rfl, rfl, rfl⟩) (fun _ => rfl) (fun _ => rfl) ⟨_, rfl⟩ rfl (by decide) ?_
  refine ex_rB ?_
  refine ex_aload_n (i := 0) dX1_init_87 rfl rfl ?_
  refine ex_Kw (K := (1 + 1, 210 + xNf 2)) ⟨by decide, by decide⟩ ?_
  refine ex_new (ci := 2) dX1_init_88 cf_2 nw_Grammar_9.1 nw_Grammar_9.2.1 nw_Grammar_9.2.2 rfl ?_
  refine ex_mem (xZ_B (h0 14 (by decide)) (fun k => hl 14 k (by decide))) ?_
  refine ex_rr (xZR_B (fun k => hr 14 k (by decide))) ?_
  refine ex_dup dX1_init_91 rfl ?_
  refine ex_bipush (v := nI 14) dX1_init_92 (by decide) ?_
  refine ex_bipush (v := nI 15) dX1_init_94 (by decide) ?_
  refine ex_callI (Kc := (1, 210)) (K := (0, 0)) (a := 14) (ci := 2) (as := [.int (nI (14)), .int (nI (15))]) (Qk := fun v M => v = none ∧ M = (16, 0, iB i0 ((((14), 1), nI (15)) :: ((((14), 0), nI (14)) :: ((((12), 1), nI (15)) :: ((((12), 0), nI (14)) :: ((((10), 1), nI (15)) :: ((((10), 0), nI (14)) :: ((((2), 1), nI (5)) :: ((((2), 0), nI (15)) :: l)))))))), q0L, rB ((((14), 2), 15) :: ((((1), 5), 12) :: ((((12), 2), 13) :: ((((1), 4), 10) :: ((((10), 2), 11) :: ((((1), 3), 8) :: ((((8), 0), 9) :: ((((1), 2), 6) :: ((((6), 0), 7) :: ((((1), 1), 4) :: ((((4), 0), 5) :: ((((1), 0), 2) :: ((((2), 2), 3) :: rl))))))))))))))) dX1_init_96 ln_Grammar_11 mf_Grid_init rfl (Nat.le_of_ble_eq_true rfl) np_Grid_init rfl (Nat.le_of_ble_eq_true rfl) (Nat.le_of_ble_eq_true rfl) ⟨(Nat.le_of_ble_eq_true rfl), (Nat.le_of_ble_eq_true rfl)⟩ (Or.inl (by decide)) ⟨by decide, by decide⟩ (sp_Grid_init rfl rfl (by decide) (h0 15 (by decide)) (fun k => hl 15 k (by decide)) ⟨none, rfl, rfl, rfl⟩) ?_
  rintro _ _ ⟨rfl, rfl⟩
  refine ex_putR dX1_init_99 fl_Grammar_41 cf_1 rfl (Or.inr ⟨rfl, rfl, rfl⟩) (fun _ => rfl) (fun _ => rfl) ⟨_, rfl⟩ rfl (by decide) ?_
  refine ex_rB ?_
  refine ex_aload_n (i := 0) dX1_init_102 rfl rfl ?_
  refine ex_iconst (v := nI 0) dX1_init_103 (by decide) ?_
  refine ex_putI dX1_init_104 fl_Grammar_44 cf_1 rfl (Or.inl rfl) rfl rfl rfl (by decide) ?_
  refine ex_iB ?_
  refine ex_aload_n (i := 0) dX1_init_107 rfl rfl ?_
  refine ex_iconst (v := nI 0) dX1_init_108 (by decide) ?_
  refine ex_putI dX1_init_109 fl_Grammar_48 cf_1 rfl (Or.inl rfl) rfl rfl rfl (by decide) ?_
  refine ex_iB ?_
  refine ex_ret dX1_init_112 rfl ?_
  exact hQ
set_option maxRecDepth 20000 in
theorem sp_States_init_16 (h0 : ∀ a, a < 60 → i0 a = fun _ => 0) (hl : ∀ a k, 17 ≤ a → l.lookup (a, k) = none) (hr : ∀ a k, 17 ≤ a → rl.lookup (a, k) = none) (hQ : Q (.ok none) (27, 0, iB i0 ((((16), 7), nI (0)) :: ((((16), 6), nI (0)) :: ((((25), 1), nI (7)) :: ((((25), 0), nI (50)) :: ((((23), 1), nI (14)) :: ((((23), 0), nI (50)) :: ((((21), 1), nI (75)) :: ((((21), 0), nI (50)) :: l)))))))), q0L, rB ((((16), 5), 25) :: ((((25), 2), 26) :: ((((16), 4), 23) :: ((((23), 2), 24) :: ((((16), 3), 21) :: ((((21), 2), 22) :: ((((16), 2), 19) :: ((((19), 0), 20) :: ((((16), 1), 17) :: ((((17), 0), 18) :: ((((16), 0), 1) :: rl))))))))))))) : Wx m_States_init 0 [some (.ref 16), some (.ref 1)] [] (17, 0, iB i0 l, q0L, rB rl) (10, 4875) Q := by
  refine ex_aload_n (i := 0) dX7_init_0 rfl rfl ?_
  refine ex_objInit dX7_init_1 ln_States_3 wo_2 wo_3 (by decide) ?_
  refine ex_aload_n (i := 0) dX7_init_4 rfl rfl ?_
  refine ex_aload_n (i := 1) dX7_init_5 rfl rfl ?_
  refine ex_putR dX7_init_6 fl_States_9 cf_7 rfl (Or.inr ⟨rfl, rfl, rfl⟩) (fun _ => rfl) (fun _ => rfl) ⟨_, rfl⟩ rfl (by decide) ?_
  refine ex_rB ?_
  refine ex_aload_n (i := 0) dX7_init_9 rfl rfl ?_
  refine ex_Kw (K := (9 + 1, 4874 + xNf 3)) ⟨by decide, by decide⟩ ?_
  refine ex_new (ci := 3) dX7_init_10 cf_3 nw_States_15.1 nw_States_15.2.1 nw_States_15.2.2 rfl ?_
  refine ex_mem (xZ_B (h0 17 (by decide)) (fun k => hl 17 k (by decide))) ?_
  refine ex_rr (xZR_B (fun k => hr 17 k (by decide))) ?_
  refine ex_dup dX7_init_13 rfl ?_
  refine ex_bipush (v := nI 50) dX7_init_14 (by decide) ?_
  refine ex_callI (Kc := (1, 50)) (K := (8, 4824)) (a := 17) (ci := 3) (as := [.int (nI (50))]) (Qk := fun v M => v = none ∧ M = (19, 0, iB i0 l, q0L, rB ((((17), 0), 18) :: ((((16), 0), 1) :: rl)))) dX7_init_16 ln_States_17 mf_LongRow_init rfl (Nat.le_of_ble_eq_true rfl) np_LongRow_init rfl (Nat.le_of_ble_eq_true rfl) (Nat.le_of_ble_eq_true rfl) ⟨(Nat.le_of_ble_eq_true rfl), (Nat.le_of_ble_eq_true rfl)⟩ (Or.inl (by decide)) ⟨by decide, by decide⟩ (sp_LongRow_init rfl rfl (by decide) ⟨none, rfl, rfl, rfl⟩) ?_
  rintro _ _ ⟨rfl, rfl⟩
  refine ex_putR dX7_init_19 fl_States_20 cf_7 rfl (Or.inr ⟨rfl, rfl, rfl⟩) (fun _ => rfl) (fun _ => rfl) ⟨_, rfl⟩ rfl (by decide) ?_
  refine ex_rB ?_
  refine ex_aload_n (i := 0) dX7_init_22 rfl rfl ?_
  refine ex_Kw (K := (7 + 1, 4823 + xNf 3)) ⟨by decide, by decide⟩ ?_
  refine ex_new (ci := 3) dX7_init_23 cf_3 nw_States_15.1 nw_States_15.2.1 nw_States_15.2.2 rfl ?_
  refine ex_mem (xZ_B (h0 19 (by decide)) (fun k => hl 19 k (by decide))) ?_
  refine ex_rr (xZR_B (fun k => hr 19 k (by decide))) ?_
  refine ex_dup dX7_init_26 rfl ?_
  refine ex_bipush (v := nI 14) dX7_init_27 (by decide) ?_
  refine ex_callI (Kc := (1, 14)) (K := (6, 4809)) (a := 19) (ci := 3) (as := [.int (nI (14))]) (Qk := fun v M => v = none ∧ M = (21, 0, iB i0 l, q0L, rB ((((19), 0), 20) :: ((((16), 1), 17) :: ((((17), 0), 18) :: ((((16), 0), 1) :: rl)))))) dX7_init_29 ln_States_17 mf_LongRow_init rfl (Nat.le_of_ble_eq_true rfl) np_LongRow_init rfl (Nat.le_of_ble_eq_true rfl) (Nat.le_of_ble_eq_true rfl) ⟨(Nat.le_of_ble_eq_true rfl), (Nat.le_of_ble_eq_true rfl)⟩ (Or.inl (by decide)) ⟨by decide, by decide⟩ (sp_LongRow_init rfl rfl (by decide) ⟨none, rfl, rfl, rfl⟩) ?_
  rintro _ _ ⟨rfl, rfl⟩
  refine ex_putR dX7_init_32 fl_States_24 cf_7 rfl (Or.inr ⟨rfl, rfl, rfl⟩) (fun _ => rfl) (fun _ => rfl) ⟨_, rfl⟩ rfl (by decide) ?_
  refine ex_rB ?_
  refine ex_aload_n (i := 0) dX7_init_35 rfl rfl ?_
  refine ex_Kw (K := (5 + 1, 4806 + xNf 2)) ⟨by decide, by decide⟩ ?_
  refine ex_new (ci := 2) dX7_init_36 cf_2 nw_States_27.1 nw_States_27.2.1 nw_States_27.2.2 rfl ?_
  refine ex_mem (xZ_B (h0 21 (by decide)) (fun k => hl 21 k (by decide))) ?_
  refine ex_rr (xZR_B (fun k => hr 21 k (by decide))) ?_
  refine ex_dup dX7_init_39 rfl ?_
  refine ex_bipush (v := nI 50) dX7_init_40 (by decide) ?_
  refine ex_bipush (v := nI 75) dX7_init_42 (by decide) ?_
  refine ex_callI (Kc := (1, 3750)) (K := (4, 1056)) (a := 21) (ci := 2) (as := [.int (nI (50)), .int (nI (75))]) (Qk := fun v M => v = none ∧ M = (23, 0, iB i0 ((((21), 1), nI (75)) :: ((((21), 0), nI (50)) :: l)), q0L, rB ((((21), 2), 22) :: ((((16), 2), 19) :: ((((19), 0), 20) :: ((((16), 1), 17) :: ((((17), 0), 18) :: ((((16), 0), 1) :: rl)))))))) dX7_init_44 ln_States_29 mf_Grid_init rfl (Nat.le_of_ble_eq_true rfl) np_Grid_init rfl (Nat.le_of_ble_eq_true rfl) (Nat.le_of_ble_eq_true rfl) ⟨(Nat.le_of_ble_eq_true rfl), (Nat.le_of_ble_eq_true rfl)⟩ (Or.inl (by decide)) ⟨by decide, by decide⟩ (sp_Grid_init rfl rfl (by decide) (h0 22 (by decide)) (fun k => hl 22 k (by decide)) ⟨none, rfl, rfl, rfl⟩) ?_
  rintro _ _ ⟨rfl, rfl⟩
  refine ex_putR dX7_init_47 fl_States_32 cf_7 rfl (Or.inr ⟨rfl, rfl, rfl⟩) (fun _ => rfl) (fun _ => rfl) ⟨_, rfl⟩ rfl (by decide) ?_
  refine ex_rB ?_
  refine ex_aload_n (i := 0) dX7_init_50 rfl rfl ?_
  refine ex_Kw (K := (3 + 1, 1053 + xNf 2)) ⟨by decide, by decide⟩ ?_
  refine ex_new (ci := 2) dX7_init_51 cf_2 nw_States_27.1 nw_States_27.2.1 nw_States_27.2.2 rfl ?_
  refine ex_mem (xZ_B (h0 23 (by decide)) (fun k => hl 23 k (by decide))) ?_
  refine ex_rr (xZR_B (fun k => hr 23 k (by decide))) ?_
  refine ex_dup dX7_init_54 rfl ?_
  refine ex_bipush (v := nI 50) dX7_init_55 (by decide) ?_
  refine ex_bipush (v := nI 14) dX7_init_57 (by decide) ?_
  refine ex_callI (Kc := (1, 700)) (K := (2, 353)) (a := 23) (ci := 2) (as := [.int (nI (50)), .int (nI (14))]) (Qk := fun v M => v = none ∧ M = (25, 0, iB i0 ((((23), 1), nI (14)) :: ((((23), 0), nI (50)) :: ((((21), 1), nI (75)) :: ((((21), 0), nI (50)) :: l)))), q0L, rB ((((23), 2), 24) :: ((((16), 3), 21) :: ((((21), 2), 22) :: ((((16), 2), 19) :: ((((19), 0), 20) :: ((((16), 1), 17) :: ((((17), 0), 18) :: ((((16), 0), 1) :: rl)))))))))) dX7_init_59 ln_States_29 mf_Grid_init rfl (Nat.le_of_ble_eq_true rfl) np_Grid_init rfl (Nat.le_of_ble_eq_true rfl) (Nat.le_of_ble_eq_true rfl) ⟨(Nat.le_of_ble_eq_true rfl), (Nat.le_of_ble_eq_true rfl)⟩ (Or.inl (by decide)) ⟨by decide, by decide⟩ (sp_Grid_init rfl rfl (by decide) (h0 24 (by decide)) (fun k => hl 24 k (by decide)) ⟨none, rfl, rfl, rfl⟩) ?_
  rintro _ _ ⟨rfl, rfl⟩
  refine ex_putR dX7_init_62 fl_States_36 cf_7 rfl (Or.inr ⟨rfl, rfl, rfl⟩) (fun _ => rfl) (fun _ => rfl) ⟨_, rfl⟩ rfl (by decide) ?_
  refine ex_rB ?_
  refine ex_aload_n (i := 0) dX7_init_65 rfl rfl ?_
  refine ex_Kw (K := (1 + 1, 350 + xNf 2)) ⟨by decide, by decide⟩ ?_
  refine ex_new (ci := 2) dX7_init_66 cf_2 nw_States_27.1 nw_States_27.2.1 nw_States_27.2.2 rfl ?_
  refine ex_mem (xZ_B (h0 25 (by decide)) (fun k => hl 25 k (by decide))) ?_
  refine ex_rr (xZR_B (fun k => hr 25 k (by decide))) ?_
  refine ex_dup dX7_init_69 rfl ?_
  refine ex_bipush (v := nI 50) dX7_init_70 (by decide) ?_
  refine ex_bipush (v := nI 7) dX7_init_72 (by decide) ?_
  refine ex_callI (Kc := (1, 350)) (K := (0, 0)) (a := 25) (ci := 2) (as := [.int (nI (50)), .int (nI (7))]) (Qk := fun v M => v = none ∧ M = (27, 0, iB i0 ((((25), 1), nI (7)) :: ((((25), 0), nI (50)) :: ((((23), 1), nI (14)) :: ((((23), 0), nI (50)) :: ((((21), 1), nI (75)) :: ((((21), 0), nI (50)) :: l)))))), q0L, rB ((((25), 2), 26) :: ((((16), 4), 23) :: ((((23), 2), 24) :: ((((16), 3), 21) :: ((((21), 2), 22) :: ((((16), 2), 19) :: ((((19), 0), 20) :: ((((16), 1), 17) :: ((((17), 0), 18) :: ((((16), 0), 1) :: rl)))))))))))) dX7_init_74 ln_States_29 mf_Grid_init rfl (Nat.le_of_ble_eq_true rfl) np_Grid_init rfl (Nat.le_of_ble_eq_true rfl) (Nat.le_of_ble_eq_true rfl) ⟨(Nat.le_of_ble_eq_true rfl), (Nat.le_of_ble_eq_true rfl)⟩ (Or.inl (by decide)) ⟨by decide, by decide⟩ (sp_Grid_init rfl rfl (by decide) (h0 26 (by decide)) (fun k => hl 26 k (by decide)) ⟨none, rfl, rfl, rfl⟩) ?_
  rintro _ _ ⟨rfl, rfl⟩
  refine ex_putR dX7_init_77 fl_States_39 cf_7 rfl (Or.inr ⟨rfl, rfl, rfl⟩) (fun _ => rfl) (fun _ => rfl) ⟨_, rfl⟩ rfl (by decide) ?_
  refine ex_rB ?_
  refine ex_aload_n (i := 0) dX7_init_80 rfl rfl ?_
  refine ex_iconst (v := nI 0) dX7_init_81 (by decide) ?_
  refine ex_putI dX7_init_82 fl_States_42 cf_7 rfl (Or.inl rfl) rfl rfl rfl (by decide) ?_
  refine ex_iB ?_
  refine ex_aload_n (i := 0) dX7_init_85 rfl rfl ?_
  refine ex_iconst (v := nI 0) dX7_init_86 (by decide) ?_
  refine ex_putI dX7_init_87 fl_States_46 cf_7 rfl (Or.inl rfl) rfl rfl rfl (by decide) ?_
  refine ex_iB ?_
  refine ex_ret dX7_init_90 rfl ?_
  exact hQ
set_option maxRecDepth 20000 in
theorem sp_Rings_init_27 (h0 : ∀ a, a < 60 → i0 a = fun _ => 0) (hl : ∀ a k, 28 ≤ a → l.lookup (a, k) = none) (hr : ∀ a k, 28 ≤ a → rl.lookup (a, k) = none) (hQ : Q (.ok none) (32, 0, iB i0 ((((27), 3), nI (0)) :: l), q0L, rB ((((27), 2), 30) :: ((((30), 0), 31) :: ((((27), 1), 28) :: ((((28), 0), 29) :: ((((27), 0), 1) :: rl))))))) : Wx m_Rings_init 0 [some (.ref 27), some (.ref 1)] [] (28, 0, iB i0 l, q0L, rB rl) (4, 31) Q := by
  refine ex_aload_n (i := 0) dX5_init_0 rfl rfl ?_
  refine ex_objInit dX5_init_1 ln_Rings_3 wo_2 wo_3 (by decide) ?_
  refine ex_aload_n (i := 0) dX5_init_4 rfl rfl ?_
  refine ex_aload_n (i := 1) dX5_init_5 rfl rfl ?_
  refine ex_putR dX5_init_6 fl_Rings_9 cf_5 rfl (Or.inr ⟨rfl, rfl, rfl⟩) (fun _ => rfl) (fun _ => rfl) ⟨_, rfl⟩ rfl (by decide) ?_
  refine ex_rB ?_
  refine ex_aload_n (i := 0) dX5_init_9 rfl rfl ?_
  refine ex_Kw (K := (3 + 1, 30 + xNf 6)) ⟨by decide, by decide⟩ ?_
  refine ex_new (ci := 6) dX5_init_10 cf_6 nw_Rings_15.1 nw_Rings_15.2.1 nw_Rings_15.2.2 rfl ?_
  refine ex_mem (xZ_B (h0 28 (by decide)) (fun k => hl 28 k (by decide))) ?_
  refine ex_rr (xZR_B (fun k => hr 28 k (by decide))) ?_
  refine ex_dup dX5_init_13 rfl ?_
  refine ex_bipush (v := nI 14) dX5_init_14 (by decide) ?_
  refine ex_callI (Kc := (1, 14)) (K := (2, 16)) (a := 28) (ci := 6) (as := [.int (nI (14))]) (Qk := fun v M => v = none ∧ M = (30, 0, iB i0 l, q0L, rB ((((28), 0), 29) :: ((((27), 0), 1) :: rl)))) dX5_init_16 ln_Rings_17 mf_Row_init rfl (Nat.le_of_ble_eq_true rfl) np_Row_init rfl (Nat.le_of_ble_eq_true rfl) (Nat.le_of_ble_eq_true rfl) ⟨(Nat.le_of_ble_eq_true rfl), (Nat.le_of_ble_eq_true rfl)⟩ (Or.inl (by decide)) ⟨by decide, by decide⟩ (sp_Row_init rfl rfl (by decide) (h0 29 (by decide)) (fun k => hl 29 k (by decide)) ⟨none, rfl, rfl, rfl⟩) ?_
  rintro _ _ ⟨rfl, rfl⟩
  refine ex_putR dX5_init_19 fl_Rings_20 cf_5 rfl (Or.inr ⟨rfl, rfl, rfl⟩) (fun _ => rfl) (fun _ => rfl) ⟨_, rfl⟩ rfl (by decide) ?_
  refine ex_rB ?_
  refine ex_aload_n (i := 0) dX5_init_22 rfl rfl ?_
  refine ex_Kw (K := (1 + 1, 15 + xNf 6)) ⟨by decide, by decide⟩ ?_
  refine ex_new (ci := 6) dX5_init_23 cf_6 nw_Rings_15.1 nw_Rings_15.2.1 nw_Rings_15.2.2 rfl ?_
  refine ex_mem (xZ_B (h0 30 (by decide)) (fun k => hl 30 k (by decide))) ?_
  refine ex_rr (xZR_B (fun k => hr 30 k (by decide))) ?_
  refine ex_dup dX5_init_26 rfl ?_
  refine ex_bipush (v := nI 15) dX5_init_27 (by decide) ?_
  refine ex_callI (Kc := (1, 15)) (K := (0, 0)) (a := 30) (ci := 6) (as := [.int (nI (15))]) (Qk := fun v M => v = none ∧ M = (32, 0, iB i0 l, q0L, rB ((((30), 0), 31) :: ((((27), 1), 28) :: ((((28), 0), 29) :: ((((27), 0), 1) :: rl)))))) dX5_init_29 ln_Rings_17 mf_Row_init rfl (Nat.le_of_ble_eq_true rfl) np_Row_init rfl (Nat.le_of_ble_eq_true rfl) (Nat.le_of_ble_eq_true rfl) ⟨(Nat.le_of_ble_eq_true rfl), (Nat.le_of_ble_eq_true rfl)⟩ (Or.inl (by decide)) ⟨by decide, by decide⟩ (sp_Row_init rfl rfl (by decide) (h0 31 (by decide)) (fun k => hl 31 k (by decide)) ⟨none, rfl, rfl, rfl⟩) ?_
  rintro _ _ ⟨rfl, rfl⟩
  refine ex_putR dX5_init_32 fl_Rings_24 cf_5 rfl (Or.inr ⟨rfl, rfl, rfl⟩) (fun _ => rfl) (fun _ => rfl) ⟨_, rfl⟩ rfl (by decide) ?_
  refine ex_rB ?_
  refine ex_aload_n (i := 0) dX5_init_35 rfl rfl ?_
  refine ex_iconst (v := nI 0) dX5_init_36 (by decide) ?_
  refine ex_putI dX5_init_37 fl_Rings_27 cf_5 rfl (Or.inl rfl) (by decide) (by decide) rfl (by decide) ?_
  refine ex_iB ?_
  refine ex_ret dX5_init_40 rfl ?_
  exact hQ
set_option maxRecDepth 20000 in
theorem sp_Parser_init_32 (h0 : ∀ a, a < 60 → i0 a = fun _ => 0) (hl : ∀ a k, 33 ≤ a → l.lookup (a, k) = none) (hr : ∀ a k, 33 ≤ a → rl.lookup (a, k) = none) (hQ : Q (.ok none) (41, 0, iB i0 ((((32), 7), nI (0)) :: ((((32), 6), nI (0)) :: l)), q0L, rB ((((32), 5), 39) :: ((((39), 0), 40) :: ((((32), 4), 37) :: ((((37), 0), 38) :: ((((32), 3), 35) :: ((((35), 0), 36) :: ((((32), 2), 33) :: ((((33), 0), 34) :: ((((32), 1), 16) :: ((((32), 0), 1) :: rl)))))))))))) : Wx m_Parser_init 0 [some (.ref 32), some (.ref 1), some (.ref 16)] [] (33, 0, iB i0 l, q0L, rB rl) (8, 386) Q := by
  refine ex_aload_n (i := 0) dX4_init_0 rfl rfl ?_
  refine ex_objInit dX4_init_1 ln_Parser_3 wo_2 wo_3 (by decide) ?_
  refine ex_aload_n (i := 0) dX4_init_4 rfl rfl ?_
  refine ex_aload_n (i := 1) dX4_init_5 rfl rfl ?_
  refine ex_putR dX4_init_6 fl_Parser_9 cf_4 rfl (Or.inr ⟨rfl, rfl, rfl⟩) (fun _ => rfl) (fun _ => rfl) ⟨_, rfl⟩ rfl (by decide) ?_
  refine ex_rB ?_
  refine ex_aload_n (i := 0) dX4_init_9 rfl rfl ?_
  refine ex_aload_n (i := 2) dX4_init_10 rfl rfl ?_
  refine ex_putR dX4_init_11 fl_Parser_15 cf_4 rfl (Or.inr ⟨rfl, rfl, rfl⟩) (fun _ => rfl) (fun _ => rfl) ⟨_, rfl⟩ rfl (by decide) ?_
  refine ex_rB ?_
  refine ex_aload_n (i := 0) dX4_init_14 rfl rfl ?_
  refine ex_Kw (K := (7 + 1, 385 + xNf 6)) ⟨by decide, by decide⟩ ?_
  refine ex_new (ci := 6) dX4_init_15 cf_6 nw_Parser_19.1 nw_Parser_19.2.1 nw_Parser_19.2.2 rfl ?_
  refine ex_mem (xZ_B (h0 33 (by decide)) (fun k => hl 33 k (by decide))) ?_
  refine ex_rr (xZR_B (fun k => hr 33 k (by decide))) ?_
  refine ex_dup dX4_init_18 rfl ?_
  refine ex_bipush (v := nI 40) dX4_init_19 (by decide) ?_
  refine ex_callI (Kc := (1, 40)) (K := (6, 345)) (a := 33) (ci := 6) (as := [.int (nI (40))]) (Qk := fun v M => v = none ∧ M = (35, 0, iB i0 l, q0L, rB ((((33), 0), 34) :: ((((32), 1), 16) :: ((((32), 0), 1) :: rl))))) dX4_init_21 ln_Parser_21 mf_Row_init rfl (Nat.le_of_ble_eq_true rfl) np_Row_init rfl (Nat.le_of_ble_eq_true rfl) (Nat.le_of_ble_eq_true rfl) ⟨(Nat.le_of_ble_eq_true rfl), (Nat.le_of_ble_eq_true rfl)⟩ (Or.inl (by decide)) ⟨by decide, by decide⟩ (sp_Row_init rfl rfl (by decide) (h0 34 (by decide)) (fun k => hl 34 k (by decide)) ⟨none, rfl, rfl, rfl⟩) ?_
  rintro _ _ ⟨rfl, rfl⟩
  refine ex_putR dX4_init_24 fl_Parser_24 cf_4 rfl (Or.inr ⟨rfl, rfl, rfl⟩) (fun _ => rfl) (fun _ => rfl) ⟨_, rfl⟩ rfl (by decide) ?_
  refine ex_rB ?_
  refine ex_aload_n (i := 0) dX4_init_27 rfl rfl ?_
  refine ex_Kw (K := (5 + 1, 344 + xNf 6)) ⟨by decide, by decide⟩ ?_
  refine ex_new (ci := 6) dX4_init_28 cf_6 nw_Parser_19.1 nw_Parser_19.2.1 nw_Parser_19.2.2 rfl ?_
  refine ex_mem (xZ_B (h0 35 (by decide)) (fun k => hl 35 k (by decide))) ?_
  refine ex_rr (xZR_B (fun k => hr 35 k (by decide))) ?_
  refine ex_dup dX4_init_31 rfl ?_
  refine ex_bipush (v := nI 40) dX4_init_32 (by decide) ?_
  refine ex_callI (Kc := (1, 40)) (K := (4, 304)) (a := 35) (ci := 6) (as := [.int (nI (40))]) (Qk := fun v M => v = none ∧ M = (37, 0, iB i0 l, q0L, rB ((((35), 0), 36) :: ((((32), 2), 33) :: ((((33), 0), 34) :: ((((32), 1), 16) :: ((((32), 0), 1) :: rl))))))) dX4_init_34 ln_Parser_21 mf_Row_init rfl (Nat.le_of_ble_eq_true rfl) np_Row_init rfl (Nat.le_of_ble_eq_true rfl) (Nat.le_of_ble_eq_true rfl) ⟨(Nat.le_of_ble_eq_true rfl), (Nat.le_of_ble_eq_true rfl)⟩ (Or.inl (by decide)) ⟨by decide, by decide⟩ (sp_Row_init rfl rfl (by decide) (h0 36 (by decide)) (fun k => hl 36 k (by decide)) ⟨none, rfl, rfl, rfl⟩) ?_
  rintro _ _ ⟨rfl, rfl⟩
  refine ex_putR dX4_init_37 fl_Parser_28 cf_4 rfl (Or.inr ⟨rfl, rfl, rfl⟩) (fun _ => rfl) (fun _ => rfl) ⟨_, rfl⟩ rfl (by decide) ?_
  refine ex_rB ?_
  refine ex_aload_n (i := 0) dX4_init_40 rfl rfl ?_
  refine ex_Kw (K := (3 + 1, 303 + xNf 6)) ⟨by decide, by decide⟩ ?_
  refine ex_new (ci := 6) dX4_init_41 cf_6 nw_Parser_19.1 nw_Parser_19.2.1 nw_Parser_19.2.2 rfl ?_
  refine ex_mem (xZ_B (h0 37 (by decide)) (fun k => hl 37 k (by decide))) ?_
  refine ex_rr (xZR_B (fun k => hr 37 k (by decide))) ?_
  refine ex_dup dX4_init_44 rfl ?_
  refine ex_sipush (v := nI 151) dX4_init_45 (by decide) ?_
  refine ex_callI (Kc := (1, 151)) (K := (2, 152)) (a := 37) (ci := 6) (as := [.int (nI (151))]) (Qk := fun v M => v = none ∧ M = (39, 0, iB i0 l, q0L, rB ((((37), 0), 38) :: ((((32), 3), 35) :: ((((35), 0), 36) :: ((((32), 2), 33) :: ((((33), 0), 34) :: ((((32), 1), 16) :: ((((32), 0), 1) :: rl))))))))) dX4_init_48 ln_Parser_21 mf_Row_init rfl (Nat.le_of_ble_eq_true rfl) np_Row_init rfl (Nat.le_of_ble_eq_true rfl) (Nat.le_of_ble_eq_true rfl) ⟨(Nat.le_of_ble_eq_true rfl), (Nat.le_of_ble_eq_true rfl)⟩ (Or.inl (by decide)) ⟨by decide, by decide⟩ (sp_Row_init rfl rfl (by decide) (h0 38 (by decide)) (fun k => hl 38 k (by decide)) ⟨none, rfl, rfl, rfl⟩) ?_
  rintro _ _ ⟨rfl, rfl⟩
  refine ex_putR dX4_init_51 fl_Parser_31 cf_4 rfl (Or.inr ⟨rfl, rfl, rfl⟩) (fun _ => rfl) (fun _ => rfl) ⟨_, rfl⟩ rfl (by decide) ?_
  refine ex_rB ?_
  refine ex_aload_n (i := 0) dX4_init_54 rfl rfl ?_
  refine ex_Kw (K := (1 + 1, 151 + xNf 6)) ⟨by decide, by decide⟩ ?_
  refine ex_new (ci := 6) dX4_init_55 cf_6 nw_Parser_19.1 nw_Parser_19.2.1 nw_Parser_19.2.2 rfl ?_
  refine ex_mem (xZ_B (h0 39 (by decide)) (fun k => hl 39 k (by decide))) ?_
  refine ex_rr (xZR_B (fun k => hr 39 k (by decide))) ?_
  refine ex_dup dX4_init_58 rfl ?_
  refine ex_sipush (v := nI 151) dX4_init_59 (by decide) ?_
  refine ex_callI (Kc := (1, 151)) (K := (0, 0)) (a := 39) (ci := 6) (as := [.int (nI (151))]) (Qk := fun v M => v = none ∧ M = (41, 0, iB i0 l, q0L, rB ((((39), 0), 40) :: ((((32), 4), 37) :: ((((37), 0), 38) :: ((((32), 3), 35) :: ((((35), 0), 36) :: ((((32), 2), 33) :: ((((33), 0), 34) :: ((((32), 1), 16) :: ((((32), 0), 1) :: rl))))))))))) dX4_init_62 ln_Parser_21 mf_Row_init rfl (Nat.le_of_ble_eq_true rfl) np_Row_init rfl (Nat.le_of_ble_eq_true rfl) (Nat.le_of_ble_eq_true rfl) ⟨(Nat.le_of_ble_eq_true rfl), (Nat.le_of_ble_eq_true rfl)⟩ (Or.inl (by decide)) ⟨by decide, by decide⟩ (sp_Row_init rfl rfl (by decide) (h0 40 (by decide)) (fun k => hl 40 k (by decide)) ⟨none, rfl, rfl, rfl⟩) ?_
  rintro _ _ ⟨rfl, rfl⟩
  refine ex_putR dX4_init_65 fl_Parser_34 cf_4 rfl (Or.inr ⟨rfl, rfl, rfl⟩) (fun _ => rfl) (fun _ => rfl) ⟨_, rfl⟩ rfl (by decide) ?_
  refine ex_rB ?_
  refine ex_aload_n (i := 0) dX4_init_68 rfl rfl ?_
  refine ex_iconst (v := nI 0) dX4_init_69 (by decide) ?_
  refine ex_putI dX4_init_70 fl_Parser_37 cf_4 rfl (Or.inl rfl) rfl rfl rfl (by decide) ?_
  refine ex_iB ?_
  refine ex_aload_n (i := 0) dX4_init_73 rfl rfl ?_
  refine ex_iconst (v := nI 0) dX4_init_74 (by decide) ?_
  refine ex_putI dX4_init_75 fl_Parser_41 cf_4 rfl (Or.inl rfl) rfl rfl rfl (by decide) ?_
  refine ex_iB ?_
  refine ex_ret dX4_init_78 rfl ?_
  exact hQ
set_option maxRecDepth 20000 in
theorem sp_Evaluator_init_41 (h0 : ∀ a, a < 60 → i0 a = fun _ => 0) (hl : ∀ a k, 42 ≤ a → l.lookup (a, k) = none) (hr : ∀ a k, 42 ≤ a → rl.lookup (a, k) = none) (hQ : Q (.ok none) (46, 0, iB i0 l, q0L, rB ((((41), 2), 44) :: ((((44), 0), 45) :: ((((41), 1), 42) :: ((((42), 0), 43) :: ((((41), 0), 1) :: rl))))))) : Wx m_Evaluator_init 0 [some (.ref 41), some (.ref 1)] [] (42, 0, iB i0 l, q0L, rB rl) (4, 902) Q := by
  refine ex_aload_n (i := 0) dX0_init_0 rfl rfl ?_
  refine ex_objInit dX0_init_1 ln_Evaluator_3 wo_2 wo_3 (by decide) ?_
  refine ex_aload_n (i := 0) dX0_init_4 rfl rfl ?_
  refine ex_aload_n (i := 1) dX0_init_5 rfl rfl ?_
  refine ex_putR dX0_init_6 fl_Evaluator_9 cf_0 rfl (Or.inr ⟨rfl, rfl, rfl⟩) (fun _ => rfl) (fun _ => rfl) ⟨_, rfl⟩ rfl (by decide) ?_
  refine ex_rB ?_
  refine ex_aload_n (i := 0) dX0_init_9 rfl rfl ?_
  refine ex_Kw (K := (3 + 1, 901 + xNf 6)) ⟨by decide, by decide⟩ ?_
  refine ex_new (ci := 6) dX0_init_10 cf_6 nw_Evaluator_15.1 nw_Evaluator_15.2.1 nw_Evaluator_15.2.2 rfl ?_
  refine ex_mem (xZ_B (h0 42 (by decide)) (fun k => hl 42 k (by decide))) ?_
  refine ex_rr (xZR_B (fun k => hr 42 k (by decide))) ?_
  refine ex_dup dX0_init_13 rfl ?_
  refine ex_sipush (v := nI 450) dX0_init_14 (by decide) ?_
  refine ex_callI (Kc := (1, 450)) (K := (2, 451)) (a := 42) (ci := 6) (as := [.int (nI (450))]) (Qk := fun v M => v = none ∧ M = (44, 0, iB i0 l, q0L, rB ((((42), 0), 43) :: ((((41), 0), 1) :: rl)))) dX0_init_17 ln_Evaluator_17 mf_Row_init rfl (Nat.le_of_ble_eq_true rfl) np_Row_init rfl (Nat.le_of_ble_eq_true rfl) (Nat.le_of_ble_eq_true rfl) ⟨(Nat.le_of_ble_eq_true rfl), (Nat.le_of_ble_eq_true rfl)⟩ (Or.inl (by decide)) ⟨by decide, by decide⟩ (sp_Row_init rfl rfl (by decide) (h0 43 (by decide)) (fun k => hl 43 k (by decide)) ⟨none, rfl, rfl, rfl⟩) ?_
  rintro _ _ ⟨rfl, rfl⟩
  refine ex_putR dX0_init_20 fl_Evaluator_20 cf_0 rfl (Or.inr ⟨rfl, rfl, rfl⟩) (fun _ => rfl) (fun _ => rfl) ⟨_, rfl⟩ rfl (by decide) ?_
  refine ex_rB ?_
  refine ex_aload_n (i := 0) dX0_init_23 rfl rfl ?_
  refine ex_Kw (K := (1 + 1, 450 + xNf 6)) ⟨by decide, by decide⟩ ?_
  refine ex_new (ci := 6) dX0_init_24 cf_6 nw_Evaluator_15.1 nw_Evaluator_15.2.1 nw_Evaluator_15.2.2 rfl ?_
  refine ex_mem (xZ_B (h0 44 (by decide)) (fun k => hl 44 k (by decide))) ?_
  refine ex_rr (xZR_B (fun k => hr 44 k (by decide))) ?_
  refine ex_dup dX0_init_27 rfl ?_
  refine ex_sipush (v := nI 450) dX0_init_28 (by decide) ?_
  refine ex_callI (Kc := (1, 450)) (K := (0, 0)) (a := 44) (ci := 6) (as := [.int (nI (450))]) (Qk := fun v M => v = none ∧ M = (46, 0, iB i0 l, q0L, rB ((((44), 0), 45) :: ((((41), 1), 42) :: ((((42), 0), 43) :: ((((41), 0), 1) :: rl)))))) dX0_init_31 ln_Evaluator_17 mf_Row_init rfl (Nat.le_of_ble_eq_true rfl) np_Row_init rfl (Nat.le_of_ble_eq_true rfl) (Nat.le_of_ble_eq_true rfl) ⟨(Nat.le_of_ble_eq_true rfl), (Nat.le_of_ble_eq_true rfl)⟩ (Or.inl (by decide)) ⟨by decide, by decide⟩ (sp_Row_init rfl rfl (by decide) (h0 45 (by decide)) (fun k => hl 45 k (by decide)) ⟨none, rfl, rfl, rfl⟩) ?_
  rintro _ _ ⟨rfl, rfl⟩
  refine ex_putR dX0_init_34 fl_Evaluator_24 cf_0 rfl (Or.inr ⟨rfl, rfl, rfl⟩) (fun _ => rfl) (fun _ => rfl) ⟨_, rfl⟩ rfl (by decide) ?_
  refine ex_rB ?_
  refine ex_ret dX0_init_37 rfl ?_
  exact hQ
set_option maxRecDepth 20000 in
theorem sp_Tree_init_46 (h0 : ∀ a, a < 60 → i0 a = fun _ => 0) (hl : ∀ a k, 47 ≤ a → l.lookup (a, k) = none) (hr : ∀ a k, 47 ≤ a → rl.lookup (a, k) = none) (hQ : Q (.ok none) (51, 0, iB i0 ((((46), 2), nI (0)) :: ((((47), 1), nI (8)) :: ((((47), 0), nI (150)) :: l))), q0L, rB ((((46), 1), 49) :: ((((49), 0), 50) :: ((((46), 0), 47) :: ((((47), 2), 48) :: rl)))))) : Wx m_Tree_init 0 [some (.ref 46)] [] (47, 0, iB i0 l, q0L, rB rl) (4, 1654) Q := by
  refine ex_aload_n (i := 0) dX8_init_0 rfl rfl ?_
  refine ex_objInit dX8_init_1 ln_Tree_3 wo_2 wo_3 (by decide) ?_
  refine ex_aload_n (i := 0) dX8_init_4 rfl rfl ?_
  refine ex_Kw (K := (3 + 1, 1651 + xNf 2)) ⟨by decide, by decide⟩ ?_
  refine ex_new (ci := 2) dX8_init_5 cf_2 nw_Tree_9.1 nw_Tree_9.2.1 nw_Tree_9.2.2 rfl ?_
  refine ex_mem (xZ_B (h0 47 (by decide)) (fun k => hl 47 k (by decide))) ?_
  refine ex_rr (xZR_B (fun k => hr 47 k (by decide))) ?_
  refine ex_dup dX8_init_8 rfl ?_
  refine ex_sipush (v := nI 150) dX8_init_9 (by decide) ?_
  refine ex_bipush (v := nI 8) dX8_init_12 (by decide) ?_
  refine ex_callI (Kc := (1, 1200)) (K := (2, 451)) (a := 47) (ci := 2) (as := [.int (nI (150)), .int (nI (8))]) (Qk := fun v M => v = none ∧ M = (49, 0, iB i0 ((((47), 1), nI (8)) :: ((((47), 0), nI (150)) :: l)), q0L, rB ((((47), 2), 48) :: rl))) dX8_init_14 ln_Tree_11 mf_Grid_init rfl (Nat.le_of_ble_eq_true rfl) np_Grid_init rfl (Nat.le_of_ble_eq_true rfl) (Nat.le_of_ble_eq_true rfl) ⟨(Nat.le_of_ble_eq_true rfl), (Nat.le_of_ble_eq_true rfl)⟩ (Or.inl (by decide)) ⟨by decide, by decide⟩ (sp_Grid_init rfl rfl (by decide) (h0 48 (by decide)) (fun k => hl 48 k (by decide)) ⟨none, rfl, rfl, rfl⟩) ?_
  rintro _ _ ⟨rfl, rfl⟩
  refine ex_putR dX8_init_17 fl_Tree_14 cf_8 rfl (Or.inr ⟨rfl, rfl, rfl⟩) (fun _ => rfl) (fun _ => rfl) ⟨_, rfl⟩ rfl (by decide) ?_
  refine ex_rB ?_
  refine ex_aload_n (i := 0) dX8_init_20 rfl rfl ?_
  refine ex_Kw (K := (1 + 1, 450 + xNf 3)) ⟨by decide, by decide⟩ ?_
  refine ex_new (ci := 3) dX8_init_21 cf_3 nw_Tree_20.1 nw_Tree_20.2.1 nw_Tree_20.2.2 rfl ?_
  refine ex_mem (xZ_B (h0 49 (by decide)) (fun k => hl 49 k (by decide))) ?_
  refine ex_rr (xZR_B (fun k => hr 49 k (by decide))) ?_
  refine ex_dup dX8_init_24 rfl ?_
  refine ex_sipush (v := nI 450) dX8_init_25 (by decide) ?_
  refine ex_callI (Kc := (1, 450)) (K := (0, 0)) (a := 49) (ci := 3) (as := [.int (nI (450))]) (Qk := fun v M => v = none ∧ M = (51, 0, iB i0 ((((47), 1), nI (8)) :: ((((47), 0), nI (150)) :: l)), q0L, rB ((((49), 0), 50) :: ((((46), 0), 47) :: ((((47), 2), 48) :: rl))))) dX8_init_28 ln_Tree_22 mf_LongRow_init rfl (Nat.le_of_ble_eq_true rfl) np_LongRow_init rfl (Nat.le_of_ble_eq_true rfl) (Nat.le_of_ble_eq_true rfl) ⟨(Nat.le_of_ble_eq_true rfl), (Nat.le_of_ble_eq_true rfl)⟩ (Or.inl (by decide)) ⟨by decide, by decide⟩ (sp_LongRow_init rfl rfl (by decide) ⟨none, rfl, rfl, rfl⟩) ?_
  rintro _ _ ⟨rfl, rfl⟩
  refine ex_putR dX8_init_31 fl_Tree_25 cf_8 rfl (Or.inr ⟨rfl, rfl, rfl⟩) (fun _ => rfl) (fun _ => rfl) ⟨_, rfl⟩ rfl (by decide) ?_
  refine ex_rB ?_
  refine ex_aload_n (i := 0) dX8_init_34 rfl rfl ?_
  refine ex_iconst (v := nI 0) dX8_init_35 (by decide) ?_
  refine ex_putI dX8_init_36 fl_Tree_29 cf_8 rfl (Or.inl rfl) rfl rfl rfl (by decide) ?_
  refine ex_iB ?_
  refine ex_ret dX8_init_39 rfl ?_
  exact hQ
set_option maxRecDepth 20000 in
theorem sp_Tree_init_51 (h0 : ∀ a, a < 60 → i0 a = fun _ => 0) (hl : ∀ a k, 52 ≤ a → l.lookup (a, k) = none) (hr : ∀ a k, 52 ≤ a → rl.lookup (a, k) = none) (hQ : Q (.ok none) (56, 0, iB i0 ((((51), 2), nI (0)) :: ((((52), 1), nI (8)) :: ((((52), 0), nI (150)) :: l))), q0L, rB ((((51), 1), 54) :: ((((54), 0), 55) :: ((((51), 0), 52) :: ((((52), 2), 53) :: rl)))))) : Wx m_Tree_init 0 [some (.ref 51)] [] (52, 0, iB i0 l, q0L, rB rl) (4, 1654) Q := by
  refine ex_aload_n (i := 0) dX8_init_0 rfl rfl ?_
  refine ex_objInit dX8_init_1 ln_Tree_3 wo_2 wo_3 (by decide) ?_
  refine ex_aload_n (i := 0) dX8_init_4 rfl rfl ?_
  refine ex_Kw (K := (3 + 1, 1651 + xNf 2)) ⟨by decide, by decide⟩ ?_
  refine ex_new (ci := 2) dX8_init_5 cf_2 nw_Tree_9.1 nw_Tree_9.2.1 nw_Tree_9.2.2 rfl ?_
  refine ex_mem (xZ_B (h0 52 (by decide)) (fun k => hl 52 k (by decide))) ?_
  refine ex_rr (xZR_B (fun k => hr 52 k (by decide))) ?_
  refine ex_dup dX8_init_8 rfl ?_
  refine ex_sipush (v := nI 150) dX8_init_9 (by decide) ?_
  refine ex_bipush (v := nI 8) dX8_init_12 (by decide) ?_
  refine ex_callI (Kc := (1, 1200)) (K := (2, 451)) (a := 52) (ci := 2) (as := [.int (nI (150)), .int (nI (8))]) (Qk := fun v M => v = none ∧ M = (54, 0, iB i0 ((((52), 1), nI (8)) :: ((((52), 0), nI (150)) :: l)), q0L, rB ((((52), 2), 53) :: rl))) dX8_init_14 ln_Tree_11 mf_Grid_init rfl (Nat.le_of_ble_eq_true rfl) np_Grid_init rfl (Nat.le_of_ble_eq_true rfl) (Nat.le_of_ble_eq_true rfl) ⟨(Nat.le_of_ble_eq_true rfl), (Nat.le_of_ble_eq_true rfl)⟩ (Or.inl (by decide)) ⟨by decide, by decide⟩ (sp_Grid_init rfl rfl (by decide) (h0 53 (by decide)) (fun k => hl 53 k (by decide)) ⟨none, rfl, rfl, rfl⟩) ?_
  rintro _ _ ⟨rfl, rfl⟩
  refine ex_putR dX8_init_17 fl_Tree_14 cf_8 rfl (Or.inr ⟨rfl, rfl, rfl⟩) (fun _ => rfl) (fun _ => rfl) ⟨_, rfl⟩ rfl (by decide) ?_
  refine ex_rB ?_
  refine ex_aload_n (i := 0) dX8_init_20 rfl rfl ?_
  refine ex_Kw (K := (1 + 1, 450 + xNf 3)) ⟨by decide, by decide⟩ ?_
  refine ex_new (ci := 3) dX8_init_21 cf_3 nw_Tree_20.1 nw_Tree_20.2.1 nw_Tree_20.2.2 rfl ?_
  refine ex_mem (xZ_B (h0 54 (by decide)) (fun k => hl 54 k (by decide))) ?_
  refine ex_rr (xZR_B (fun k => hr 54 k (by decide))) ?_
  refine ex_dup dX8_init_24 rfl ?_
  refine ex_sipush (v := nI 450) dX8_init_25 (by decide) ?_
  refine ex_callI (Kc := (1, 450)) (K := (0, 0)) (a := 54) (ci := 3) (as := [.int (nI (450))]) (Qk := fun v M => v = none ∧ M = (56, 0, iB i0 ((((52), 1), nI (8)) :: ((((52), 0), nI (150)) :: l)), q0L, rB ((((54), 0), 55) :: ((((51), 0), 52) :: ((((52), 2), 53) :: rl))))) dX8_init_28 ln_Tree_22 mf_LongRow_init rfl (Nat.le_of_ble_eq_true rfl) np_LongRow_init rfl (Nat.le_of_ble_eq_true rfl) (Nat.le_of_ble_eq_true rfl) ⟨(Nat.le_of_ble_eq_true rfl), (Nat.le_of_ble_eq_true rfl)⟩ (Or.inl (by decide)) ⟨by decide, by decide⟩ (sp_LongRow_init rfl rfl (by decide) ⟨none, rfl, rfl, rfl⟩) ?_
  rintro _ _ ⟨rfl, rfl⟩
  refine ex_putR dX8_init_31 fl_Tree_25 cf_8 rfl (Or.inr ⟨rfl, rfl, rfl⟩) (fun _ => rfl) (fun _ => rfl) ⟨_, rfl⟩ rfl (by decide) ?_
  refine ex_rB ?_
  refine ex_aload_n (i := 0) dX8_init_34 rfl rfl ?_
  refine ex_iconst (v := nI 0) dX8_init_35 (by decide) ?_
  refine ex_putI dX8_init_36 fl_Tree_29 cf_8 rfl (Or.inl rfl) rfl rfl rfl (by decide) ?_
  refine ex_iB ?_
  refine ex_ret dX8_init_39 rfl ?_
  exact hQ
set_option maxRecDepth 20000 in
theorem sp_Works_init_0 (h0 : ∀ a, a < 60 → i0 a = fun _ => 0) (hQ : Q (.ok none) (56, 0, iB i0 ((((0), 8), (-1)) :: ((((0), 7), nI (0)) :: ((((51), 2), nI (0)) :: ((((52), 1), nI (8)) :: ((((52), 0), nI (150)) :: ((((46), 2), nI (0)) :: ((((47), 1), nI (8)) :: ((((47), 0), nI (150)) :: ((((32), 7), nI (0)) :: ((((32), 6), nI (0)) :: ((((27), 3), nI (0)) :: ((((16), 7), nI (0)) :: ((((16), 6), nI (0)) :: ((((25), 1), nI (7)) :: ((((25), 0), nI (50)) :: ((((23), 1), nI (14)) :: ((((23), 0), nI (50)) :: ((((21), 1), nI (75)) :: ((((21), 0), nI (50)) :: ((((1), 8), nI (0)) :: ((((1), 7), nI (0)) :: ((((14), 1), nI (15)) :: ((((14), 0), nI (14)) :: ((((12), 1), nI (15)) :: ((((12), 0), nI (14)) :: ((((10), 1), nI (15)) :: ((((10), 0), nI (14)) :: ((((2), 1), nI (5)) :: ((((2), 0), nI (15)) :: []))))))))))))))))))))))))))))), q0L, rB ((((0), 6), 51) :: ((((51), 1), 54) :: ((((54), 0), 55) :: ((((51), 0), 52) :: ((((52), 2), 53) :: ((((0), 5), 46) :: ((((46), 1), 49) :: ((((49), 0), 50) :: ((((46), 0), 47) :: ((((47), 2), 48) :: ((((0), 4), 41) :: ((((41), 2), 44) :: ((((44), 0), 45) :: ((((41), 1), 42) :: ((((42), 0), 43) :: ((((41), 0), 1) :: ((((0), 3), 32) :: ((((32), 5), 39) :: ((((39), 0), 40) :: ((((32), 4), 37) :: ((((37), 0), 38) :: ((((32), 3), 35) :: ((((35), 0), 36) :: ((((32), 2), 33) :: ((((33), 0), 34) :: ((((32), 1), 16) :: ((((32), 0), 1) :: ((((0), 2), 27) :: ((((27), 2), 30) :: ((((30), 0), 31) :: ((((27), 1), 28) :: ((((28), 0), 29) :: ((((27), 0), 1) :: ((((0), 1), 16) :: ((((16), 5), 25) :: ((((25), 2), 26) :: ((((16), 4), 23) :: ((((23), 2), 24) :: ((((16), 3), 21) :: ((((21), 2), 22) :: ((((16), 2), 19) :: ((((19), 0), 20) :: ((((16), 1), 17) :: ((((17), 0), 18) :: ((((16), 0), 1) :: ((((0), 0), 1) :: ((((1), 6), 14) :: ((((14), 2), 15) :: ((((1), 5), 12) :: ((((12), 2), 13) :: ((((1), 4), 10) :: ((((10), 2), 11) :: ((((1), 3), 8) :: ((((8), 0), 9) :: ((((1), 2), 6) :: ((((6), 0), 7) :: ((((1), 1), 4) :: ((((4), 0), 5) :: ((((1), 0), 2) :: ((((2), 2), 3) :: [])))))))))))))))))))))))))))))))))))))))))))))))))))))))))))))) : Wx m_Works_init 0 [some (.ref 0)] [] (1, 0, iB i0 [], q0L, rB []) (55, 10288) Q := by
  refine ex_aload_n (i := 0) dX9_init_0 rfl rfl ?_
  refine ex_objInit dX9_init_1 ln_Works_3 wo_2 wo_3 (by decide) ?_
  refine ex_aload_n (i := 0) dX9_init_4 rfl rfl ?_
  refine ex_Kw (K := (54 + 1, 10279 + xNf 1)) ⟨by decide, by decide⟩ ?_
  refine ex_new (ci := 1) dX9_init_5 cf_1 nw_Works_9.1 nw_Works_9.2.1 nw_Works_9.2.2 rfl ?_
  refine ex_mem (xZ_B (h0 1 (by decide)) (fun k => rfl)) ?_
  refine ex_rr (xZR_B (fun k => rfl)) ?_
  refine ex_dup dX9_init_8 rfl ?_
  refine ex_callI (Kc := (14, 748)) (K := (40, 9531)) (a := 1) (ci := 1) (as := []) (Qk := fun v M => v = none ∧ M = (16, 0, iB i0 ((((1), 8), nI (0)) :: ((((1), 7), nI (0)) :: ((((14), 1), nI (15)) :: ((((14), 0), nI (14)) :: ((((12), 1), nI (15)) :: ((((12), 0), nI (14)) :: ((((10), 1), nI (15)) :: ((((10), 0), nI (14)) :: ((((2), 1), nI (5)) :: ((((2), 0), nI (15)) :: [])))))))))), q0L, rB ((((1), 6), 14) :: ((((14), 2), 15) :: ((((1), 5), 12) :: ((((12), 2), 13) :: ((((1), 4), 10) :: ((((10), 2), 11) :: ((((1), 3), 8) :: ((((8), 0), 9) :: ((((1), 2), 6) :: ((((6), 0), 7) :: ((((1), 1), 4) :: ((((4), 0), 5) :: ((((1), 0), 2) :: ((((2), 2), 3) :: [])))))))))))))))) dX9_init_9 ln_Works_11 mf_Grammar_init rfl (Nat.le_of_ble_eq_true rfl) np_Grammar_init rfl (Nat.le_of_ble_eq_true rfl) (Nat.le_of_ble_eq_true rfl) ⟨(Nat.le_of_ble_eq_true rfl), (Nat.le_of_ble_eq_true rfl)⟩ (Or.inl (by decide)) ⟨by decide, by decide⟩ (sp_Grammar_init_1 h0 (lkN (c := 2) (by decide)) (lkN (c := 2) (by decide)) ⟨none, rfl, rfl, rfl⟩) ?_
  rintro _ _ ⟨rfl, rfl⟩
  refine ex_putR dX9_init_12 fl_Works_12 cf_9 rfl (Or.inr ⟨rfl, rfl, rfl⟩) (fun _ => rfl) (fun _ => rfl) ⟨_, rfl⟩ rfl (by decide) ?_
  refine ex_rB ?_
  refine ex_aload_n (i := 0) dX9_init_15 rfl rfl ?_
  refine ex_Kw (K := (39 + 1, 9523 + xNf 7)) ⟨by decide, by decide⟩ ?_
  refine ex_new (ci := 7) dX9_init_16 cf_7 nw_Works_16.1 nw_Works_16.2.1 nw_Works_16.2.2 rfl ?_
  refine ex_mem (xZ_B (h0 16 (by decide)) (fun k => rfl)) ?_
  refine ex_rr (xZR_B (fun k => rfl)) ?_
  refine ex_dup dX9_init_19 rfl ?_
  refine ex_aload_n (i := 0) dX9_init_20 rfl rfl ?_
  refine ex_getR (v := .ref (1)) dX9_init_21 fl_Works_12 rfl rfl (by decide) rfl ?_
  refine ex_callI (Kc := (10, 4875)) (K := (29, 4648)) (a := 16) (ci := 7) (as := [.ref (1)]) (Qk := fun v M => v = none ∧ M = (27, 0, iB i0 ((((16), 7), nI (0)) :: ((((16), 6), nI (0)) :: ((((25), 1), nI (7)) :: ((((25), 0), nI (50)) :: ((((23), 1), nI (14)) :: ((((23), 0), nI (50)) :: ((((21), 1), nI (75)) :: ((((21), 0), nI (50)) :: ((((1), 8), nI (0)) :: ((((1), 7), nI (0)) :: ((((14), 1), nI (15)) :: ((((14), 0), nI (14)) :: ((((12), 1), nI (15)) :: ((((12), 0), nI (14)) :: ((((10), 1), nI (15)) :: ((((10), 0), nI (14)) :: ((((2), 1), nI (5)) :: ((((2), 0), nI (15)) :: [])))))))))))))))))), q0L, rB ((((16), 5), 25) :: ((((25), 2), 26) :: ((((16), 4), 23) :: ((((23), 2), 24) :: ((((16), 3), 21) :: ((((21), 2), 22) :: ((((16), 2), 19) :: ((((19), 0), 20) :: ((((16), 1), 17) :: ((((17), 0), 18) :: ((((16), 0), 1) :: ((((0), 0), 1) :: ((((1), 6), 14) :: ((((14), 2), 15) :: ((((1), 5), 12) :: ((((12), 2), 13) :: ((((1), 4), 10) :: ((((10), 2), 11) :: ((((1), 3), 8) :: ((((8), 0), 9) :: ((((1), 2), 6) :: ((((6), 0), 7) :: ((((1), 1), 4) :: ((((4), 0), 5) :: ((((1), 0), 2) :: ((((2), 2), 3) :: [])))))))))))))))))))))))))))) dX9_init_24 ln_Works_18 mf_States_init rfl (Nat.le_of_ble_eq_true rfl) np_States_init rfl (Nat.le_of_ble_eq_true rfl) (Nat.le_of_ble_eq_true rfl) ⟨(Nat.le_of_ble_eq_true rfl), (Nat.le_of_ble_eq_true rfl)⟩ (Or.inl (by decide)) ⟨by decide, by decide⟩ (sp_States_init_16 h0 (lkN (c := 17) (by decide)) (lkN (c := 17) (by decide)) ⟨none, rfl, rfl, rfl⟩) ?_
  rintro _ _ ⟨rfl, rfl⟩
  refine ex_putR dX9_init_27 fl_Works_21 cf_9 rfl (Or.inr ⟨rfl, rfl, rfl⟩) (fun _ => rfl) (fun _ => rfl) ⟨_, rfl⟩ rfl (by decide) ?_
  refine ex_rB ?_
  refine ex_aload_n (i := 0) dX9_init_30 rfl rfl ?_
  refine ex_Kw (K := (28 + 1, 4644 + xNf 5)) ⟨by decide, by decide⟩ ?_
  refine ex_new (ci := 5) dX9_init_31 cf_5 nw_Works_25.1 nw_Works_25.2.1 nw_Works_25.2.2 rfl ?_
  refine ex_mem (xZ_B (h0 27 (by decide)) (fun k => rfl)) ?_
  refine ex_rr (xZR_B (fun k => rfl)) ?_
  refine ex_dup dX9_init_34 rfl ?_
  refine ex_aload_n (i := 0) dX9_init_35 rfl rfl ?_
  refine ex_getR (v := .ref (1)) dX9_init_36 fl_Works_12 rfl rfl (by decide) rfl ?_
  refine ex_callI (Kc := (4, 31)) (K := (24, 4613)) (a := 27) (ci := 5) (as := [.ref (1)]) (Qk := fun v M => v = none ∧ M = (32, 0, iB i0 ((((27), 3), nI (0)) :: ((((16), 7), nI (0)) :: ((((16), 6), nI (0)) :: ((((25), 1), nI (7)) :: ((((25), 0), nI (50)) :: ((((23), 1), nI (14)) :: ((((23), 0), nI (50)) :: ((((21), 1), nI (75)) :: ((((21), 0), nI (50)) :: ((((1), 8), nI (0)) :: ((((1), 7), nI (0)) :: ((((14), 1), nI (15)) :: ((((14), 0), nI (14)) :: ((((12), 1), nI (15)) :: ((((12), 0), nI (14)) :: ((((10), 1), nI (15)) :: ((((10), 0), nI (14)) :: ((((2), 1), nI (5)) :: ((((2), 0), nI (15)) :: []))))))))))))))))))), q0L, rB ((((27), 2), 30) :: ((((30), 0), 31) :: ((((27), 1), 28) :: ((((28), 0), 29) :: ((((27), 0), 1) :: ((((0), 1), 16) :: ((((16), 5), 25) :: ((((25), 2), 26) :: ((((16), 4), 23) :: ((((23), 2), 24) :: ((((16), 3), 21) :: ((((21), 2), 22) :: ((((16), 2), 19) :: ((((19), 0), 20) :: ((((16), 1), 17) :: ((((17), 0), 18) :: ((((16), 0), 1) :: ((((0), 0), 1) :: ((((1), 6), 14) :: ((((14), 2), 15) :: ((((1), 5), 12) :: ((((12), 2), 13) :: ((((1), 4), 10) :: ((((10), 2), 11) :: ((((1), 3), 8) :: ((((8), 0), 9) :: ((((1), 2), 6) :: ((((6), 0), 7) :: ((((1), 1), 4) :: ((((4), 0), 5) :: ((((1), 0), 2) :: ((((2), 2), 3) :: [])))))))))))))))))))))))))))))))))) dX9_init_39 ln_Works_27 mf_Rings_init rfl (Nat.le_of_ble_eq_true rfl) np_Rings_init rfl (Nat.le_of_ble_eq_true rfl) (Nat.le_of_ble_eq_true rfl) ⟨(Nat.le_of_ble_eq_true rfl), (Nat.le_of_ble_eq_true rfl)⟩ (Or.inl (by decide)) ⟨by decide, by decide⟩ (sp_Rings_init_27 h0 (lkN (c := 28) (by decide)) (lkN (c := 28) (by decide)) ⟨none, rfl, rfl, rfl⟩) ?_
  rintro _ _ ⟨rfl, rfl⟩
  refine ex_putR dX9_init_42 fl_Works_28 cf_9 rfl (Or.inr ⟨rfl, rfl, rfl⟩) (fun _ => rfl) (fun _ => rfl) ⟨_, rfl⟩ rfl (by decide) ?_
  refine ex_rB ?_
  refine ex_aload_n (i := 0) dX9_init_45 rfl rfl ?_
  refine ex_Kw (K := (23 + 1, 4605 + xNf 4)) ⟨by decide, by decide⟩ ?_
  refine ex_new (ci := 4) dX9_init_46 cf_4 nw_Works_32.1 nw_Works_32.2.1 nw_Works_32.2.2 rfl ?_
  refine ex_mem (xZ_B (h0 32 (by decide)) (fun k => rfl)) ?_
  refine ex_rr (xZR_B (fun k => rfl)) ?_
  refine ex_dup dX9_init_49 rfl ?_
  refine ex_aload_n (i := 0) dX9_init_50 rfl rfl ?_
  refine ex_getR (v := .ref (1)) dX9_init_51 fl_Works_12 rfl rfl (by decide) rfl ?_
  refine ex_aload_n (i := 0) dX9_init_54 rfl rfl ?_
  refine ex_getR (v := .ref (16)) dX9_init_55 fl_Works_21 rfl rfl (by decide) rfl ?_
  refine ex_callI (Kc := (8, 386)) (K := (15, 4219)) (a := 32) (ci := 4) (as := [.ref (1), .ref (16)]) (Qk := fun v M => v = none ∧ M = (41, 0, iB i0 ((((32), 7), nI (0)) :: ((((32), 6), nI (0)) :: ((((27), 3), nI (0)) :: ((((16), 7), nI (0)) :: ((((16), 6), nI (0)) :: ((((25), 1), nI (7)) :: ((((25), 0), nI (50)) :: ((((23), 1), nI (14)) :: ((((23), 0), nI (50)) :: ((((21), 1), nI (75)) :: ((((21), 0), nI (50)) :: ((((1), 8), nI (0)) :: ((((1), 7), nI (0)) :: ((((14), 1), nI (15)) :: ((((14), 0), nI (14)) :: ((((12), 1), nI (15)) :: ((((12), 0), nI (14)) :: ((((10), 1), nI (15)) :: ((((10), 0), nI (14)) :: ((((2), 1), nI (5)) :: ((((2), 0), nI (15)) :: []))))))))))))))))))))), q0L, rB ((((32), 5), 39) :: ((((39), 0), 40) :: ((((32), 4), 37) :: ((((37), 0), 38) :: ((((32), 3), 35) :: ((((35), 0), 36) :: ((((32), 2), 33) :: ((((33), 0), 34) :: ((((32), 1), 16) :: ((((32), 0), 1) :: ((((0), 2), 27) :: ((((27), 2), 30) :: ((((30), 0), 31) :: ((((27), 1), 28) :: ((((28), 0), 29) :: ((((27), 0), 1) :: ((((0), 1), 16) :: ((((16), 5), 25) :: ((((25), 2), 26) :: ((((16), 4), 23) :: ((((23), 2), 24) :: ((((16), 3), 21) :: ((((21), 2), 22) :: ((((16), 2), 19) :: ((((19), 0), 20) :: ((((16), 1), 17) :: ((((17), 0), 18) :: ((((16), 0), 1) :: ((((0), 0), 1) :: ((((1), 6), 14) :: ((((14), 2), 15) :: ((((1), 5), 12) :: ((((12), 2), 13) :: ((((1), 4), 10) :: ((((10), 2), 11) :: ((((1), 3), 8) :: ((((8), 0), 9) :: ((((1), 2), 6) :: ((((6), 0), 7) :: ((((1), 1), 4) :: ((((4), 0), 5) :: ((((1), 0), 2) :: ((((2), 2), 3) :: []))))))))))))))))))))))))))))))))))))))))))))) dX9_init_58 ln_Works_34 mf_Parser_init rfl (Nat.le_of_ble_eq_true rfl) np_Parser_init rfl (Nat.le_of_ble_eq_true rfl) (Nat.le_of_ble_eq_true rfl) ⟨(Nat.le_of_ble_eq_true rfl), (Nat.le_of_ble_eq_true rfl)⟩ (Or.inl (by decide)) ⟨by decide, by decide⟩ (sp_Parser_init_32 h0 (lkN (c := 33) (by decide)) (lkN (c := 33) (by decide)) ⟨none, rfl, rfl, rfl⟩) ?_
  rintro _ _ ⟨rfl, rfl⟩
  refine ex_putR dX9_init_61 fl_Works_37 cf_9 rfl (Or.inr ⟨rfl, rfl, rfl⟩) (fun _ => rfl) (fun _ => rfl) ⟨_, rfl⟩ rfl (by decide) ?_
  refine ex_rB ?_
  refine ex_aload_n (i := 0) dX9_init_64 rfl rfl ?_
  refine ex_Kw (K := (14 + 1, 4216 + xNf 0)) ⟨by decide, by decide⟩ ?_
  refine ex_new (ci := 0) dX9_init_65 cf_0 nw_Works_41.1 nw_Works_41.2.1 nw_Works_41.2.2 rfl ?_
  refine ex_mem (xZ_B (h0 41 (by decide)) (fun k => rfl)) ?_
  refine ex_rr (xZR_B (fun k => rfl)) ?_
  refine ex_dup dX9_init_68 rfl ?_
  refine ex_aload_n (i := 0) dX9_init_69 rfl rfl ?_
  refine ex_getR (v := .ref (1)) dX9_init_70 fl_Works_12 rfl rfl (by decide) rfl ?_
  refine ex_callI (Kc := (4, 902)) (K := (10, 3314)) (a := 41) (ci := 0) (as := [.ref (1)]) (Qk := fun v M => v = none ∧ M = (46, 0, iB i0 ((((32), 7), nI (0)) :: ((((32), 6), nI (0)) :: ((((27), 3), nI (0)) :: ((((16), 7), nI (0)) :: ((((16), 6), nI (0)) :: ((((25), 1), nI (7)) :: ((((25), 0), nI (50)) :: ((((23), 1), nI (14)) :: ((((23), 0), nI (50)) :: ((((21), 1), nI (75)) :: ((((21), 0), nI (50)) :: ((((1), 8), nI (0)) :: ((((1), 7), nI (0)) :: ((((14), 1), nI (15)) :: ((((14), 0), nI (14)) :: ((((12), 1), nI (15)) :: ((((12), 0), nI (14)) :: ((((10), 1), nI (15)) :: ((((10), 0), nI (14)) :: ((((2), 1), nI (5)) :: ((((2), 0), nI (15)) :: []))))))))))))))))))))), q0L, rB ((((41), 2), 44) :: ((((44), 0), 45) :: ((((41), 1), 42) :: ((((42), 0), 43) :: ((((41), 0), 1) :: ((((0), 3), 32) :: ((((32), 5), 39) :: ((((39), 0), 40) :: ((((32), 4), 37) :: ((((37), 0), 38) :: ((((32), 3), 35) :: ((((35), 0), 36) :: ((((32), 2), 33) :: ((((33), 0), 34) :: ((((32), 1), 16) :: ((((32), 0), 1) :: ((((0), 2), 27) :: ((((27), 2), 30) :: ((((30), 0), 31) :: ((((27), 1), 28) :: ((((28), 0), 29) :: ((((27), 0), 1) :: ((((0), 1), 16) :: ((((16), 5), 25) :: ((((25), 2), 26) :: ((((16), 4), 23) :: ((((23), 2), 24) :: ((((16), 3), 21) :: ((((21), 2), 22) :: ((((16), 2), 19) :: ((((19), 0), 20) :: ((((16), 1), 17) :: ((((17), 0), 18) :: ((((16), 0), 1) :: ((((0), 0), 1) :: ((((1), 6), 14) :: ((((14), 2), 15) :: ((((1), 5), 12) :: ((((12), 2), 13) :: ((((1), 4), 10) :: ((((10), 2), 11) :: ((((1), 3), 8) :: ((((8), 0), 9) :: ((((1), 2), 6) :: ((((6), 0), 7) :: ((((1), 1), 4) :: ((((4), 0), 5) :: ((((1), 0), 2) :: ((((2), 2), 3) :: []))))))))))))))))))))))))))))))))))))))))))))))))))) dX9_init_73 ln_Works_43 mf_Evaluator_init rfl (Nat.le_of_ble_eq_true rfl) np_Evaluator_init rfl (Nat.le_of_ble_eq_true rfl) (Nat.le_of_ble_eq_true rfl) ⟨(Nat.le_of_ble_eq_true rfl), (Nat.le_of_ble_eq_true rfl)⟩ (Or.inl (by decide)) ⟨by decide, by decide⟩ (sp_Evaluator_init_41 h0 (lkN (c := 42) (by decide)) (lkN (c := 42) (by decide)) ⟨none, rfl, rfl, rfl⟩) ?_
  rintro _ _ ⟨rfl, rfl⟩
  refine ex_putR dX9_init_76 fl_Works_44 cf_9 rfl (Or.inr ⟨rfl, rfl, rfl⟩) (fun _ => rfl) (fun _ => rfl) ⟨_, rfl⟩ rfl (by decide) ?_
  refine ex_rB ?_
  refine ex_aload_n (i := 0) dX9_init_79 rfl rfl ?_
  refine ex_Kw (K := (9 + 1, 3311 + xNf 8)) ⟨by decide, by decide⟩ ?_
  refine ex_new (ci := 8) dX9_init_80 cf_8 nw_Works_48.1 nw_Works_48.2.1 nw_Works_48.2.2 rfl ?_
  refine ex_mem (xZ_B (h0 46 (by decide)) (fun k => rfl)) ?_
  refine ex_rr (xZR_B (fun k => rfl)) ?_
  refine ex_dup dX9_init_83 rfl ?_
  refine ex_callI (Kc := (4, 1654)) (K := (5, 1657)) (a := 46) (ci := 8) (as := []) (Qk := fun v M => v = none ∧ M = (51, 0, iB i0 ((((46), 2), nI (0)) :: ((((47), 1), nI (8)) :: ((((47), 0), nI (150)) :: ((((32), 7), nI (0)) :: ((((32), 6), nI (0)) :: ((((27), 3), nI (0)) :: ((((16), 7), nI (0)) :: ((((16), 6), nI (0)) :: ((((25), 1), nI (7)) :: ((((25), 0), nI (50)) :: ((((23), 1), nI (14)) :: ((((23), 0), nI (50)) :: ((((21), 1), nI (75)) :: ((((21), 0), nI (50)) :: ((((1), 8), nI (0)) :: ((((1), 7), nI (0)) :: ((((14), 1), nI (15)) :: ((((14), 0), nI (14)) :: ((((12), 1), nI (15)) :: ((((12), 0), nI (14)) :: ((((10), 1), nI (15)) :: ((((10), 0), nI (14)) :: ((((2), 1), nI (5)) :: ((((2), 0), nI (15)) :: [])))))))))))))))))))))))), q0L, rB ((((46), 1), 49) :: ((((49), 0), 50) :: ((((46), 0), 47) :: ((((47), 2), 48) :: ((((0), 4), 41) :: ((((41), 2), 44) :: ((((44), 0), 45) :: ((((41), 1), 42) :: ((((42), 0), 43) :: ((((41), 0), 1) :: ((((0), 3), 32) :: ((((32), 5), 39) :: ((((39), 0), 40) :: ((((32), 4), 37) :: ((((37), 0), 38) :: ((((32), 3), 35) :: ((((35), 0), 36) :: ((((32), 2), 33) :: ((((33), 0), 34) :: ((((32), 1), 16) :: ((((32), 0), 1) :: ((((0), 2), 27) :: ((((27), 2), 30) :: ((((30), 0), 31) :: ((((27), 1), 28) :: ((((28), 0), 29) :: ((((27), 0), 1) :: ((((0), 1), 16) :: ((((16), 5), 25) :: ((((25), 2), 26) :: ((((16), 4), 23) :: ((((23), 2), 24) :: ((((16), 3), 21) :: ((((21), 2), 22) :: ((((16), 2), 19) :: ((((19), 0), 20) :: ((((16), 1), 17) :: ((((17), 0), 18) :: ((((16), 0), 1) :: ((((0), 0), 1) :: ((((1), 6), 14) :: ((((14), 2), 15) :: ((((1), 5), 12) :: ((((12), 2), 13) :: ((((1), 4), 10) :: ((((10), 2), 11) :: ((((1), 3), 8) :: ((((8), 0), 9) :: ((((1), 2), 6) :: ((((6), 0), 7) :: ((((1), 1), 4) :: ((((4), 0), 5) :: ((((1), 0), 2) :: ((((2), 2), 3) :: [])))))))))))))))))))))))))))))))))))))))))))))))))))))))) dX9_init_84 ln_Works_50 mf_Tree_init rfl (Nat.le_of_ble_eq_true rfl) np_Tree_init rfl (Nat.le_of_ble_eq_true rfl) (Nat.le_of_ble_eq_true rfl) ⟨(Nat.le_of_ble_eq_true rfl), (Nat.le_of_ble_eq_true rfl)⟩ (Or.inl (by decide)) ⟨by decide, by decide⟩ (sp_Tree_init_46 h0 (lkN (c := 47) (by decide)) (lkN (c := 47) (by decide)) ⟨none, rfl, rfl, rfl⟩) ?_
  rintro _ _ ⟨rfl, rfl⟩
  refine ex_putR dX9_init_87 fl_Works_51 cf_9 rfl (Or.inl rfl) (fun _ => rfl) (fun _ => rfl) ⟨_, rfl⟩ rfl (by decide) ?_
  refine ex_rB ?_
  refine ex_aload_n (i := 0) dX9_init_90 rfl rfl ?_
  refine ex_Kw (K := (4 + 1, 1654 + xNf 8)) ⟨by decide, by decide⟩ ?_
  refine ex_new (ci := 8) dX9_init_91 cf_8 nw_Works_48.1 nw_Works_48.2.1 nw_Works_48.2.2 rfl ?_
  refine ex_mem (xZ_B (h0 51 (by decide)) (fun k => rfl)) ?_
  refine ex_rr (xZR_B (fun k => rfl)) ?_
  refine ex_dup dX9_init_94 rfl ?_
  refine ex_callI (Kc := (4, 1654)) (K := (0, 0)) (a := 51) (ci := 8) (as := []) (Qk := fun v M => v = none ∧ M = (56, 0, iB i0 ((((51), 2), nI (0)) :: ((((52), 1), nI (8)) :: ((((52), 0), nI (150)) :: ((((46), 2), nI (0)) :: ((((47), 1), nI (8)) :: ((((47), 0), nI (150)) :: ((((32), 7), nI (0)) :: ((((32), 6), nI (0)) :: ((((27), 3), nI (0)) :: ((((16), 7), nI (0)) :: ((((16), 6), nI (0)) :: ((((25), 1), nI (7)) :: ((((25), 0), nI (50)) :: ((((23), 1), nI (14)) :: ((((23), 0), nI (50)) :: ((((21), 1), nI (75)) :: ((((21), 0), nI (50)) :: ((((1), 8), nI (0)) :: ((((1), 7), nI (0)) :: ((((14), 1), nI (15)) :: ((((14), 0), nI (14)) :: ((((12), 1), nI (15)) :: ((((12), 0), nI (14)) :: ((((10), 1), nI (15)) :: ((((10), 0), nI (14)) :: ((((2), 1), nI (5)) :: ((((2), 0), nI (15)) :: []))))))))))))))))))))))))))), q0L, rB ((((51), 1), 54) :: ((((54), 0), 55) :: ((((51), 0), 52) :: ((((52), 2), 53) :: ((((0), 5), 46) :: ((((46), 1), 49) :: ((((49), 0), 50) :: ((((46), 0), 47) :: ((((47), 2), 48) :: ((((0), 4), 41) :: ((((41), 2), 44) :: ((((44), 0), 45) :: ((((41), 1), 42) :: ((((42), 0), 43) :: ((((41), 0), 1) :: ((((0), 3), 32) :: ((((32), 5), 39) :: ((((39), 0), 40) :: ((((32), 4), 37) :: ((((37), 0), 38) :: ((((32), 3), 35) :: ((((35), 0), 36) :: ((((32), 2), 33) :: ((((33), 0), 34) :: ((((32), 1), 16) :: ((((32), 0), 1) :: ((((0), 2), 27) :: ((((27), 2), 30) :: ((((30), 0), 31) :: ((((27), 1), 28) :: ((((28), 0), 29) :: ((((27), 0), 1) :: ((((0), 1), 16) :: ((((16), 5), 25) :: ((((25), 2), 26) :: ((((16), 4), 23) :: ((((23), 2), 24) :: ((((16), 3), 21) :: ((((21), 2), 22) :: ((((16), 2), 19) :: ((((19), 0), 20) :: ((((16), 1), 17) :: ((((17), 0), 18) :: ((((16), 0), 1) :: ((((0), 0), 1) :: ((((1), 6), 14) :: ((((14), 2), 15) :: ((((1), 5), 12) :: ((((12), 2), 13) :: ((((1), 4), 10) :: ((((10), 2), 11) :: ((((1), 3), 8) :: ((((8), 0), 9) :: ((((1), 2), 6) :: ((((6), 0), 7) :: ((((1), 1), 4) :: ((((4), 0), 5) :: ((((1), 0), 2) :: ((((2), 2), 3) :: []))))))))))))))))))))))))))))))))))))))))))))))))))))))))))))) dX9_init_95 ln_Works_50 mf_Tree_init rfl (Nat.le_of_ble_eq_true rfl) np_Tree_init rfl (Nat.le_of_ble_eq_true rfl) (Nat.le_of_ble_eq_true rfl) ⟨(Nat.le_of_ble_eq_true rfl), (Nat.le_of_ble_eq_true rfl)⟩ (Or.inl (by decide)) ⟨by decide, by decide⟩ (sp_Tree_init_51 h0 (lkN (c := 52) (by decide)) (lkN (c := 52) (by decide)) ⟨none, rfl, rfl, rfl⟩) ?_
  rintro _ _ ⟨rfl, rfl⟩
  refine ex_putR dX9_init_98 fl_Works_55 cf_9 rfl (Or.inl rfl) (fun _ => rfl) (fun _ => rfl) ⟨_, rfl⟩ rfl (by decide) ?_
  refine ex_rB ?_
  refine ex_aload_n (i := 0) dX9_init_101 rfl rfl ?_
  refine ex_iconst (v := nI 0) dX9_init_102 (by decide) ?_
  refine ex_putI dX9_init_103 fl_Works_58 cf_9 rfl (Or.inl rfl) (by decide) (by decide) rfl (by decide) ?_
  refine ex_iB ?_
  refine ex_aload_n (i := 0) dX9_init_106 rfl rfl ?_
  refine ex_iconst (v := -1) dX9_init_107 (by decide) ?_
  refine ex_putI dX9_init_108 fl_Works_62 cf_9 rfl (Or.inl rfl) rfl rfl rfl (by decide) ?_
  refine ex_iB ?_
  refine ex_ret dX9_init_111 rfl ?_
  exact hQ
end S88b
