/-! ===== the reference: lies, reckon, work ===== -/
section S78
variable {g : Nat} {i : Nat → Nat → Int32} {q : Nat → Nat → Int64} {t : Bool} {Q : xRes → xMem → Prop} {n md : Nat} {sy : Nat → Nat → Nat} {nd : Nat → Int32} {tb : Nat → Bool} {rl : Nat → Nat} {pa : Nat → Option (Nat × Nat)} {ch : Nat → Nat → Nat} {op xp yp : Nat → Nat} {val : Nat → Int64}
theorem sp_Model_lies {a c : Nat} (ha : a < 150) (hc : c < 50) (hc3 : c % 10 < 3) (hk : 10 ≤ c → i 90 (4 * a + c / 10 - 1) = nI (ch a (c / 10)) ∧ ch a (c / 10) < 150) (hQ : Q (.ok (some (.int (nI (sSl ch a (c / 10 * 3 + c % 10)))))) (94, g, i, q, RT t)) :
    Wx m_Model_lies 0 [some (.ref 56), some (.int (nI a)), some (.int (nI c))] [] (94, g, i, q, RT t) (0, 0) Q := by
  have e1 : (c / 10 * 3 + c % 10) / 3 = c / 10 := by omega
  have e2 : (c / 10 * 3 + c % 10) % 3 = c % 10 := by omega
  unfold sSl at hQ
  rw [e1, e2] at hQ
  by_cases h : c < 10
  · rw [if_pos (by omega), show a * 3 + c % 10 = 3 * a + c by omega] at hQ
    refine ex_iload_n (i := 2) dX10_lies_0 rfl rfl ?_
    refine ex_bipush (v := nI 10) dX10_lies_1 (by decide) ?_
    refine ex_icmp_geN (tgt := 14) dX10_lies_3 (by decide) (by omega) (by omega) (fun h3 => by omega) (fun h3 => ?_)
    refine ex_iconst (v := nI 3) dX10_lies_6 (by decide) ?_
    refine ex_iload_n (i := 1) dX10_lies_7 rfl rfl ?_
    refine ex_imulN dX10_lies_8 ?_
    refine ex_iload_n (i := 2) dX10_lies_9 rfl rfl ?_
    refine ex_iaddN dX10_lies_10 ?_
    refine ex_goto (tgt := 36) dX10_lies_11 (by decide) ?_
    refine ex_iret dX10_lies_36 rfl rfl ?_
    exact hQ
  · obtain ⟨k1, k2⟩ := hk (by omega)
    rw [if_neg (by omega), Nat.mul_comm] at hQ
    refine ex_iload_n (i := 2) dX10_lies_0 rfl rfl ?_
    refine ex_bipush (v := nI 10) dX10_lies_1 (by decide) ?_
    refine ex_icmp_geN (tgt := 14) dX10_lies_3 (by decide) (by omega) (by omega) (fun h3 => ?_) (fun h3 => by omega)
    refine ex_iconst (v := nI 3) dX10_lies_14 (by decide) ?_
    refine ex_aload_n (i := 0) dX10_lies_15 rfl rfl ?_
    refine ex_getR (v := .ref (90)) dX10_lies_16 fl_Model_110 rfl rfl (by decide) rfl ?_
    refine ex_iconst (v := nI 4) dX10_lies_19 (by decide) ?_
    refine ex_iload_n (i := 1) dX10_lies_20 rfl rfl ?_
    refine ex_imulN dX10_lies_21 ?_
    refine ex_iload_n (i := 2) dX10_lies_22 rfl rfl ?_
    refine ex_bipush (v := nI 10) dX10_lies_23 (by decide) ?_
    refine ex_idivN dX10_lies_25 (by omega) (by decide) (by decide) ?_
    refine ex_iaddN dX10_lies_26 ?_
    refine ex_iconst (v := nI 1) dX10_lies_27 (by decide) ?_
    refine ex_isubN dX10_lies_28 (by omega) ?_
    refine ex_ialdN dX10_lies_29 rfl (by decide) (by omega) rfl ?_
    refine ex_asN (a := ch a (c / 10)) k1 ?_
    refine ex_imulN dX10_lies_30 ?_
    refine ex_iload_n (i := 2) dX10_lies_31 rfl rfl ?_
    refine ex_bipush (v := nI 10) dX10_lies_32 (by decide) ?_
    refine ex_iremN dX10_lies_34 (by omega) (by decide) (by decide) ?_
    refine ex_iaddN dX10_lies_35 ?_
    refine ex_iret dX10_lies_36 rfl rfl ?_
    exact hQ
theorem sp_Model_reckon {o : Nat} {x y : Int64} (ho : 2 ≤ o ∧ o ≤ 8) (hQ : Q (.ok (some (.long (opr o x y)))) (94, g, i, q, RT t)) : Wx m_Model_reckon 0 [some (.int (nI (o - 1))), some (.long x), none, some (.long y), none] [] (94, g, i, q, RT t) (0, 0) Q := by
  rcases (show o = 2 ∨ o = 3 ∨ o = 4 ∨ o = 5 ∨ o = 6 ∨ o = 7 ∨ o = 8 by omega) with rfl | rfl | rfl | rfl | rfl | rfl | rfl
  ·
    refine ex_iload_n (i := 0) dX10_reckon_0 rfl rfl ?_
    refine ex_iconst (v := nI 1) dX10_reckon_1 (by decide) ?_
    refine ex_icmp_neN (tgt := 7) dX10_reckon_2 (by decide) (by decide) (by decide) (fun h2 => by exact absurd h2 (by decide)) (fun h2 => ?_)
    refine ex_lload_n (i := 1) dX10_reckon_5 rfl rfl ?_
    refine ex_lret dX10_reckon_6 rfl ?_
    exact hQ
  ·
    refine ex_iload_n (i := 0) dX10_reckon_0 rfl rfl ?_
    refine ex_iconst (v := nI 1) dX10_reckon_1 (by decide) ?_
    refine ex_icmp_neN (tgt := 7) dX10_reckon_2 (by decide) (by decide) (by decide) (fun h2 => ?_) (fun h2 => by exact absurd h2 (by decide))
    refine ex_iload_n (i := 0) dX10_reckon_7 rfl rfl ?_
    refine ex_iconst (v := nI 2) dX10_reckon_8 (by decide) ?_
    refine ex_icmp_neN (tgt := 16) dX10_reckon_9 (by decide) (by decide) (by decide) (fun h9 => by exact absurd h9 (by decide)) (fun h9 => ?_)
    refine ex_lload_n (i := 1) dX10_reckon_12 rfl rfl ?_
    refine ex_lload_n (i := 3) dX10_reckon_13 rfl rfl ?_
    refine ex_ladd dX10_reckon_14 ?_
    refine ex_lret dX10_reckon_15 rfl ?_
    exact hQ
  ·
    refine ex_iload_n (i := 0) dX10_reckon_0 rfl rfl ?_
    refine ex_iconst (v := nI 1) dX10_reckon_1 (by decide) ?_
    refine ex_icmp_neN (tgt := 7) dX10_reckon_2 (by decide) (by decide) (by decide) (fun h2 => ?_) (fun h2 => by exact absurd h2 (by decide))
    refine ex_iload_n (i := 0) dX10_reckon_7 rfl rfl ?_
    refine ex_iconst (v := nI 2) dX10_reckon_8 (by decide) ?_
    refine ex_icmp_neN (tgt := 16) dX10_reckon_9 (by decide) (by decide) (by decide) (fun h9 => ?_) (fun h9 => by exact absurd h9 (by decide))
    refine ex_iload_n (i := 0) dX10_reckon_16 rfl rfl ?_
    refine ex_iconst (v := nI 3) dX10_reckon_17 (by decide) ?_
    refine ex_icmp_neN (tgt := 25) dX10_reckon_18 (by decide) (by decide) (by decide) (fun h18 => by exact absurd h18 (by decide)) (fun h18 => ?_)
    refine ex_lload_n (i := 1) dX10_reckon_21 rfl rfl ?_
    refine ex_lload_n (i := 3) dX10_reckon_22 rfl rfl ?_
    refine ex_lsub dX10_reckon_23 ?_
    refine ex_lret dX10_reckon_24 rfl ?_
    exact hQ
  ·
    refine ex_iload_n (i := 0) dX10_reckon_0 rfl rfl ?_
    refine ex_iconst (v := nI 1) dX10_reckon_1 (by decide) ?_
    refine ex_icmp_neN (tgt := 7) dX10_reckon_2 (by decide) (by decide) (by decide) (fun h2 => ?_) (fun h2 => by exact absurd h2 (by decide))
    refine ex_iload_n (i := 0) dX10_reckon_7 rfl rfl ?_
    refine ex_iconst (v := nI 2) dX10_reckon_8 (by decide) ?_
    refine ex_icmp_neN (tgt := 16) dX10_reckon_9 (by decide) (by decide) (by decide) (fun h9 => ?_) (fun h9 => by exact absurd h9 (by decide))
    refine ex_iload_n (i := 0) dX10_reckon_16 rfl rfl ?_
    refine ex_iconst (v := nI 3) dX10_reckon_17 (by decide) ?_
    refine ex_icmp_neN (tgt := 25) dX10_reckon_18 (by decide) (by decide) (by decide) (fun h18 => ?_) (fun h18 => by exact absurd h18 (by decide))
    refine ex_iload_n (i := 0) dX10_reckon_25 rfl rfl ?_
    refine ex_iconst (v := nI 4) dX10_reckon_26 (by decide) ?_
    refine ex_icmp_neN (tgt := 34) dX10_reckon_27 (by decide) (by decide) (by decide) (fun h27 => by exact absurd h27 (by decide)) (fun h27 => ?_)
    refine ex_lload_n (i := 1) dX10_reckon_30 rfl rfl ?_
    refine ex_lload_n (i := 3) dX10_reckon_31 rfl rfl ?_
    refine ex_lmul dX10_reckon_32 ?_
    refine ex_lret dX10_reckon_33 rfl ?_
    exact hQ
  · have e : opr 6 x y = if x < y then 1 else 0 := rfl
    rw [e] at hQ
    by_cases c : x < y
    · rw [if_pos c] at hQ
      refine ex_iload_n (i := 0) dX10_reckon_0 rfl rfl ?_
      refine ex_iconst (v := nI 1) dX10_reckon_1 (by decide) ?_
      refine ex_icmp_neN (tgt := 7) dX10_reckon_2 (by decide) (by decide) (by decide) (fun h2 => ?_) (fun h2 => by exact absurd h2 (by decide))
      refine ex_iload_n (i := 0) dX10_reckon_7 rfl rfl ?_
      refine ex_iconst (v := nI 2) dX10_reckon_8 (by decide) ?_
      refine ex_icmp_neN (tgt := 16) dX10_reckon_9 (by decide) (by decide) (by decide) (fun h9 => ?_) (fun h9 => by exact absurd h9 (by decide))
      refine ex_iload_n (i := 0) dX10_reckon_16 rfl rfl ?_
      refine ex_iconst (v := nI 3) dX10_reckon_17 (by decide) ?_
      refine ex_icmp_neN (tgt := 25) dX10_reckon_18 (by decide) (by decide) (by decide) (fun h18 => ?_) (fun h18 => by exact absurd h18 (by decide))
      refine ex_iload_n (i := 0) dX10_reckon_25 rfl rfl ?_
      refine ex_iconst (v := nI 4) dX10_reckon_26 (by decide) ?_
      refine ex_icmp_neN (tgt := 34) dX10_reckon_27 (by decide) (by decide) (by decide) (fun h27 => ?_) (fun h27 => by exact absurd h27 (by decide))
      refine ex_iload_n (i := 0) dX10_reckon_34 rfl rfl ?_
      refine ex_iconst (v := nI 5) dX10_reckon_35 (by decide) ?_
      refine ex_icmp_neN (tgt := 51) dX10_reckon_36 (by decide) (by decide) (by decide) (fun h36 => by exact absurd h36 (by decide)) (fun h36 => ?_)
      refine ex_lload_n (i := 1) dX10_reckon_39 rfl rfl ?_
      refine ex_lload_n (i := 3) dX10_reckon_40 rfl rfl ?_
      refine ex_lcmp dX10_reckon_41 ?_
      refine ex_if_ge (tgt := 49) dX10_reckon_42 (by decide) (fun h42 => by exact absurd h42 (by unfold lg_cmp; rw [if_neg (lg_lt_not c), if_neg (lg_lt_ne c)]; decide)) (fun h42 => ?_)
      refine ex_lconst (v := 1) dX10_reckon_45 (by decide) ?_
      refine ex_goto (tgt := 50) dX10_reckon_46 (by decide) ?_
      refine ex_lret dX10_reckon_50 rfl ?_
      exact hQ
    · rw [if_neg c] at hQ
      refine ex_iload_n (i := 0) dX10_reckon_0 rfl rfl ?_
      refine ex_iconst (v := nI 1) dX10_reckon_1 (by decide) ?_
      refine ex_icmp_neN (tgt := 7) dX10_reckon_2 (by decide) (by decide) (by decide) (fun h2 => ?_) (fun h2 => by exact absurd h2 (by decide))
      refine ex_iload_n (i := 0) dX10_reckon_7 rfl rfl ?_
      refine ex_iconst (v := nI 2) dX10_reckon_8 (by decide) ?_
      refine ex_icmp_neN (tgt := 16) dX10_reckon_9 (by decide) (by decide) (by decide) (fun h9 => ?_) (fun h9 => by exact absurd h9 (by decide))
      refine ex_iload_n (i := 0) dX10_reckon_16 rfl rfl ?_
      refine ex_iconst (v := nI 3) dX10_reckon_17 (by decide) ?_
      refine ex_icmp_neN (tgt := 25) dX10_reckon_18 (by decide) (by decide) (by decide) (fun h18 => ?_) (fun h18 => by exact absurd h18 (by decide))
      refine ex_iload_n (i := 0) dX10_reckon_25 rfl rfl ?_
      refine ex_iconst (v := nI 4) dX10_reckon_26 (by decide) ?_
      refine ex_icmp_neN (tgt := 34) dX10_reckon_27 (by decide) (by decide) (by decide) (fun h27 => ?_) (fun h27 => by exact absurd h27 (by decide))
      refine ex_iload_n (i := 0) dX10_reckon_34 rfl rfl ?_
      refine ex_iconst (v := nI 5) dX10_reckon_35 (by decide) ?_
      refine ex_icmp_neN (tgt := 51) dX10_reckon_36 (by decide) (by decide) (by decide) (fun h36 => by exact absurd h36 (by decide)) (fun h36 => ?_)
      refine ex_lload_n (i := 1) dX10_reckon_39 rfl rfl ?_
      refine ex_lload_n (i := 3) dX10_reckon_40 rfl rfl ?_
      refine ex_lcmp dX10_reckon_41 ?_
      refine ex_if_ge (tgt := 49) dX10_reckon_42 (by decide) (fun h42 => ?_) (fun h42 => by exact absurd (show ¬ lg_cmp x y < 0 by unfold lg_cmp; rcases lg_tri x y with h | h | h <;> simp_all) (by simpa using h42))
      refine ex_lconst (v := 0) dX10_reckon_49 (by decide) ?_
      refine ex_lret dX10_reckon_50 rfl ?_
      exact hQ
  · have e : opr 7 x y = if y < x then x else y := rfl
    rw [e] at hQ
    by_cases c : y < x
    · rw [if_pos c] at hQ
      have c2 : x > y := c
      refine ex_iload_n (i := 0) dX10_reckon_0 rfl rfl ?_
      refine ex_iconst (v := nI 1) dX10_reckon_1 (by decide) ?_
      refine ex_icmp_neN (tgt := 7) dX10_reckon_2 (by decide) (by decide) (by decide) (fun h2 => ?_) (fun h2 => by exact absurd h2 (by decide))
      refine ex_iload_n (i := 0) dX10_reckon_7 rfl rfl ?_
      refine ex_iconst (v := nI 2) dX10_reckon_8 (by decide) ?_
      refine ex_icmp_neN (tgt := 16) dX10_reckon_9 (by decide) (by decide) (by decide) (fun h9 => ?_) (fun h9 => by exact absurd h9 (by decide))
      refine ex_iload_n (i := 0) dX10_reckon_16 rfl rfl ?_
      refine ex_iconst (v := nI 3) dX10_reckon_17 (by decide) ?_
      refine ex_icmp_neN (tgt := 25) dX10_reckon_18 (by decide) (by decide) (by decide) (fun h18 => ?_) (fun h18 => by exact absurd h18 (by decide))
      refine ex_iload_n (i := 0) dX10_reckon_25 rfl rfl ?_
      refine ex_iconst (v := nI 4) dX10_reckon_26 (by decide) ?_
      refine ex_icmp_neN (tgt := 34) dX10_reckon_27 (by decide) (by decide) (by decide) (fun h27 => ?_) (fun h27 => by exact absurd h27 (by decide))
      refine ex_iload_n (i := 0) dX10_reckon_34 rfl rfl ?_
      refine ex_iconst (v := nI 5) dX10_reckon_35 (by decide) ?_
      refine ex_icmp_neN (tgt := 51) dX10_reckon_36 (by decide) (by decide) (by decide) (fun h36 => ?_) (fun h36 => by exact absurd h36 (by decide))
      refine ex_iload_n (i := 0) dX10_reckon_51 rfl rfl ?_
      refine ex_bipush (v := nI 6) dX10_reckon_52 (by decide) ?_
      refine ex_icmp_neN (tgt := 69) dX10_reckon_54 (by decide) (by decide) (by decide) (fun h54 => by exact absurd h54 (by decide)) (fun h54 => ?_)
      refine ex_lload_n (i := 1) dX10_reckon_57 rfl rfl ?_
      refine ex_lload_n (i := 3) dX10_reckon_58 rfl rfl ?_
      refine ex_lcmp dX10_reckon_59 ?_
      refine ex_if_le (tgt := 67) dX10_reckon_60 (by decide) (fun h60 => by exact absurd h60 (by unfold lg_cmp; rw [if_pos c2]; decide)) (fun h60 => ?_)
      refine ex_lload_n (i := 1) dX10_reckon_63 rfl rfl ?_
      refine ex_goto (tgt := 68) dX10_reckon_64 (by decide) ?_
      refine ex_lret dX10_reckon_68 rfl ?_
      exact hQ
    · rw [if_neg c] at hQ
      have c2 : ¬ x > y := c
      refine ex_iload_n (i := 0) dX10_reckon_0 rfl rfl ?_
      refine ex_iconst (v := nI 1) dX10_reckon_1 (by decide) ?_
      refine ex_icmp_neN (tgt := 7) dX10_reckon_2 (by decide) (by decide) (by decide) (fun h2 => ?_) (fun h2 => by exact absurd h2 (by decide))
      refine ex_iload_n (i := 0) dX10_reckon_7 rfl rfl ?_
      refine ex_iconst (v := nI 2) dX10_reckon_8 (by decide) ?_
      refine ex_icmp_neN (tgt := 16) dX10_reckon_9 (by decide) (by decide) (by decide) (fun h9 => ?_) (fun h9 => by exact absurd h9 (by decide))
      refine ex_iload_n (i := 0) dX10_reckon_16 rfl rfl ?_
      refine ex_iconst (v := nI 3) dX10_reckon_17 (by decide) ?_
      refine ex_icmp_neN (tgt := 25) dX10_reckon_18 (by decide) (by decide) (by decide) (fun h18 => ?_) (fun h18 => by exact absurd h18 (by decide))
      refine ex_iload_n (i := 0) dX10_reckon_25 rfl rfl ?_
      refine ex_iconst (v := nI 4) dX10_reckon_26 (by decide) ?_
      refine ex_icmp_neN (tgt := 34) dX10_reckon_27 (by decide) (by decide) (by decide) (fun h27 => ?_) (fun h27 => by exact absurd h27 (by decide))
      refine ex_iload_n (i := 0) dX10_reckon_34 rfl rfl ?_
      refine ex_iconst (v := nI 5) dX10_reckon_35 (by decide) ?_
      refine ex_icmp_neN (tgt := 51) dX10_reckon_36 (by decide) (by decide) (by decide) (fun h36 => ?_) (fun h36 => by exact absurd h36 (by decide))
      refine ex_iload_n (i := 0) dX10_reckon_51 rfl rfl ?_
      refine ex_bipush (v := nI 6) dX10_reckon_52 (by decide) ?_
      refine ex_icmp_neN (tgt := 69) dX10_reckon_54 (by decide) (by decide) (by decide) (fun h54 => by exact absurd h54 (by decide)) (fun h54 => ?_)
      refine ex_lload_n (i := 1) dX10_reckon_57 rfl rfl ?_
      refine ex_lload_n (i := 3) dX10_reckon_58 rfl rfl ?_
      refine ex_lcmp dX10_reckon_59 ?_
      refine ex_if_le (tgt := 67) dX10_reckon_60 (by decide) (fun h60 => ?_) (fun h60 => by exact absurd (show lg_cmp x y ≤ 0 by unfold lg_cmp; rw [if_neg c2]; split <;> decide) h60)
      refine ex_lload_n (i := 3) dX10_reckon_67 rfl rfl ?_
      refine ex_lret dX10_reckon_68 rfl ?_
      exact hQ
  · have e : opr 8 x y = if y = 0 then 0 else x := rfl
    rw [e] at hQ
    by_cases c : y = 0
    · rw [if_pos c] at hQ
      refine ex_iload_n (i := 0) dX10_reckon_0 rfl rfl ?_
      refine ex_iconst (v := nI 1) dX10_reckon_1 (by decide) ?_
      refine ex_icmp_neN (tgt := 7) dX10_reckon_2 (by decide) (by decide) (by decide) (fun h2 => ?_) (fun h2 => by exact absurd h2 (by decide))
      refine ex_iload_n (i := 0) dX10_reckon_7 rfl rfl ?_
      refine ex_iconst (v := nI 2) dX10_reckon_8 (by decide) ?_
      refine ex_icmp_neN (tgt := 16) dX10_reckon_9 (by decide) (by decide) (by decide) (fun h9 => ?_) (fun h9 => by exact absurd h9 (by decide))
      refine ex_iload_n (i := 0) dX10_reckon_16 rfl rfl ?_
      refine ex_iconst (v := nI 3) dX10_reckon_17 (by decide) ?_
      refine ex_icmp_neN (tgt := 25) dX10_reckon_18 (by decide) (by decide) (by decide) (fun h18 => ?_) (fun h18 => by exact absurd h18 (by decide))
      refine ex_iload_n (i := 0) dX10_reckon_25 rfl rfl ?_
      refine ex_iconst (v := nI 4) dX10_reckon_26 (by decide) ?_
      refine ex_icmp_neN (tgt := 34) dX10_reckon_27 (by decide) (by decide) (by decide) (fun h27 => ?_) (fun h27 => by exact absurd h27 (by decide))
      refine ex_iload_n (i := 0) dX10_reckon_34 rfl rfl ?_
      refine ex_iconst (v := nI 5) dX10_reckon_35 (by decide) ?_
      refine ex_icmp_neN (tgt := 51) dX10_reckon_36 (by decide) (by decide) (by decide) (fun h36 => ?_) (fun h36 => by exact absurd h36 (by decide))
      refine ex_iload_n (i := 0) dX10_reckon_51 rfl rfl ?_
      refine ex_bipush (v := nI 6) dX10_reckon_52 (by decide) ?_
      refine ex_icmp_neN (tgt := 69) dX10_reckon_54 (by decide) (by decide) (by decide) (fun h54 => ?_) (fun h54 => by exact absurd h54 (by decide))
      refine ex_lload_n (i := 3) dX10_reckon_69 rfl rfl ?_
      refine ex_lconst (v := 0) dX10_reckon_70 (by decide) ?_
      refine ex_lcmp dX10_reckon_71 ?_
      refine ex_if_eq (tgt := 79) dX10_reckon_72 (by decide) (fun h72 => ?_) (fun h72 => by exact absurd (by rw [c]; decide) h72)
      refine ex_lconst (v := 0) dX10_reckon_79 (by decide) ?_
      refine ex_lret dX10_reckon_80 rfl ?_
      exact hQ
    · rw [if_neg c] at hQ
      refine ex_iload_n (i := 0) dX10_reckon_0 rfl rfl ?_
      refine ex_iconst (v := nI 1) dX10_reckon_1 (by decide) ?_
      refine ex_icmp_neN (tgt := 7) dX10_reckon_2 (by decide) (by decide) (by decide) (fun h2 => ?_) (fun h2 => by exact absurd h2 (by decide))
      refine ex_iload_n (i := 0) dX10_reckon_7 rfl rfl ?_
      refine ex_iconst (v := nI 2) dX10_reckon_8 (by decide) ?_
      refine ex_icmp_neN (tgt := 16) dX10_reckon_9 (by decide) (by decide) (by decide) (fun h9 => ?_) (fun h9 => by exact absurd h9 (by decide))
      refine ex_iload_n (i := 0) dX10_reckon_16 rfl rfl ?_
      refine ex_iconst (v := nI 3) dX10_reckon_17 (by decide) ?_
      refine ex_icmp_neN (tgt := 25) dX10_reckon_18 (by decide) (by decide) (by decide) (fun h18 => ?_) (fun h18 => by exact absurd h18 (by decide))
      refine ex_iload_n (i := 0) dX10_reckon_25 rfl rfl ?_
      refine ex_iconst (v := nI 4) dX10_reckon_26 (by decide) ?_
      refine ex_icmp_neN (tgt := 34) dX10_reckon_27 (by decide) (by decide) (by decide) (fun h27 => ?_) (fun h27 => by exact absurd h27 (by decide))
      refine ex_iload_n (i := 0) dX10_reckon_34 rfl rfl ?_
      refine ex_iconst (v := nI 5) dX10_reckon_35 (by decide) ?_
      refine ex_icmp_neN (tgt := 51) dX10_reckon_36 (by decide) (by decide) (by decide) (fun h36 => ?_) (fun h36 => by exact absurd h36 (by decide))
      refine ex_iload_n (i := 0) dX10_reckon_51 rfl rfl ?_
      refine ex_bipush (v := nI 6) dX10_reckon_52 (by decide) ?_
      refine ex_icmp_neN (tgt := 69) dX10_reckon_54 (by decide) (by decide) (by decide) (fun h54 => ?_) (fun h54 => by exact absurd h54 (by decide))
      refine ex_lload_n (i := 3) dX10_reckon_69 rfl rfl ?_
      refine ex_lconst (v := 0) dX10_reckon_70 (by decide) ?_
      refine ex_lcmp dX10_reckon_71 ?_
      refine ex_if_eq (tgt := 79) dX10_reckon_72 (by decide) (fun h72 => by exact absurd (by rw [lg0] at h72; exact h72) c) (fun h72 => ?_)
      refine ex_lload_n (i := 1) dX10_reckon_75 rfl rfl ?_
      refine ex_goto (tgt := 80) dX10_reckon_76 (by decide) ?_
      refine ex_lret dX10_reckon_80 rfl ?_
      exact hQ
/-- what is known in the midst of attributes -/
def atI (md : Nat) (tb : Nat → Bool) (val : Nat → Int64) (i i1 : Nat → Nat → Int32) (q q1 : Nat → Nat → Int64) (kn : Nat → Nat) : Prop :=
  Fm [92] [] i i1 ∧ (∀ c, c ≠ 91 → q1 c = q c) ∧ ∀ s, s < 3 * md → i1 92 s = nI (kn s) ∧ kn s < 2 ∧ (kn s = 1 → q1 91 s = val s) ∧ (kn s = 0 → q1 91 s = 0) ∧ (tb (s / 3) = true → kn s = 1)
/-- the tree as the reference has it -/
def mtW (sy : Nat → Nat → Nat) (md : Nat) (tb : Nat → Bool) (rl : Nat → Nat) (pa : Nat → Option (Nat × Nat)) (ch : Nat → Nat → Nat) (n : Nat) (i : Nat → Nat → Int32) : Prop :=
  md ≤ 150 ∧ ∀ j, j < md → (tb j = false → i 87 j = nI (rl j) ∧ rl j < n ∧ ∀ k, 1 ≤ k → k ≤ lnR sy (rl j) → i 90 (4 * j + k - 1) = nI (ch j k) ∧ ch j k < md) ∧ (pa j = none → i 88 j = -1) ∧ (∀ p k, pa j = some (p, k) → i 88 j = nI p ∧ i 89 j = nI k ∧ p < md ∧ tb p = false ∧ 1 ≤ k ∧ k ≤ lnR sy (rl p))
def rdy (op xp yp rl : Nat → Nat) (pa : Nat → Option (Nat × Nat)) (ch : Nat → Nat → Nat) (kn : Nat → Nat) (s : Nat) : Prop := (2 ≤ opS op rl (sCx pa s) → kn (arS xp rl ch (sCx pa s)) = 1) ∧ (3 ≤ opS op rl (sCx pa s) → kn (arS yp rl ch (sCx pa s)) = 1)
theorem atI_up {i1 i2 : Nat → Nat → Int32} {q1 q2 : Nat → Nat → Int64} {kn : Nat → Nat} {s : Nat} (h : atI md tb val i i1 q q1 kn) (hf : Fm [92] [] i i2) (e92 : i2 92 = upd (i1 92) s (nI 1)) (eq : ∀ c, c ≠ 91 → q2 c = q1 c) (eq2 : ∀ s', s' ≠ s → q2 91 s' = q1 91 s') (ev : q2 91 s = val s) : atI md tb val i i2 q q2 (upN kn s 1) := by
  refine ⟨hf, fun c hc => (eq c hc).trans (h.2.1 c hc), fun s' hs' => ?_⟩
  obtain ⟨a, b, c, d, e⟩ := h.2.2 s' hs'
  rw [e92]; unfold upd upN
  by_cases z : s' = s
  · rw [if_pos z, if_pos z, z]
    exact ⟨rfl, by decide, fun _ => ev, fun y => absurd y (by decide), fun _ => rfl⟩
  · rw [if_neg z, if_neg z, eq2 s' z]
    exact ⟨a, b, c, d, e⟩
theorem lp_Model_work {j a c p s : Nat} {kn : Nat → Nat} {i1 : Nat → Nat → Int32} {q1 : Nat → Nat → Int64} (rg : RG i n sy) (re : RE i op xp yp) (ev : EV n sy op xp yp) (hw : mtW sy md tb rl pa ch n i) (sol : SOL md tb rl pa ch op xp yp val) (hI : atI md tb val i i1 q q1 kn) (hs : s < 3 * md) (hb : tb (s / 3) = false) (hk0 : kn s = 0)
    (hc : c < md) (hbc : tb c = false) (hp : p < 15) (hcx : sCx pa s = some (c, p))
    (hQ1 : rdy op xp yp rl pa ch kn s → ∀ i2 q2, atI md tb val i i2 q q2 (upN kn s 1) → Q (.ok (some (.int (nI 1)))) (94, g, i2, q2, RT t))
    (hQ0 : ¬ rdy op xp yp rl pa ch kn s → Q (.ok (some (.int (nI 0)))) (94, g, i1, q1, RT t)) :
    Wx m_Model_work 62 [some (.ref 56), some (.int (nI j)), some (.int (nI a)), some (.int (nI c)), some (.int (nI (15 * rl c + p))), some (.int (nI s)), none] [] (94, g, i1, q1, RT t) (0, 0) Q := by
  have h150 := hw.1
  have hn14 := rg.2.2.2.2.1
  obtain ⟨w1, w2, w3⟩ := hw.2 c hc
  obtain ⟨r1, r2, r3⟩ := w1 hbc
  obtain ⟨e, he⟩ : ∃ e, e = 15 * rl c + p := ⟨_, rfl⟩
  have heq : rl c * 15 + p = e := by omega
  have he210 : e < 210 := by omega
  have re1 := re.fm hI.1 (by decide) (by decide) (by decide)
  obtain ⟨o1, o2, o3, o4, o5⟩ := re1 e he210
  obtain ⟨v1, v2, v3⟩ := ev (rl c) p r2 hp
  rw [heq] at v1 v2 v3
  obtain ⟨k1, k2, k3, k4, k5⟩ := hI.2.2 s hs
  have hsol := sol s hs hb
  have hop : opS op rl (sCx pa s) = op e := by rw [hcx]; show op (rl c * 15 + p) = _; rw [heq]
  have hax : arS xp rl ch (sCx pa s) = sSl ch c (xp e) := by rw [hcx]; show sSl ch c (xp (rl c * 15 + p)) = _; rw [heq]
  have hay : arS yp rl ch (sCx pa s) = sSl ch c (yp e) := by rw [hcx]; show sSl ch c (yp (rl c * 15 + p)) = _; rw [heq]
  have hnm : nmS xp rl (sCx pa s) = xp e := by rw [hcx]; show xp (rl c * 15 + p) = _; rw [heq]
  unfold wkS at hsol
  rw [hop, hax, hay, hnm] at hsol
  unfold rdy at hQ1 hQ0
  rw [hop, hax, hay] at hQ1 hQ0
  have kid : ∀ cc, cc < 50 → cc % 10 < 3 → cc / 10 ≤ lnR sy (rl c) → (10 ≤ cc → i1 90 (4 * c + cc / 10 - 1) = nI (ch c (cc / 10)) ∧ ch c (cc / 10) < 150) := fun cc h1 h2 h3 h10 => by
    obtain ⟨z1, z2⟩ := r3 (cc / 10) (by omega) h3
    rw [hI.1.1 90 (by decide) (by decide)]
    exact ⟨z1, by omega⟩
  have slt : ∀ cc, cc % 10 < 3 → cc / 10 ≤ lnR sy (rl c) → sSl ch c (cc / 10 * 3 + cc % 10) < 3 * md := fun cc h2 h3 => by
    unfold sSl
    rw [show (cc / 10 * 3 + cc % 10) / 3 = cc / 10 by omega, show (cc / 10 * 3 + cc % 10) % 3 = cc % 10 by omega]
    split
    · omega
    · rename_i z
      have := (r3 (cc / 10) (by omega) h3).2
      omega
  have f92 : Fm [92] [] i (xU i1 92 s (nI 1)) := hI.1.U (by decide) (by decide)
  rw [← he]
  by_cases op0 : op e = 0
  · rw [if_pos op0] at o1 hsol
    refine ex_iload dX10_work_62 rfl ?_
    refine ex_if_ltN (tgt := 77) dX10_work_64 (by decide) (by omega) ?_
    refine ex_aload_n (i := 0) dX10_work_67 rfl rfl ?_
    refine ex_getR (v := .ref (62)) dX10_work_68 fl_Model_25 rfl rfl (by decide) rfl ?_
    refine ex_iload dX10_work_71 rfl ?_
    refine ex_ialdN dX10_work_73 rfl (by decide) (by omega) rfl ?_
    refine ex_asI (y := (-1)) o1 ?_
    refine ex_if_ge (tgt := 87) dX10_work_74 (by decide) (fun h74 => by exact absurd h74 (by decide)) (fun h74 => ?_)
    refine ex_aload_n (i := 0) dX10_work_77 rfl rfl ?_
    refine ex_getR (v := .ref (92)) dX10_work_78 fl_Model_117 rfl rfl (by decide) rfl ?_
    refine ex_iload dX10_work_81 rfl ?_
    refine ex_iconst (v := nI 1) dX10_work_83 (by decide) ?_
    refine ex_bastN dX10_work_84 rfl (by decide) (by decide) (by omega) ?_
    refine ex_iconst (v := nI 1) dX10_work_85 (by decide) ?_
    refine ex_iret dX10_work_86 rfl (by decide) ?_
    exact hQ1 ⟨fun z => by omega, fun z => by omega⟩ _ _ (atI_up hI f92 (by simp [xU]) (fun _ _ => rfl) (fun _ _ => rfl) (by rw [hsol]; exact k4 hk0))
  · rw [if_neg op0] at o1 hsol
    by_cases op1 : op e = 1
    · rw [if_pos op1] at hsol
      have o3 := o3 op1
      refine ex_iload dX10_work_62 rfl ?_
      refine ex_if_ltN (tgt := 77) dX10_work_64 (by decide) (by omega) ?_
      refine ex_aload_n (i := 0) dX10_work_67 rfl rfl ?_
      refine ex_getR (v := .ref (62)) dX10_work_68 fl_Model_25 rfl rfl (by decide) rfl ?_
      refine ex_iload dX10_work_71 rfl ?_
      refine ex_ialdN dX10_work_73 rfl (by decide) (by omega) rfl ?_
      refine ex_asN (a := op e - 1) o1 ?_
      refine ex_if_geN (tgt := 87) dX10_work_74 (by decide) (by omega) ?_
      refine ex_aload_n (i := 0) dX10_work_87 rfl rfl ?_
      refine ex_getR (v := .ref (62)) dX10_work_88 fl_Model_25 rfl rfl (by decide) rfl ?_
      refine ex_iload dX10_work_91 rfl ?_
      refine ex_ialdN dX10_work_93 rfl (by decide) (by omega) rfl ?_
      refine ex_asN (a := op e - 1) o1 ?_
      refine ex_istore (L' := [some (.ref (56)), some (.int (nI (j))), some (.int (nI (a))), some (.int (nI (c))), some (.int (nI (e))), some (.int (nI (s))), some (.int (nI (op e - 1)))]) dX10_work_94 (by decide) rfl ?_
      refine ex_iload dX10_work_96 rfl ?_
      refine ex_if_leN (tgt := 121) dX10_work_98 (by decide) (by omega) (fun h98 => ?_) (fun h98 => by omega)
      refine ex_iload dX10_work_121 rfl ?_
      refine ex_iconst (v := nI 1) dX10_work_123 (by decide) ?_
      refine ex_icmp_leN (tgt := 149) dX10_work_124 (by decide) (by omega) (by omega) (fun h124 => ?_) (fun h124 => by omega)
      refine ex_aload_n (i := 0) dX10_work_149 rfl rfl ?_
      refine ex_getR (v := .ref (91)) dX10_work_150 fl_Model_113 rfl rfl (by decide) rfl ?_
      refine ex_iload dX10_work_153 rfl ?_
      refine ex_iload dX10_work_155 rfl ?_
      refine ex_if_neN (tgt := 171) dX10_work_157 (by decide) (by omega) (fun h157 => by omega) (fun h157 => ?_)
      refine ex_aload_n (i := 0) dX10_work_160 rfl rfl ?_
      refine ex_getR (v := .ref (63)) dX10_work_161 fl_Model_28 rfl rfl (by decide) rfl ?_
      refine ex_iload dX10_work_164 rfl ?_
      refine ex_ialdN dX10_work_166 rfl (by decide) (by omega) rfl ?_
      refine ex_asN (a := xp e) o3 ?_
      refine ex_i2l dX10_work_167 ?_
      refine ex_goto (tgt := 220) dX10_work_168 (by decide) ?_
      refine ex_lastN dX10_work_220 rfl (by decide) (by omega) ?_
      refine ex_aload_n (i := 0) dX10_work_221 rfl rfl ?_
      refine ex_getR (v := .ref (92)) dX10_work_222 fl_Model_117 rfl rfl (by decide) rfl ?_
      refine ex_iload dX10_work_225 rfl ?_
      refine ex_iconst (v := nI 1) dX10_work_227 (by decide) ?_
      refine ex_bastN dX10_work_228 rfl (by decide) (by decide) (by omega) ?_
      refine ex_iconst (v := nI 1) dX10_work_229 (by decide) ?_
      refine ex_iret dX10_work_230 rfl (by decide) ?_
      refine hQ1 ⟨fun z => by omega, fun z => by omega⟩ _ _ (atI_up hI f92 (by simp [xU]) (fun c hc => xUL_ne _ _ _ hc) (fun s' hs' => ?_) ?_)
      · rw [xUL_at]; unfold vp_updL; rw [if_neg hs']
      · rw [xUL_at]; unfold vp_updL; rw [if_pos rfl, hsol]
    · rw [if_neg op1] at hsol
      obtain ⟨cx, c1, c2, c3, c4⟩ := o4 (by omega)
      have hxl : cx / 10 ≤ lnR sy (rl c) := by have := v1 (by omega); omega
      have hx := slt cx c3 hxl
      have hkx := kid cx c2 c3 hxl
      rw [c4] at hx
      obtain ⟨x1, x2, x3, x4, x5⟩ := hI.2.2 _ hx
      have x450 : sSl ch c (xp e) < 450 := by omega
      by_cases kx : kn (sSl ch c (xp e)) = 0
      ·
        refine ex_iload dX10_work_62 rfl ?_
        refine ex_if_ltN (tgt := 77) dX10_work_64 (by decide) (by omega) ?_
        refine ex_aload_n (i := 0) dX10_work_67 rfl rfl ?_
        refine ex_getR (v := .ref (62)) dX10_work_68 fl_Model_25 rfl rfl (by decide) rfl ?_
        refine ex_iload dX10_work_71 rfl ?_
        refine ex_ialdN dX10_work_73 rfl (by decide) (by omega) rfl ?_
        refine ex_asN (a := op e - 1) o1 ?_
        refine ex_if_geN (tgt := 87) dX10_work_74 (by decide) (by omega) ?_
        refine ex_aload_n (i := 0) dX10_work_87 rfl rfl ?_
        refine ex_getR (v := .ref (62)) dX10_work_88 fl_Model_25 rfl rfl (by decide) rfl ?_
        refine ex_iload dX10_work_91 rfl ?_
        refine ex_ialdN dX10_work_93 rfl (by decide) (by omega) rfl ?_
        refine ex_asN (a := op e - 1) o1 ?_
        refine ex_istore (L' := [some (.ref (56)), some (.int (nI (j))), some (.int (nI (a))), some (.int (nI (c))), some (.int (nI (e))), some (.int (nI (s))), some (.int (nI (op e - 1)))]) dX10_work_94 (by decide) rfl ?_
        refine ex_iload dX10_work_96 rfl ?_
        refine ex_if_leN (tgt := 121) dX10_work_98 (by decide) (by omega) (fun h98 => by omega) (fun h98 => ?_)
        refine ex_aload_n (i := 0) dX10_work_101 rfl rfl ?_
        refine ex_getR (v := .ref (92)) dX10_work_102 fl_Model_117 rfl rfl (by decide) rfl ?_
        refine ex_aload_n (i := 0) dX10_work_105 rfl rfl ?_
        refine ex_iload_n (i := 3) dX10_work_106 rfl rfl ?_
        refine ex_aload_n (i := 0) dX10_work_107 rfl rfl ?_
        refine ex_getR (v := .ref (63)) dX10_work_108 fl_Model_28 rfl rfl (by decide) rfl ?_
        refine ex_iload dX10_work_111 rfl ?_
        refine ex_ialdN dX10_work_113 rfl (by decide) (by omega) rfl ?_
        refine ex_asN (a := cx) c1 ?_
        refine ex_cV (ν := m_Model_lies) (a := 56) (ci := 10) (as := [.int (nI (c)), .int (nI (cx))]) dX10_work_114 ln_Model_237 mf_Model_lies rfl (Nat.le_of_ble_eq_true rfl) rfl rfl np_Model_lies rfl rfl ⟨(Nat.le_of_ble_eq_true rfl), (Nat.le_of_ble_eq_true rfl), (Nat.le_of_ble_eq_true rfl), (Nat.le_of_ble_eq_true rfl)⟩ (by decide) ?_
        refine sp_Model_lies (ch := ch) (by omega) c2 c3 hkx ?_
        refine ⟨_, rfl, ?_⟩
        refine ex_asN (a := sSl ch c (xp e)) (by rw [c4]) ?_
        refine ex_baldN dX10_work_117 rfl (by decide) (by omega) rfl ?_
        refine ex_asN (a := kn (sSl ch c (xp e))) x1 ?_
        refine ex_if_eqN (tgt := 147) dX10_work_118 (by decide) (by omega) (fun h118 => ?_) (fun h118 => by exact absurd kx h118)
        refine ex_iconst (v := nI 0) dX10_work_147 (by decide) ?_
        refine ex_iret dX10_work_148 rfl (by decide) ?_
        exact hQ0 (fun z => by have := z.1 (by omega); omega)
      · have kx1 : kn (sSl ch c (xp e)) = 1 := by omega
        have vx := x3 kx1
        by_cases op2 : op e = 2
        · have hsol2 : val s = q1 91 (sSl ch c (xp e)) := by rw [hsol, op2, vx]; rfl
          refine ex_iload dX10_work_62 rfl ?_
          refine ex_if_ltN (tgt := 77) dX10_work_64 (by decide) (by omega) ?_
          refine ex_aload_n (i := 0) dX10_work_67 rfl rfl ?_
          refine ex_getR (v := .ref (62)) dX10_work_68 fl_Model_25 rfl rfl (by decide) rfl ?_
          refine ex_iload dX10_work_71 rfl ?_
          refine ex_ialdN dX10_work_73 rfl (by decide) (by omega) rfl ?_
          refine ex_asN (a := op e - 1) o1 ?_
          refine ex_if_geN (tgt := 87) dX10_work_74 (by decide) (by omega) ?_
          refine ex_aload_n (i := 0) dX10_work_87 rfl rfl ?_
          refine ex_getR (v := .ref (62)) dX10_work_88 fl_Model_25 rfl rfl (by decide) rfl ?_
          refine ex_iload dX10_work_91 rfl ?_
          refine ex_ialdN dX10_work_93 rfl (by decide) (by omega) rfl ?_
          refine ex_asN (a := op e - 1) o1 ?_
          refine ex_istore (L' := [some (.ref (56)), some (.int (nI (j))), some (.int (nI (a))), some (.int (nI (c))), some (.int (nI (e))), some (.int (nI (s))), some (.int (nI (op e - 1)))]) dX10_work_94 (by decide) rfl ?_
          refine ex_iload dX10_work_96 rfl ?_
          refine ex_if_leN (tgt := 121) dX10_work_98 (by decide) (by omega) (fun h98 => by omega) (fun h98 => ?_)
          refine ex_aload_n (i := 0) dX10_work_101 rfl rfl ?_
          refine ex_getR (v := .ref (92)) dX10_work_102 fl_Model_117 rfl rfl (by decide) rfl ?_
          refine ex_aload_n (i := 0) dX10_work_105 rfl rfl ?_
          refine ex_iload_n (i := 3) dX10_work_106 rfl rfl ?_
          refine ex_aload_n (i := 0) dX10_work_107 rfl rfl ?_
          refine ex_getR (v := .ref (63)) dX10_work_108 fl_Model_28 rfl rfl (by decide) rfl ?_
          refine ex_iload dX10_work_111 rfl ?_
          refine ex_ialdN dX10_work_113 rfl (by decide) (by omega) rfl ?_
          refine ex_asN (a := cx) c1 ?_
          refine ex_cV (ν := m_Model_lies) (a := 56) (ci := 10) (as := [.int (nI (c)), .int (nI (cx))]) dX10_work_114 ln_Model_237 mf_Model_lies rfl (Nat.le_of_ble_eq_true rfl) rfl rfl np_Model_lies rfl rfl ⟨(Nat.le_of_ble_eq_true rfl), (Nat.le_of_ble_eq_true rfl), (Nat.le_of_ble_eq_true rfl), (Nat.le_of_ble_eq_true rfl)⟩ (by decide) ?_
          refine sp_Model_lies (ch := ch) (by omega) c2 c3 hkx ?_
          refine ⟨_, rfl, ?_⟩
          refine ex_asN (a := sSl ch c (xp e)) (by rw [c4]) ?_
          refine ex_baldN dX10_work_117 rfl (by decide) (by omega) rfl ?_
          refine ex_asN (a := kn (sSl ch c (xp e))) x1 ?_
          refine ex_if_eqN (tgt := 147) dX10_work_118 (by decide) (by omega) (fun h118 => by exact absurd h118 kx) (fun h118 => ?_)
          refine ex_iload dX10_work_121 rfl ?_
          refine ex_iconst (v := nI 1) dX10_work_123 (by decide) ?_
          refine ex_icmp_leN (tgt := 149) dX10_work_124 (by decide) (by omega) (by omega) (fun h124 => ?_) (fun h124 => by omega)
          refine ex_aload_n (i := 0) dX10_work_149 rfl rfl ?_
          refine ex_getR (v := .ref (91)) dX10_work_150 fl_Model_113 rfl rfl (by decide) rfl ?_
          refine ex_iload dX10_work_153 rfl ?_
          refine ex_iload dX10_work_155 rfl ?_
          refine ex_if_neN (tgt := 171) dX10_work_157 (by decide) (by omega) (fun h157 => ?_) (fun h157 => by omega)
          refine ex_iload dX10_work_171 rfl ?_
          refine ex_aload_n (i := 0) dX10_work_173 rfl rfl ?_
          refine ex_getR (v := .ref (91)) dX10_work_174 fl_Model_113 rfl rfl (by decide) rfl ?_
          refine ex_aload_n (i := 0) dX10_work_177 rfl rfl ?_
          refine ex_iload_n (i := 3) dX10_work_178 rfl rfl ?_
          refine ex_aload_n (i := 0) dX10_work_179 rfl rfl ?_
          refine ex_getR (v := .ref (63)) dX10_work_180 fl_Model_28 rfl rfl (by decide) rfl ?_
          refine ex_iload dX10_work_183 rfl ?_
          refine ex_ialdN dX10_work_185 rfl (by decide) (by omega) rfl ?_
          refine ex_asN (a := cx) c1 ?_
          refine ex_cV (ν := m_Model_lies) (a := 56) (ci := 10) (as := [.int (nI (c)), .int (nI (cx))]) dX10_work_186 ln_Model_237 mf_Model_lies rfl (Nat.le_of_ble_eq_true rfl) rfl rfl np_Model_lies rfl rfl ⟨(Nat.le_of_ble_eq_true rfl), (Nat.le_of_ble_eq_true rfl), (Nat.le_of_ble_eq_true rfl), (Nat.le_of_ble_eq_true rfl)⟩ (by decide) ?_
          refine sp_Model_lies (ch := ch) (by omega) c2 c3 hkx ?_
          refine ⟨_, rfl, ?_⟩
          refine ex_asN (a := sSl ch c (xp e)) (by rw [c4]) ?_
          refine ex_laldN dX10_work_189 rfl (by decide) (by omega) rfl ?_
          refine ex_iload dX10_work_190 rfl ?_
          refine ex_iconst (v := nI 1) dX10_work_192 (by decide) ?_
          refine ex_icmp_leN (tgt := 216) dX10_work_193 (by decide) (by omega) (by omega) (fun h193 => ?_) (fun h193 => by omega)
          refine ex_lconst (v := 0) dX10_work_216 (by decide) ?_
          refine ex_cS (ν := m_Model_reckon) (as := [.int (nI (op e - 1)), .long (q1 (91) (sSl ch c (xp e))), .long (0)]) dX10_work_217 ln_Model_240 mf_Model_reckon np_Model_reckon rfl rfl ⟨(Nat.le_of_ble_eq_true rfl), (Nat.le_of_ble_eq_true rfl), (Nat.le_of_ble_eq_true rfl), (Nat.le_of_ble_eq_true rfl)⟩ (by decide) ?_
          refine sp_Model_reckon (o := op e) (by omega) ?_
          refine ⟨_, rfl, ?_⟩
          refine ex_lastN dX10_work_220 rfl (by decide) (by omega) ?_
          refine ex_aload_n (i := 0) dX10_work_221 rfl rfl ?_
          refine ex_getR (v := .ref (92)) dX10_work_222 fl_Model_117 rfl rfl (by decide) rfl ?_
          refine ex_iload dX10_work_225 rfl ?_
          refine ex_iconst (v := nI 1) dX10_work_227 (by decide) ?_
          refine ex_bastN dX10_work_228 rfl (by decide) (by decide) (by omega) ?_
          refine ex_iconst (v := nI 1) dX10_work_229 (by decide) ?_
          refine ex_iret dX10_work_230 rfl (by decide) ?_
          refine hQ1 ⟨fun z => kx1, fun z => by omega⟩ _ _ (atI_up hI f92 (by simp [xU]) (fun c hc => xUL_ne _ _ _ hc) (fun s' hs' => ?_) ?_)
          · rw [xUL_at]; unfold vp_updL; rw [if_neg hs']
          · rw [xUL_at]; unfold vp_updL; rw [if_pos rfl, hsol2, op2]; rfl
        · obtain ⟨cy, d1, d2, d3, d4⟩ := o5 (by omega)
          have hyl : cy / 10 ≤ lnR sy (rl c) := by have := v2 (by omega); omega
          have hy := slt cy d3 hyl
          have hky := kid cy d2 d3 hyl
          rw [d4] at hy
          obtain ⟨y1, y2, y3, y4, y5⟩ := hI.2.2 _ hy
          have y450 : sSl ch c (yp e) < 450 := by omega
          by_cases ky : kn (sSl ch c (yp e)) = 0
          ·
            refine ex_iload dX10_work_62 rfl ?_
            refine ex_if_ltN (tgt := 77) dX10_work_64 (by decide) (by omega) ?_
            refine ex_aload_n (i := 0) dX10_work_67 rfl rfl ?_
            refine ex_getR (v := .ref (62)) dX10_work_68 fl_Model_25 rfl rfl (by decide) rfl ?_
            refine ex_iload dX10_work_71 rfl ?_
            refine ex_ialdN dX10_work_73 rfl (by decide) (by omega) rfl ?_
            refine ex_asN (a := op e - 1) o1 ?_
            refine ex_if_geN (tgt := 87) dX10_work_74 (by decide) (by omega) ?_
            refine ex_aload_n (i := 0) dX10_work_87 rfl rfl ?_
            refine ex_getR (v := .ref (62)) dX10_work_88 fl_Model_25 rfl rfl (by decide) rfl ?_
            refine ex_iload dX10_work_91 rfl ?_
            refine ex_ialdN dX10_work_93 rfl (by decide) (by omega) rfl ?_
            refine ex_asN (a := op e - 1) o1 ?_
            refine ex_istore (L' := [some (.ref (56)), some (.int (nI (j))), some (.int (nI (a))), some (.int (nI (c))), some (.int (nI (e))), some (.int (nI (s))), some (.int (nI (op e - 1)))]) dX10_work_94 (by decide) rfl ?_
            refine ex_iload dX10_work_96 rfl ?_
            refine ex_if_leN (tgt := 121) dX10_work_98 (by decide) (by omega) (fun h98 => by omega) (fun h98 => ?_)
            refine ex_aload_n (i := 0) dX10_work_101 rfl rfl ?_
            refine ex_getR (v := .ref (92)) dX10_work_102 fl_Model_117 rfl rfl (by decide) rfl ?_
            refine ex_aload_n (i := 0) dX10_work_105 rfl rfl ?_
            refine ex_iload_n (i := 3) dX10_work_106 rfl rfl ?_
            refine ex_aload_n (i := 0) dX10_work_107 rfl rfl ?_
            refine ex_getR (v := .ref (63)) dX10_work_108 fl_Model_28 rfl rfl (by decide) rfl ?_
            refine ex_iload dX10_work_111 rfl ?_
            refine ex_ialdN dX10_work_113 rfl (by decide) (by omega) rfl ?_
            refine ex_asN (a := cx) c1 ?_
            refine ex_cV (ν := m_Model_lies) (a := 56) (ci := 10) (as := [.int (nI (c)), .int (nI (cx))]) dX10_work_114 ln_Model_237 mf_Model_lies rfl (Nat.le_of_ble_eq_true rfl) rfl rfl np_Model_lies rfl rfl ⟨(Nat.le_of_ble_eq_true rfl), (Nat.le_of_ble_eq_true rfl), (Nat.le_of_ble_eq_true rfl), (Nat.le_of_ble_eq_true rfl)⟩ (by decide) ?_
            refine sp_Model_lies (ch := ch) (by omega) c2 c3 hkx ?_
            refine ⟨_, rfl, ?_⟩
            refine ex_asN (a := sSl ch c (xp e)) (by rw [c4]) ?_
            refine ex_baldN dX10_work_117 rfl (by decide) (by omega) rfl ?_
            refine ex_asN (a := kn (sSl ch c (xp e))) x1 ?_
            refine ex_if_eqN (tgt := 147) dX10_work_118 (by decide) (by omega) (fun h118 => by exact absurd h118 kx) (fun h118 => ?_)
            refine ex_iload dX10_work_121 rfl ?_
            refine ex_iconst (v := nI 1) dX10_work_123 (by decide) ?_
            refine ex_icmp_leN (tgt := 149) dX10_work_124 (by decide) (by omega) (by omega) (fun h124 => by omega) (fun h124 => ?_)
            refine ex_aload_n (i := 0) dX10_work_127 rfl rfl ?_
            refine ex_getR (v := .ref (92)) dX10_work_128 fl_Model_117 rfl rfl (by decide) rfl ?_
            refine ex_aload_n (i := 0) dX10_work_131 rfl rfl ?_
            refine ex_iload_n (i := 3) dX10_work_132 rfl rfl ?_
            refine ex_aload_n (i := 0) dX10_work_133 rfl rfl ?_
            refine ex_getR (v := .ref (64)) dX10_work_134 fl_Model_31 rfl rfl (by decide) rfl ?_
            refine ex_iload dX10_work_137 rfl ?_
            refine ex_ialdN dX10_work_139 rfl (by decide) (by omega) rfl ?_
            refine ex_asN (a := cy) d1 ?_
            refine ex_cV (ν := m_Model_lies) (a := 56) (ci := 10) (as := [.int (nI (c)), .int (nI (cy))]) dX10_work_140 ln_Model_237 mf_Model_lies rfl (Nat.le_of_ble_eq_true rfl) rfl rfl np_Model_lies rfl rfl ⟨(Nat.le_of_ble_eq_true rfl), (Nat.le_of_ble_eq_true rfl), (Nat.le_of_ble_eq_true rfl), (Nat.le_of_ble_eq_true rfl)⟩ (by decide) ?_
            refine sp_Model_lies (ch := ch) (by omega) d2 d3 hky ?_
            refine ⟨_, rfl, ?_⟩
            refine ex_asN (a := sSl ch c (yp e)) (by rw [d4]) ?_
            refine ex_baldN dX10_work_143 rfl (by decide) (by omega) rfl ?_
            refine ex_asN (a := kn (sSl ch c (yp e))) y1 ?_
            refine ex_if_neN (tgt := 149) dX10_work_144 (by decide) (by omega) (fun h144 => by exact absurd ky h144) (fun h144 => ?_)
            refine ex_iconst (v := nI 0) dX10_work_147 (by decide) ?_
            refine ex_iret dX10_work_148 rfl (by decide) ?_
            exact hQ0 (fun z => by have := z.2 (by omega); omega)
          · have ky1 : kn (sSl ch c (yp e)) = 1 := by omega
            have vy := y3 ky1
            rw [← vx, ← vy] at hsol
            refine ex_iload dX10_work_62 rfl ?_
            refine ex_if_ltN (tgt := 77) dX10_work_64 (by decide) (by omega) ?_
            refine ex_aload_n (i := 0) dX10_work_67 rfl rfl ?_
            refine ex_getR (v := .ref (62)) dX10_work_68 fl_Model_25 rfl rfl (by decide) rfl ?_
            refine ex_iload dX10_work_71 rfl ?_
            refine ex_ialdN dX10_work_73 rfl (by decide) (by omega) rfl ?_
            refine ex_asN (a := op e - 1) o1 ?_
            refine ex_if_geN (tgt := 87) dX10_work_74 (by decide) (by omega) ?_
            refine ex_aload_n (i := 0) dX10_work_87 rfl rfl ?_
            refine ex_getR (v := .ref (62)) dX10_work_88 fl_Model_25 rfl rfl (by decide) rfl ?_
            refine ex_iload dX10_work_91 rfl ?_
            refine ex_ialdN dX10_work_93 rfl (by decide) (by omega) rfl ?_
            refine ex_asN (a := op e - 1) o1 ?_
            refine ex_istore (L' := [some (.ref (56)), some (.int (nI (j))), some (.int (nI (a))), some (.int (nI (c))), some (.int (nI (e))), some (.int (nI (s))), some (.int (nI (op e - 1)))]) dX10_work_94 (by decide) rfl ?_
            refine ex_iload dX10_work_96 rfl ?_
            refine ex_if_leN (tgt := 121) dX10_work_98 (by decide) (by omega) (fun h98 => by omega) (fun h98 => ?_)
            refine ex_aload_n (i := 0) dX10_work_101 rfl rfl ?_
            refine ex_getR (v := .ref (92)) dX10_work_102 fl_Model_117 rfl rfl (by decide) rfl ?_
            refine ex_aload_n (i := 0) dX10_work_105 rfl rfl ?_
            refine ex_iload_n (i := 3) dX10_work_106 rfl rfl ?_
            refine ex_aload_n (i := 0) dX10_work_107 rfl rfl ?_
            refine ex_getR (v := .ref (63)) dX10_work_108 fl_Model_28 rfl rfl (by decide) rfl ?_
            refine ex_iload dX10_work_111 rfl ?_
            refine ex_ialdN dX10_work_113 rfl (by decide) (by omega) rfl ?_
            refine ex_asN (a := cx) c1 ?_
            refine ex_cV (ν := m_Model_lies) (a := 56) (ci := 10) (as := [.int (nI (c)), .int (nI (cx))]) dX10_work_114 ln_Model_237 mf_Model_lies rfl (Nat.le_of_ble_eq_true rfl) rfl rfl np_Model_lies rfl rfl ⟨(Nat.le_of_ble_eq_true rfl), (Nat.le_of_ble_eq_true rfl), (Nat.le_of_ble_eq_true rfl), (Nat.le_of_ble_eq_true rfl)⟩ (by decide) ?_
            refine sp_Model_lies (ch := ch) (by omega) c2 c3 hkx ?_
            refine ⟨_, rfl, ?_⟩
            refine ex_asN (a := sSl ch c (xp e)) (by rw [c4]) ?_
            refine ex_baldN dX10_work_117 rfl (by decide) (by omega) rfl ?_
            refine ex_asN (a := kn (sSl ch c (xp e))) x1 ?_
            refine ex_if_eqN (tgt := 147) dX10_work_118 (by decide) (by omega) (fun h118 => by exact absurd h118 kx) (fun h118 => ?_)
            refine ex_iload dX10_work_121 rfl ?_
            refine ex_iconst (v := nI 1) dX10_work_123 (by decide) ?_
            refine ex_icmp_leN (tgt := 149) dX10_work_124 (by decide) (by omega) (by omega) (fun h124 => by omega) (fun h124 => ?_)
            refine ex_aload_n (i := 0) dX10_work_127 rfl rfl ?_
            refine ex_getR (v := .ref (92)) dX10_work_128 fl_Model_117 rfl rfl (by decide) rfl ?_
            refine ex_aload_n (i := 0) dX10_work_131 rfl rfl ?_
            refine ex_iload_n (i := 3) dX10_work_132 rfl rfl ?_
            refine ex_aload_n (i := 0) dX10_work_133 rfl rfl ?_
            refine ex_getR (v := .ref (64)) dX10_work_134 fl_Model_31 rfl rfl (by decide) rfl ?_
            refine ex_iload dX10_work_137 rfl ?_
            refine ex_ialdN dX10_work_139 rfl (by decide) (by omega) rfl ?_
            refine ex_asN (a := cy) d1 ?_
            refine ex_cV (ν := m_Model_lies) (a := 56) (ci := 10) (as := [.int (nI (c)), .int (nI (cy))]) dX10_work_140 ln_Model_237 mf_Model_lies rfl (Nat.le_of_ble_eq_true rfl) rfl rfl np_Model_lies rfl rfl ⟨(Nat.le_of_ble_eq_true rfl), (Nat.le_of_ble_eq_true rfl), (Nat.le_of_ble_eq_true rfl), (Nat.le_of_ble_eq_true rfl)⟩ (by decide) ?_
            refine sp_Model_lies (ch := ch) (by omega) d2 d3 hky ?_
            refine ⟨_, rfl, ?_⟩
            refine ex_asN (a := sSl ch c (yp e)) (by rw [d4]) ?_
            refine ex_baldN dX10_work_143 rfl (by decide) (by omega) rfl ?_
            refine ex_asN (a := kn (sSl ch c (yp e))) y1 ?_
            refine ex_if_neN (tgt := 149) dX10_work_144 (by decide) (by omega) (fun h144 => ?_) (fun h144 => by exact absurd h144 ky)
            refine ex_aload_n (i := 0) dX10_work_149 rfl rfl ?_
            refine ex_getR (v := .ref (91)) dX10_work_150 fl_Model_113 rfl rfl (by decide) rfl ?_
            refine ex_iload dX10_work_153 rfl ?_
            refine ex_iload dX10_work_155 rfl ?_
            refine ex_if_neN (tgt := 171) dX10_work_157 (by decide) (by omega) (fun h157 => ?_) (fun h157 => by omega)
            refine ex_iload dX10_work_171 rfl ?_
            refine ex_aload_n (i := 0) dX10_work_173 rfl rfl ?_
            refine ex_getR (v := .ref (91)) dX10_work_174 fl_Model_113 rfl rfl (by decide) rfl ?_
            refine ex_aload_n (i := 0) dX10_work_177 rfl rfl ?_
            refine ex_iload_n (i := 3) dX10_work_178 rfl rfl ?_
            refine ex_aload_n (i := 0) dX10_work_179 rfl rfl ?_
            refine ex_getR (v := .ref (63)) dX10_work_180 fl_Model_28 rfl rfl (by decide) rfl ?_
            refine ex_iload dX10_work_183 rfl ?_
            refine ex_ialdN dX10_work_185 rfl (by decide) (by omega) rfl ?_
            refine ex_asN (a := cx) c1 ?_
            refine ex_cV (ν := m_Model_lies) (a := 56) (ci := 10) (as := [.int (nI (c)), .int (nI (cx))]) dX10_work_186 ln_Model_237 mf_Model_lies rfl (Nat.le_of_ble_eq_true rfl) rfl rfl np_Model_lies rfl rfl ⟨(Nat.le_of_ble_eq_true rfl), (Nat.le_of_ble_eq_true rfl), (Nat.le_of_ble_eq_true rfl), (Nat.le_of_ble_eq_true rfl)⟩ (by decide) ?_
            refine sp_Model_lies (ch := ch) (by omega) c2 c3 hkx ?_
            refine ⟨_, rfl, ?_⟩
            refine ex_asN (a := sSl ch c (xp e)) (by rw [c4]) ?_
            refine ex_laldN dX10_work_189 rfl (by decide) (by omega) rfl ?_
            refine ex_iload dX10_work_190 rfl ?_
            refine ex_iconst (v := nI 1) dX10_work_192 (by decide) ?_
            refine ex_icmp_leN (tgt := 216) dX10_work_193 (by decide) (by omega) (by omega) (fun h193 => by omega) (fun h193 => ?_)
            refine ex_aload_n (i := 0) dX10_work_196 rfl rfl ?_
            refine ex_getR (v := .ref (91)) dX10_work_197 fl_Model_113 rfl rfl (by decide) rfl ?_
            refine ex_aload_n (i := 0) dX10_work_200 rfl rfl ?_
            refine ex_iload_n (i := 3) dX10_work_201 rfl rfl ?_
            refine ex_aload_n (i := 0) dX10_work_202 rfl rfl ?_
            refine ex_getR (v := .ref (64)) dX10_work_203 fl_Model_31 rfl rfl (by decide) rfl ?_
            refine ex_iload dX10_work_206 rfl ?_
            refine ex_ialdN dX10_work_208 rfl (by decide) (by omega) rfl ?_
            refine ex_asN (a := cy) d1 ?_
            refine ex_cV (ν := m_Model_lies) (a := 56) (ci := 10) (as := [.int (nI (c)), .int (nI (cy))]) dX10_work_209 ln_Model_237 mf_Model_lies rfl (Nat.le_of_ble_eq_true rfl) rfl rfl np_Model_lies rfl rfl ⟨(Nat.le_of_ble_eq_true rfl), (Nat.le_of_ble_eq_true rfl), (Nat.le_of_ble_eq_true rfl), (Nat.le_of_ble_eq_true rfl)⟩ (by decide) ?_
            refine sp_Model_lies (ch := ch) (by omega) d2 d3 hky ?_
            refine ⟨_, rfl, ?_⟩
            refine ex_asN (a := sSl ch c (yp e)) (by rw [d4]) ?_
            refine ex_laldN dX10_work_212 rfl (by decide) (by omega) rfl ?_
            refine ex_goto (tgt := 217) dX10_work_213 (by decide) ?_
            refine ex_cS (ν := m_Model_reckon) (as := [.int (nI (op e - 1)), .long (q1 (91) (sSl ch c (xp e))), .long (q1 (91) (sSl ch c (yp e)))]) dX10_work_217 ln_Model_240 mf_Model_reckon np_Model_reckon rfl rfl ⟨(Nat.le_of_ble_eq_true rfl), (Nat.le_of_ble_eq_true rfl), (Nat.le_of_ble_eq_true rfl), (Nat.le_of_ble_eq_true rfl)⟩ (by decide) ?_
            refine sp_Model_reckon (o := op e) (by omega) ?_
            refine ⟨_, rfl, ?_⟩
            refine ex_lastN dX10_work_220 rfl (by decide) (by omega) ?_
            refine ex_aload_n (i := 0) dX10_work_221 rfl rfl ?_
            refine ex_getR (v := .ref (92)) dX10_work_222 fl_Model_117 rfl rfl (by decide) rfl ?_
            refine ex_iload dX10_work_225 rfl ?_
            refine ex_iconst (v := nI 1) dX10_work_227 (by decide) ?_
            refine ex_bastN dX10_work_228 rfl (by decide) (by decide) (by omega) ?_
            refine ex_iconst (v := nI 1) dX10_work_229 (by decide) ?_
            refine ex_iret dX10_work_230 rfl (by decide) ?_
            refine hQ1 ⟨fun z => kx1, fun z => ky1⟩ _ _ (atI_up hI f92 (by simp [xU]) (fun c hc => xUL_ne _ _ _ hc) (fun s' hs' => ?_) ?_)
            · rw [xUL_at]; unfold vp_updL; rw [if_neg hs']
            · rw [xUL_at]; unfold vp_updL; rw [if_pos rfl, hsol]
theorem sp_Model_work {s : Nat} {kn : Nat → Nat} {i1 : Nat → Nat → Int32} {q1 : Nat → Nat → Int64} (rg : RG i n sy) (re : RE i op xp yp) (ev : EV n sy op xp yp) (hw : mtW sy md tb rl pa ch n i) (sol : SOL md tb rl pa ch op xp yp val) (hI : atI md tb val i i1 q q1 kn) (hs : s < 3 * md) (hb : tb (s / 3) = false) (hk0 : kn s = 0)
    (hQ1 : rdy op xp yp rl pa ch kn s → ∀ i2 q2, atI md tb val i i2 q q2 (upN kn s 1) → Q (.ok (some (.int (nI 1)))) (94, g, i2, q2, RT t))
    (hQ0 : ¬ rdy op xp yp rl pa ch kn s → Q (.ok (some (.int (nI 0)))) (94, g, i1, q1, RT t)) :
    Wx m_Model_work 0 [some (.ref 56), some (.int (nI (s / 3))), some (.int (nI (s % 3))), none, none, none, none] [] (94, g, i1, q1, RT t) (0, 0) Q := by
  have h150 := hw.1
  have hn14 := rg.2.2.2.2.1
  have hj : s / 3 < md := by omega
  obtain ⟨w1, w2, w3⟩ := hw.2 (s / 3) hj
  have eS : 3 * (s / 3) + s % 3 = s := by omega
  by_cases a2 : s % 3 = 2
  · cases hpa : pa (s / 3) with
    | none =>
      have hcx : sCx pa s = none := by unfold sCx; rw [if_pos a2, hpa]
      have e88 : i1 88 (s / 3) = -1 := by rw [hI.1.1 88 (by decide) (by decide)]; exact w2 hpa
      have hsol := sol s hs hb
      rw [hcx] at hsol
      have hv0 : val s = 0 := hsol
      have k4 := (hI.2.2 s hs).2.2.2.1 hk0
      have f92 : Fm [92] [] i (xU i1 92 s (nI 1)) := hI.1.U (by decide) (by decide)
      refine ex_iload_n (i := 2) dX10_work_0 rfl rfl ?_
      refine ex_iconst (v := nI 2) dX10_work_1 (by decide) ?_
      refine ex_icmp_geN (tgt := 9) dX10_work_2 (by decide) (by omega) (by omega) (fun h2 => ?_) (fun h2 => by omega)
      refine ex_aload_n (i := 0) dX10_work_9 rfl rfl ?_
      refine ex_getR (v := .ref (88)) dX10_work_10 fl_Model_104 rfl rfl (by decide) rfl ?_
      refine ex_iload_n (i := 1) dX10_work_13 rfl rfl ?_
      refine ex_ialdN dX10_work_14 rfl (by decide) (by omega) rfl ?_
      refine ex_asI (y := (-1)) e88 ?_
      refine ex_istore_n (L' := [some (.ref (56)), some (.int (nI (s / 3))), some (.int (nI (s % 3))), some (.int ((-1))), none, none, none]) dX10_work_15 (i := 3) rfl (by decide) rfl ?_
      refine ex_iload_n (i := 3) dX10_work_16 rfl rfl ?_
      refine ex_if_ge (tgt := 24) dX10_work_17 (by decide) (fun h17 => by exact absurd h17 (by decide)) (fun h17 => ?_)
      refine ex_iconst (v := -1) dX10_work_20 (by decide) ?_
      refine ex_goto (tgt := 53) dX10_work_21 (by decide) ?_
      refine ex_istore (L' := [some (.ref (56)), some (.int (nI (s / 3))), some (.int (nI (s % 3))), some (.int ((-1))), some (.int ((-1))), none, none]) dX10_work_53 (by decide) rfl ?_
      refine ex_iconst (v := nI 3) dX10_work_55 (by decide) ?_
      refine ex_iload_n (i := 1) dX10_work_56 rfl rfl ?_
      refine ex_imulN dX10_work_57 ?_
      refine ex_iload_n (i := 2) dX10_work_58 rfl rfl ?_
      refine ex_iaddN dX10_work_59 ?_
      refine ex_asN (a := s) (by rw [eS]) ?_
      refine ex_istore (L' := [some (.ref (56)), some (.int (nI (s / 3))), some (.int (nI (s % 3))), some (.int ((-1))), some (.int ((-1))), some (.int (nI (s))), none]) dX10_work_60 (by decide) rfl ?_
      refine ex_iload dX10_work_62 rfl ?_
      refine ex_if_lt (tgt := 77) dX10_work_64 (by decide) (fun h64 => ?_) (fun h64 => by exact absurd (by decide) h64)
      refine ex_aload_n (i := 0) dX10_work_77 rfl rfl ?_
      refine ex_getR (v := .ref (92)) dX10_work_78 fl_Model_117 rfl rfl (by decide) rfl ?_
      refine ex_iload dX10_work_81 rfl ?_
      refine ex_iconst (v := nI 1) dX10_work_83 (by decide) ?_
      refine ex_bastN dX10_work_84 rfl (by decide) (by decide) (by omega) ?_
      refine ex_iconst (v := nI 1) dX10_work_85 (by decide) ?_
      refine ex_iret dX10_work_86 rfl (by decide) ?_
      exact hQ1 (by unfold rdy; rw [hcx]; exact ⟨fun z => absurd z (by show ¬ 2 ≤ 0; decide), fun z => absurd z (by show ¬ 3 ≤ 0; decide)⟩) _ _ (atI_up hI f92 (by simp [xU]) (fun _ _ => rfl) (fun _ _ => rfl) (by rw [hv0]; exact k4))
    | some v =>
      obtain ⟨p, k⟩ := v
      obtain ⟨p1, p2, p3, p4, p5, p6⟩ := w3 p k hpa
      have hlp := lnR_le sy (rl p)
      obtain ⟨x1, x2, x3⟩ := (hw.2 p p3).1 p4
      have hcx : sCx pa s = some (p, k * 3 + 2) := by unfold sCx; rw [if_pos a2, hpa]
      have e88 : i1 88 (s / 3) = nI p := by rw [hI.1.1 88 (by decide) (by decide)]; exact p1
      have e89 : i1 89 (s / 3) = nI k := by rw [hI.1.1 89 (by decide) (by decide)]; exact p2
      have e87 : i1 87 p = nI (rl p) := by rw [hI.1.1 87 (by decide) (by decide)]; exact x1
      have X := lp_Model_work (j := s / 3) (a := s % 3) (g := g) (q := q) (t := t) (Q := Q) rg re ev hw sol hI hs hb hk0 p3 p4 (by omega) hcx hQ1 hQ0
      refine ex_iload_n (i := 2) dX10_work_0 rfl rfl ?_
      refine ex_iconst (v := nI 2) dX10_work_1 (by decide) ?_
      refine ex_icmp_geN (tgt := 9) dX10_work_2 (by decide) (by omega) (by omega) (fun h2 => ?_) (fun h2 => by omega)
      refine ex_aload_n (i := 0) dX10_work_9 rfl rfl ?_
      refine ex_getR (v := .ref (88)) dX10_work_10 fl_Model_104 rfl rfl (by decide) rfl ?_
      refine ex_iload_n (i := 1) dX10_work_13 rfl rfl ?_
      refine ex_ialdN dX10_work_14 rfl (by decide) (by omega) rfl ?_
      refine ex_asN (a := p) e88 ?_
      refine ex_istore_n (L' := [some (.ref (56)), some (.int (nI (s / 3))), some (.int (nI (s % 3))), some (.int (nI (p))), none, none, none]) dX10_work_15 (i := 3) rfl (by decide) rfl ?_
      refine ex_iload_n (i := 3) dX10_work_16 rfl rfl ?_
      refine ex_if_geN (tgt := 24) dX10_work_17 (by decide) (by omega) ?_
      refine ex_bipush (v := nI 15) dX10_work_24 (by decide) ?_
      refine ex_aload_n (i := 0) dX10_work_26 rfl rfl ?_
      refine ex_getR (v := .ref (87)) dX10_work_27 fl_Model_101 rfl rfl (by decide) rfl ?_
      refine ex_iload_n (i := 3) dX10_work_30 rfl rfl ?_
      refine ex_ialdN dX10_work_31 rfl (by decide) (by omega) rfl ?_
      refine ex_asN (a := rl p) e87 ?_
      refine ex_imulN dX10_work_32 ?_
      refine ex_iload_n (i := 2) dX10_work_33 rfl rfl ?_
      refine ex_iconst (v := nI 2) dX10_work_34 (by decide) ?_
      refine ex_icmp_geN (tgt := 42) dX10_work_35 (by decide) (by omega) (by omega) (fun h35 => ?_) (fun h35 => by omega)
      refine ex_iconst (v := nI 3) dX10_work_42 (by decide) ?_
      refine ex_aload_n (i := 0) dX10_work_43 rfl rfl ?_
      refine ex_getR (v := .ref (89)) dX10_work_44 fl_Model_107 rfl rfl (by decide) rfl ?_
      refine ex_iload_n (i := 1) dX10_work_47 rfl rfl ?_
      refine ex_ialdN dX10_work_48 rfl (by decide) (by omega) rfl ?_
      refine ex_asN (a := k) e89 ?_
      refine ex_imulN dX10_work_49 ?_
      refine ex_iconst (v := nI 2) dX10_work_50 (by decide) ?_
      refine ex_iaddN dX10_work_51 ?_
      refine ex_iaddN dX10_work_52 ?_
      refine ex_asN (a := 15 * rl p + (k * 3 + 2)) (by rw [Nat.mul_comm 3 k]) ?_
      refine ex_istore (L' := [some (.ref (56)), some (.int (nI (s / 3))), some (.int (nI (s % 3))), some (.int (nI (p))), some (.int (nI (15 * rl p + (k * 3 + 2)))), none, none]) dX10_work_53 (by decide) rfl ?_
      refine ex_iconst (v := nI 3) dX10_work_55 (by decide) ?_
      refine ex_iload_n (i := 1) dX10_work_56 rfl rfl ?_
      refine ex_imulN dX10_work_57 ?_
      refine ex_iload_n (i := 2) dX10_work_58 rfl rfl ?_
      refine ex_iaddN dX10_work_59 ?_
      refine ex_asN (a := s) (by rw [eS]) ?_
      refine ex_istore (L' := [some (.ref (56)), some (.int (nI (s / 3))), some (.int (nI (s % 3))), some (.int (nI (p))), some (.int (nI (15 * rl p + (k * 3 + 2)))), some (.int (nI (s))), none]) dX10_work_60 (by decide) rfl ?_
      exact X
  · obtain ⟨x1, x2, x3⟩ := w1 hb
    have hcx : sCx pa s = some (s / 3, s % 3) := by unfold sCx; rw [if_neg a2]
    have e87 : i1 87 (s / 3) = nI (rl (s / 3)) := by rw [hI.1.1 87 (by decide) (by decide)]; exact x1
    have X := lp_Model_work (j := s / 3) (a := s % 3) (g := g) (q := q) (t := t) (Q := Q) rg re ev hw sol hI hs hb hk0 hj hb (by omega) hcx hQ1 hQ0
    refine ex_iload_n (i := 2) dX10_work_0 rfl rfl ?_
    refine ex_iconst (v := nI 2) dX10_work_1 (by decide) ?_
    refine ex_icmp_geN (tgt := 9) dX10_work_2 (by decide) (by omega) (by omega) (fun h2 => by omega) (fun h2 => ?_)
    refine ex_iload_n (i := 1) dX10_work_5 rfl rfl ?_
    refine ex_goto (tgt := 15) dX10_work_6 (by decide) ?_
    refine ex_istore_n (L' := [some (.ref (56)), some (.int (nI (s / 3))), some (.int (nI (s % 3))), some (.int (nI (s / 3))), none, none, none]) dX10_work_15 (i := 3) rfl (by decide) rfl ?_
    refine ex_iload_n (i := 3) dX10_work_16 rfl rfl ?_
    refine ex_if_geN (tgt := 24) dX10_work_17 (by decide) (by omega) ?_
    refine ex_bipush (v := nI 15) dX10_work_24 (by decide) ?_
    refine ex_aload_n (i := 0) dX10_work_26 rfl rfl ?_
    refine ex_getR (v := .ref (87)) dX10_work_27 fl_Model_101 rfl rfl (by decide) rfl ?_
    refine ex_iload_n (i := 3) dX10_work_30 rfl rfl ?_
    refine ex_ialdN dX10_work_31 rfl (by decide) (by omega) rfl ?_
    refine ex_asN (a := rl (s / 3)) e87 ?_
    refine ex_imulN dX10_work_32 ?_
    refine ex_iload_n (i := 2) dX10_work_33 rfl rfl ?_
    refine ex_iconst (v := nI 2) dX10_work_34 (by decide) ?_
    refine ex_icmp_geN (tgt := 42) dX10_work_35 (by decide) (by omega) (by omega) (fun h35 => by omega) (fun h35 => ?_)
    refine ex_iload_n (i := 2) dX10_work_38 rfl rfl ?_
    refine ex_goto (tgt := 52) dX10_work_39 (by decide) ?_
    refine ex_iaddN dX10_work_52 ?_
    refine ex_istore (L' := [some (.ref (56)), some (.int (nI (s / 3))), some (.int (nI (s % 3))), some (.int (nI (s / 3))), some (.int (nI ((15 * (rl (s / 3))) + (s % 3)))), none, none]) dX10_work_53 (by decide) rfl ?_
    refine ex_iconst (v := nI 3) dX10_work_55 (by decide) ?_
    refine ex_iload_n (i := 1) dX10_work_56 rfl rfl ?_
    refine ex_imulN dX10_work_57 ?_
    refine ex_iload_n (i := 2) dX10_work_58 rfl rfl ?_
    refine ex_iaddN dX10_work_59 ?_
    refine ex_asN (a := s) (by rw [eS]) ?_
    refine ex_istore (L' := [some (.ref (56)), some (.int (nI (s / 3))), some (.int (nI (s % 3))), some (.int (nI (s / 3))), some (.int (nI ((15 * (rl (s / 3))) + (s % 3)))), some (.int (nI (s))), none]) dX10_work_60 (by decide) rfl ?_
    exact X
/-- from no more change to all known -/
theorem all_kn {kn rk : Nat → Nat} (hw : mtW sy md tb rl pa ch n i) (ev : EV n sy op xp yp) (ac : AC md tb rl pa ch op xp yp rk) (hk : ∀ s, s < 3 * md → kn s < 2 ∧ (tb (s / 3) = true → kn s = 1)) (h : ∀ s, s < 3 * md → kn s = 0 → ¬ rdy op xp yp rl pa ch kn s) (hlt : ∀ s, s < 3 * md → tb (s / 3) = false → (2 ≤ opS op rl (sCx pa s) → arS xp rl ch (sCx pa s) < 3 * md) ∧ (3 ≤ opS op rl (sCx pa s) → arS yp rl ch (sCx pa s) < 3 * md)) : ∀ m s, rk s < m → s < 3 * md → kn s = 1
  | 0, s, hm, _ => by omega
  | m + 1, s, hm, hs => by
    obtain ⟨k2, kt⟩ := hk s hs
    cases hb : tb (s / 3) with
    | true => exact kt hb
    | false =>
      have hr : rdy op xp yp rl pa ch kn s := by
        obtain ⟨a1, a2⟩ := ac.2 s hs hb
        obtain ⟨l1, l2⟩ := hlt s hs hb
        exact ⟨fun z => all_kn hw ev ac hk h hlt m _ (by have := a1 z; omega) (l1 z), fun z => all_kn hw ev ac hk h hlt m _ (by have := a2 z; omega) (l2 z)⟩
      by_cases z : kn s = 0
      · exact absurd hr (h s hs z)
      · omega
end S78
