/-! ===== the law: the loop, and all of it ===== -/
theorem lkE {β : Type} {c : Nat} : ∀ {l : List ((Nat × Nat) × β)}, (l.all fun p => decide (p.1.1 ≠ c)) = true → ∀ k, l.lookup (c, k) = none
  | [], _, _ => rfl
  | ((b, j), v) :: l, h, k => by
    rw [List.all_cons, Bool.and_eq_true] at h
    have h1 : b ≠ c := of_decide_eq_true h.1
    rw [lk_cons, if_neg (fun z => h1 z.1.symm)]
    exact lkE h.2 k
theorem iM0 {xs : Nat → Int32} {L c : Nat} (h : (IMl.all fun p => decide (p.1.1 ≠ c)) = true) (hc : c < 94) (j : Nat) : iB (i0L xs L) IMl c j = nI 0 := by
  unfold iB
  rw [lkE h j]
  show i0L xs L c j = nI 0
  unfold i0L
  rw [if_neg (by omega), if_neg (by omega)]; rfl
theorem IV_0 {xs : Nat → Int32} {L : Nat} {i1 : Nat → Nat → Int32} (h1 : ∀ c, c ≠ 62 → i1 c = iB (i0L xs L) IMl c) (h2 : ∀ j, j < 210 → i1 62 j = -1) : IV xs L i1 q0L false := by
  have z : ∀ c, c ≠ 62 → (IMl.all fun p => decide (p.1.1 ≠ c)) = true → c < 94 → ∀ j, i1 c j = nI 0 := fun c h h3 h4 j => by rw [h1 c h]; exact iM0 h3 h4 j
  refine ⟨0, fun _ _ => 0, fun _ => 0, fun _ => 0, fun _ => 0, fun _ => 0, fun _ => 0, fun _ => 0, 0, 0, 0, ⟨⟨by rw [h1 1 (by decide)]; rfl, fun r k _ _ => z 3 (by decide) rfl (by decide) _, GW_z⟩, ⟨by rw [h1 56 (by decide)]; rfl, fun r h => absurd h (Nat.not_lt_zero r), fun r k h => absurd h (Nat.not_lt_zero r), fun r h => absurd h (Nat.not_lt_zero r), GW_z⟩, fun j _ => z 9 (by decide) rfl (by decide) j, isF_z⟩, ⟨⟨fun j _ => z 5 (by decide) rfl (by decide) j, fun j _ => z 60 (by decide) rfl (by decide) j, fun _ => Nat.zero_le _⟩, fun j _ => z 7 (by decide) rfl (by decide) j, fun j _ => z 61 (by decide) rfl (by decide) j, fun _ => Nat.zero_le _⟩, ?_, ⟨⟨by rw [h1 0 (by decide)]; rfl, by rw [h1 56 (by decide)]; rfl, by decide⟩, fun z => absurd z (by decide)⟩, ⟨by rw [h1 32 (by decide)]; rfl, by rw [h1 56 (by decide)]; rfl, by decide, fun _ => 0, fun j hj => absurd hj (Nat.not_lt_zero j)⟩, ⟨by decide, by rw [h1 56 (by decide)]; rfl, by show i1 46 2 = _; rw [h1 46 (by decide)]; rfl, fun j k hj => absurd hj (Nat.not_lt_zero j), fun s hs => absurd hs (Nat.not_lt_zero s)⟩, ?_⟩
  · exact ⟨⟨fun j _ => z 11 (by decide) rfl (by decide) j, fun j _ => z 13 (by decide) rfl (by decide) j, fun j _ => z 15 (by decide) rfl (by decide) j, fun _ => Nat.zero_le _, fun j h => absurd (show 2 ≤ 0 from h) (by decide), fun j h => absurd (show 3 ≤ 0 from h) (by decide)⟩, fun j hj => ⟨by rw [if_pos rfl]; exact h2 j hj, Nat.zero_le _, fun h => absurd (show (0 : Nat) = 1 from h) (by decide), fun h => absurd (show 2 ≤ 0 from h) (by decide), fun h => absurd (show 3 ≤ 0 from h) (by decide)⟩, fun r p h => absurd h (Nat.not_lt_zero r), fun _ _ _ _ _ => ⟨rfl, rfl⟩, fun _ _ => rfl, by rw [h1 1 (by decide), ceF_z]; rfl⟩
  · refine ⟨?_, ⟨⟨fun _ => 0, fun j _ => z 22 (by decide) rfl (by decide) j, fun _ _ => by show 0 < 256; decide⟩, fun s _ => z 24 (by decide) rfl (by decide) _⟩, by rw [h1 0 (by decide), h1 56 (by decide)]; rfl, by rw [h1 4096 (by decide)]; exact hiM (by decide), ?_⟩
    · unfold SC
      rw [h1 2 (by decide), h1 10 (by decide), h1 12 (by decide), h1 14 (by decide), h1 21 (by decide), h1 23 (by decide), h1 25 (by decide), h1 47 (by decide), h1 52 (by decide)]
      exact ⟨⟨rfl, rfl⟩, ⟨rfl, rfl⟩, ⟨rfl, rfl⟩, ⟨rfl, rfl⟩, ⟨rfl, rfl⟩, ⟨rfl, rfl⟩, ⟨rfl, rfl⟩, ⟨rfl, rfl⟩, rfl, rfl⟩
    · rw [h1 4097 (by decide), hiM (by decide)]; rfl
theorem gtm {L m : Nat} (hL : L ≤ 3072) (hm : m ≤ 3072) : nI L - nI 6 < nI m ↔ ¬ m + 6 ≤ L := by
  by_cases h6 : 6 ≤ L
  · have e : nI L - nI 6 = nI (L - 6) := by rw [show nI L = nI (L - 6) + nI 6 by rw [nI_add, show L - 6 + 6 = L by omega], Int32.add_sub_cancel]
    rw [e, Int32.lt_iff_toInt_lt, nI_toInt (by omega), nI_toInt (by omega)]
    omega
  · have e : ∀ L : Fin 6, (nI L.val - nI 6).toInt < 0 := by decide
    have := e ⟨L, by omega⟩
    rw [Int32.lt_iff_toInt_lt, nI_toInt (show m < 2 ^ 31 by omega)]
    exact ⟨fun _ => by omega, fun _ => by have h9 : (nI L - nI 6).toInt < 0 := this; omega⟩
theorem and15 (x : Int32) : ∃ v, v < 16 ∧ x &&& nI 15 = nI v := by
  obtain ⟨a, rfl⟩ := nI_any x
  exact ⟨a &&& 15, Nat.lt_of_le_of_lt Nat.and_le_right (by decide), nI_and⟩
theorem nI_p6 {m : Nat} : nI m + Int32.ofInt 6 = nI (m + 6) := by
  have e : Int32.ofInt 6 = nI 6 := by decide
  rw [e, nI_add]
theorem law_loop {xs : Nat → Int32} {L : Nat} (hL3 : L ≤ 3072) : ∀ d m g i q t, m + 6 * d = 3072 → IV xs L i q t → Wx m_Law_law 23 [some (.ref 4096), some (.ref 0), some (.ref 56), some (.ref 93), some (.int (nI m)), none, none, none] [] (94, g, i, q, RT t) (d, 6 * d) (fun r _ => r = .ok (some (.int 1))) := by
  intro d
  induction d with
  | zero =>
    intro m g i q t hmd hIV
    have hm : ¬ m + 6 ≤ L := by omega
    obtain ⟨n, sy, f, lv, kd, op, xp, yp, b, nt, md, iG, iL, iE, iB9, iT, iP, iM⟩ := id hIV
    have h96 := iM.2.2.2.1
    have h97 := iM.2.2.2.2
    refine ex_iload dL_law_23 rfl ?_
    refine ex_aload_n (i := 0) dL_law_25 rfl rfl ?_
    refine ex_slenN rfl dL_law_26 h97 hL3 ?_
    refine ex_bipush (v := nI 6) dL_law_27 (by decide) ?_
    refine ex_isub dL_law_29 ?_
    refine ex_icmp_gt (tgt := 1043) dL_law_30 (by decide) (fun h30 => ?_) (fun h30 => by first | exact absurd ((gtm hL3 (by omega)).mpr hm) h30 | exact h30 ((gtm hL3 (by omega)).mpr hm))
    refine ex_iconst (v := nI 1) dL_law_1043 (by decide) ?_
    refine ex_K0 ?_
    refine ex_iret dL_law_1044 rfl (by decide) ?_
    rfl
  | succ d ih =>
    intro m g i q t hmd hIV
    obtain ⟨n, sy, f, lv, kd, op, xp, yp, b, nt, md, iG, iL, iE, iB9, iT, iP, iM⟩ := id hIV
    have h96 := iM.2.2.2.1
    have h97 := iM.2.2.2.2
    by_cases hm : m + 6 ≤ L
    · have NEXT : ∀ g' i' q' t', IV xs L i' q' t' → Wx m_Law_law 1037 [some (.ref 4096), some (.ref 0), some (.ref 56), some (.ref 93), some (.int (nI m)), none, none, none] [] (94, g', i', q', RT t') (d, 6 * d) (fun r _ => r = .ok (some (.int 1))) := by
        intro g' i' q' t' h
        have X := ih (m + 6) g' i' q' t' (by omega) h
        rw [← nI_p6] at X
        obtain ⟨v1, hv1⟩ : ∃ y : Int32, y = nI (m) + Int32.ofInt (6) := ⟨_, rfl⟩
        refine ex_iinc (v := v1) (L' := [some (.ref (4096)), some (.ref (0)), some (.ref (56)), some (.ref (93)), some (.int (v1)), none, none, none]) dL_law_1037 rfl hv1.symm (by decide) rfl ?_
        refine ex_goto (tgt := 23) dL_law_1040 (by decide) ?_
        subst hv1
        exact X
      obtain ⟨v, hv16, hv⟩ := and15 (xs m)
      rcases (show v = 0 ∨ v = 1 ∨ v = 2 ∨ v = 3 ∨ v = 4 ∨ v = 5 ∨ v = 6 ∨ v = 7 ∨ v = 8 ∨ v = 9 ∨ v = 10 ∨ v = 11 ∨ v = 12 ∨ v = 13 ∨ v = 14 ∨ v = 15 by omega) with rfl | rfl | rfl | rfl | rfl | rfl | rfl | rfl | rfl | rfl | rfl | rfl | rfl | rfl | rfl | rfl
      · refine ex_iload dL_law_23 rfl ?_
        refine ex_aload_n (i := 0) dL_law_25 rfl rfl ?_
        refine ex_slenN rfl dL_law_26 h97 hL3 ?_
        refine ex_bipush (v := nI 6) dL_law_27 (by decide) ?_
        refine ex_isub dL_law_29 ?_
        refine ex_icmp_gt (tgt := 1043) dL_law_30 (by decide) (fun h30 => by first | exact absurd hm ((gtm hL3 (by omega)).mp h30) | exact (gtm hL3 (by omega)).mp h30 hm) (fun h30 => ?_)
        refine ex_aload_n (i := 0) dL_law_33 rfl rfl ?_
        refine ex_iload dL_law_34 rfl ?_
        refine ex_sldN rfl dL_law_36 h97 hL3 (by omega) (congrFun h96 _) ?_
        refine ex_bipush (v := nI 15) dL_law_37 (by decide) ?_
        refine ex_iand dL_law_39 ?_
        refine ex_asN (a := 0) hv ?_
        refine ex_tableIn (off := 76) (tgt := 116) dL_law_40 (by decide) (by decide) (by decide) (by decide) ?_
        exact op_rule (K := (d, 6 * d)) hIV hL3 hm NEXT
      · refine ex_iload dL_law_23 rfl ?_
        refine ex_aload_n (i := 0) dL_law_25 rfl rfl ?_
        refine ex_slenN rfl dL_law_26 h97 hL3 ?_
        refine ex_bipush (v := nI 6) dL_law_27 (by decide) ?_
        refine ex_isub dL_law_29 ?_
        refine ex_icmp_gt (tgt := 1043) dL_law_30 (by decide) (fun h30 => by first | exact absurd hm ((gtm hL3 (by omega)).mp h30) | exact (gtm hL3 (by omega)).mp h30 hm) (fun h30 => ?_)
        refine ex_aload_n (i := 0) dL_law_33 rfl rfl ?_
        refine ex_iload dL_law_34 rfl ?_
        refine ex_sldN rfl dL_law_36 h97 hL3 (by omega) (congrFun h96 _) ?_
        refine ex_bipush (v := nI 15) dL_law_37 (by decide) ?_
        refine ex_iand dL_law_39 ?_
        refine ex_asN (a := 1) hv ?_
        refine ex_tableIn (off := 180) (tgt := 220) dL_law_40 (by decide) (by decide) (by decide) (by decide) ?_
        exact op_level (K := (d, 6 * d)) hIV hL3 hm NEXT
      · refine ex_iload dL_law_23 rfl ?_
        refine ex_aload_n (i := 0) dL_law_25 rfl rfl ?_
        refine ex_slenN rfl dL_law_26 h97 hL3 ?_
        refine ex_bipush (v := nI 6) dL_law_27 (by decide) ?_
        refine ex_isub dL_law_29 ?_
        refine ex_icmp_gt (tgt := 1043) dL_law_30 (by decide) (fun h30 => by first | exact absurd hm ((gtm hL3 (by omega)).mp h30) | exact (gtm hL3 (by omega)).mp h30 hm) (fun h30 => ?_)
        refine ex_aload_n (i := 0) dL_law_33 rfl rfl ?_
        refine ex_iload dL_law_34 rfl ?_
        refine ex_sldN rfl dL_law_36 h97 hL3 (by omega) (congrFun h96 _) ?_
        refine ex_bipush (v := nI 15) dL_law_37 (by decide) ?_
        refine ex_iand dL_law_39 ?_
        refine ex_asN (a := 2) hv ?_
        refine ex_tableIn (off := 260) (tgt := 300) dL_law_40 (by decide) (by decide) (by decide) (by decide) ?_
        exact op_equation (K := (d, 6 * d)) hIV hL3 hm NEXT
      · refine ex_iload dL_law_23 rfl ?_
        refine ex_aload_n (i := 0) dL_law_25 rfl rfl ?_
        refine ex_slenN rfl dL_law_26 h97 hL3 ?_
        refine ex_bipush (v := nI 6) dL_law_27 (by decide) ?_
        refine ex_isub dL_law_29 ?_
        refine ex_icmp_gt (tgt := 1043) dL_law_30 (by decide) (fun h30 => by first | exact absurd hm ((gtm hL3 (by omega)).mp h30) | exact (gtm hL3 (by omega)).mp h30 hm) (fun h30 => ?_)
        refine ex_aload_n (i := 0) dL_law_33 rfl rfl ?_
        refine ex_iload dL_law_34 rfl ?_
        refine ex_sldN rfl dL_law_36 h97 hL3 (by omega) (congrFun h96 _) ?_
        refine ex_bipush (v := nI 15) dL_law_37 (by decide) ?_
        refine ex_iand dL_law_39 ?_
        refine ex_asN (a := 3) hv ?_
        refine ex_tableIn (off := 364) (tgt := 404) dL_law_40 (by decide) (by decide) (by decide) (by decide) ?_
        exact op_build (K := (d, 6 * d)) hIV hL3 hm NEXT
      · refine ex_iload dL_law_23 rfl ?_
        refine ex_aload_n (i := 0) dL_law_25 rfl rfl ?_
        refine ex_slenN rfl dL_law_26 h97 hL3 ?_
        refine ex_bipush (v := nI 6) dL_law_27 (by decide) ?_
        refine ex_isub dL_law_29 ?_
        refine ex_icmp_gt (tgt := 1043) dL_law_30 (by decide) (fun h30 => by first | exact absurd hm ((gtm hL3 (by omega)).mp h30) | exact (gtm hL3 (by omega)).mp h30 hm) (fun h30 => ?_)
        refine ex_aload_n (i := 0) dL_law_33 rfl rfl ?_
        refine ex_iload dL_law_34 rfl ?_
        refine ex_sldN rfl dL_law_36 h97 hL3 (by omega) (congrFun h96 _) ?_
        refine ex_bipush (v := nI 15) dL_law_37 (by decide) ?_
        refine ex_iand dL_law_39 ?_
        refine ex_asN (a := 4) hv ?_
        refine ex_tableIn (off := 408) (tgt := 448) dL_law_40 (by decide) (by decide) (by decide) (by decide) ?_
        exact op_first (K := (d, 6 * d)) hIV hL3 hm NEXT
      · refine ex_iload dL_law_23 rfl ?_
        refine ex_aload_n (i := 0) dL_law_25 rfl rfl ?_
        refine ex_slenN rfl dL_law_26 h97 hL3 ?_
        refine ex_bipush (v := nI 6) dL_law_27 (by decide) ?_
        refine ex_isub dL_law_29 ?_
        refine ex_icmp_gt (tgt := 1043) dL_law_30 (by decide) (fun h30 => by first | exact absurd hm ((gtm hL3 (by omega)).mp h30) | exact (gtm hL3 (by omega)).mp h30 hm) (fun h30 => ?_)
        refine ex_aload_n (i := 0) dL_law_33 rfl rfl ?_
        refine ex_iload dL_law_34 rfl ?_
        refine ex_sldN rfl dL_law_36 h97 hL3 (by omega) (congrFun h96 _) ?_
        refine ex_bipush (v := nI 15) dL_law_37 (by decide) ?_
        refine ex_iand dL_law_39 ?_
        refine ex_asN (a := 5) hv ?_
        refine ex_tableIn (off := 464) (tgt := 504) dL_law_40 (by decide) (by decide) (by decide) (by decide) ?_
        exact op_action (K := (d, 6 * d)) hIV hL3 hm NEXT
      · refine ex_iload dL_law_23 rfl ?_
        refine ex_aload_n (i := 0) dL_law_25 rfl rfl ?_
        refine ex_slenN rfl dL_law_26 h97 hL3 ?_
        refine ex_bipush (v := nI 6) dL_law_27 (by decide) ?_
        refine ex_isub dL_law_29 ?_
        refine ex_icmp_gt (tgt := 1043) dL_law_30 (by decide) (fun h30 => by first | exact absurd hm ((gtm hL3 (by omega)).mp h30) | exact (gtm hL3 (by omega)).mp h30 hm) (fun h30 => ?_)
        refine ex_aload_n (i := 0) dL_law_33 rfl rfl ?_
        refine ex_iload dL_law_34 rfl ?_
        refine ex_sldN rfl dL_law_36 h97 hL3 (by omega) (congrFun h96 _) ?_
        refine ex_bipush (v := nI 15) dL_law_37 (by decide) ?_
        refine ex_iand dL_law_39 ?_
        refine ex_asN (a := 6) hv ?_
        refine ex_tableIn (off := 532) (tgt := 572) dL_law_40 (by decide) (by decide) (by decide) (by decide) ?_
        exact op_go (K := (d, 6 * d)) hIV hL3 hm NEXT
      · refine ex_iload dL_law_23 rfl ?_
        refine ex_aload_n (i := 0) dL_law_25 rfl rfl ?_
        refine ex_slenN rfl dL_law_26 h97 hL3 ?_
        refine ex_bipush (v := nI 6) dL_law_27 (by decide) ?_
        refine ex_isub dL_law_29 ?_
        refine ex_icmp_gt (tgt := 1043) dL_law_30 (by decide) (fun h30 => by first | exact absurd hm ((gtm hL3 (by omega)).mp h30) | exact (gtm hL3 (by omega)).mp h30 hm) (fun h30 => ?_)
        refine ex_aload_n (i := 0) dL_law_33 rfl rfl ?_
        refine ex_iload dL_law_34 rfl ?_
        refine ex_sldN rfl dL_law_36 h97 hL3 (by omega) (congrFun h96 _) ?_
        refine ex_bipush (v := nI 15) dL_law_37 (by decide) ?_
        refine ex_iand dL_law_39 ?_
        refine ex_asN (a := 7) hv ?_
        refine ex_tableIn (off := 600) (tgt := 640) dL_law_40 (by decide) (by decide) (by decide) (by decide) ?_
        exact op_lookaheads (K := (d, 6 * d)) hIV hL3 hm NEXT
      · refine ex_iload dL_law_23 rfl ?_
        refine ex_aload_n (i := 0) dL_law_25 rfl rfl ?_
        refine ex_slenN rfl dL_law_26 h97 hL3 ?_
        refine ex_bipush (v := nI 6) dL_law_27 (by decide) ?_
        refine ex_isub dL_law_29 ?_
        refine ex_icmp_gt (tgt := 1043) dL_law_30 (by decide) (fun h30 => by first | exact absurd hm ((gtm hL3 (by omega)).mp h30) | exact (gtm hL3 (by omega)).mp h30 hm) (fun h30 => ?_)
        refine ex_aload_n (i := 0) dL_law_33 rfl rfl ?_
        refine ex_iload dL_law_34 rfl ?_
        refine ex_sldN rfl dL_law_36 h97 hL3 (by omega) (congrFun h96 _) ?_
        refine ex_bipush (v := nI 15) dL_law_37 (by decide) ?_
        refine ex_iand dL_law_39 ?_
        refine ex_asN (a := 8) hv ?_
        refine ex_tableIn (off := 668) (tgt := 708) dL_law_40 (by decide) (by decide) (by decide) (by decide) ?_
        exact op_token (K := (d, 6 * d)) hIV hL3 hm NEXT
      · refine ex_iload dL_law_23 rfl ?_
        refine ex_aload_n (i := 0) dL_law_25 rfl rfl ?_
        refine ex_slenN rfl dL_law_26 h97 hL3 ?_
        refine ex_bipush (v := nI 6) dL_law_27 (by decide) ?_
        refine ex_isub dL_law_29 ?_
        refine ex_icmp_gt (tgt := 1043) dL_law_30 (by decide) (fun h30 => by first | exact absurd hm ((gtm hL3 (by omega)).mp h30) | exact (gtm hL3 (by omega)).mp h30 hm) (fun h30 => ?_)
        refine ex_aload_n (i := 0) dL_law_33 rfl rfl ?_
        refine ex_iload dL_law_34 rfl ?_
        refine ex_sldN rfl dL_law_36 h97 hL3 (by omega) (congrFun h96 _) ?_
        refine ex_bipush (v := nI 15) dL_law_37 (by decide) ?_
        refine ex_iand dL_law_39 ?_
        refine ex_asN (a := 9) hv ?_
        refine ex_tableIn (off := 736) (tgt := 776) dL_law_40 (by decide) (by decide) (by decide) (by decide) ?_
        exact op_parse (K := (d, 6 * d)) hIV hL3 hm NEXT
      · refine ex_iload dL_law_23 rfl ?_
        refine ex_aload_n (i := 0) dL_law_25 rfl rfl ?_
        refine ex_slenN rfl dL_law_26 h97 hL3 ?_
        refine ex_bipush (v := nI 6) dL_law_27 (by decide) ?_
        refine ex_isub dL_law_29 ?_
        refine ex_icmp_gt (tgt := 1043) dL_law_30 (by decide) (fun h30 => by first | exact absurd hm ((gtm hL3 (by omega)).mp h30) | exact (gtm hL3 (by omega)).mp h30 hm) (fun h30 => ?_)
        refine ex_aload_n (i := 0) dL_law_33 rfl rfl ?_
        refine ex_iload dL_law_34 rfl ?_
        refine ex_sldN rfl dL_law_36 h97 hL3 (by omega) (congrFun h96 _) ?_
        refine ex_bipush (v := nI 15) dL_law_37 (by decide) ?_
        refine ex_iand dL_law_39 ?_
        refine ex_asN (a := 10) hv ?_
        refine ex_tableIn (off := 780) (tgt := 820) dL_law_40 (by decide) (by decide) (by decide) (by decide) ?_
        exact ex_Kw (K := (d, 6 * d)) ⟨Nat.le_succ _, by show 6 * d ≤ 6 * (d + 1); omega⟩ (op_fault hIV hL3 hm NEXT)
      · refine ex_iload dL_law_23 rfl ?_
        refine ex_aload_n (i := 0) dL_law_25 rfl rfl ?_
        refine ex_slenN rfl dL_law_26 h97 hL3 ?_
        refine ex_bipush (v := nI 6) dL_law_27 (by decide) ?_
        refine ex_isub dL_law_29 ?_
        refine ex_icmp_gt (tgt := 1043) dL_law_30 (by decide) (fun h30 => by first | exact absurd hm ((gtm hL3 (by omega)).mp h30) | exact (gtm hL3 (by omega)).mp h30 hm) (fun h30 => ?_)
        refine ex_aload_n (i := 0) dL_law_33 rfl rfl ?_
        refine ex_iload dL_law_34 rfl ?_
        refine ex_sldN rfl dL_law_36 h97 hL3 (by omega) (congrFun h96 _) ?_
        refine ex_bipush (v := nI 15) dL_law_37 (by decide) ?_
        refine ex_iand dL_law_39 ?_
        refine ex_asN (a := 11) hv ?_
        refine ex_tableIn (off := 793) (tgt := 833) dL_law_40 (by decide) (by decide) (by decide) (by decide) ?_
        exact op_node (K := (d, 6 * d)) hIV hL3 hm NEXT
      · refine ex_iload dL_law_23 rfl ?_
        refine ex_aload_n (i := 0) dL_law_25 rfl rfl ?_
        refine ex_slenN rfl dL_law_26 h97 hL3 ?_
        refine ex_bipush (v := nI 6) dL_law_27 (by decide) ?_
        refine ex_isub dL_law_29 ?_
        refine ex_icmp_gt (tgt := 1043) dL_law_30 (by decide) (fun h30 => by first | exact absurd hm ((gtm hL3 (by omega)).mp h30) | exact (gtm hL3 (by omega)).mp h30 hm) (fun h30 => ?_)
        refine ex_aload_n (i := 0) dL_law_33 rfl rfl ?_
        refine ex_iload dL_law_34 rfl ?_
        refine ex_sldN rfl dL_law_36 h97 hL3 (by omega) (congrFun h96 _) ?_
        refine ex_bipush (v := nI 15) dL_law_37 (by decide) ?_
        refine ex_iand dL_law_39 ?_
        refine ex_asN (a := 12) hv ?_
        refine ex_tableIn (off := 861) (tgt := 901) dL_law_40 (by decide) (by decide) (by decide) (by decide) ?_
        exact op_attribute (K := (d, 6 * d)) hIV hL3 hm NEXT
      · refine ex_iload dL_law_23 rfl ?_
        refine ex_aload_n (i := 0) dL_law_25 rfl rfl ?_
        refine ex_slenN rfl dL_law_26 h97 hL3 ?_
        refine ex_bipush (v := nI 6) dL_law_27 (by decide) ?_
        refine ex_isub dL_law_29 ?_
        refine ex_icmp_gt (tgt := 1043) dL_law_30 (by decide) (fun h30 => by first | exact absurd hm ((gtm hL3 (by omega)).mp h30) | exact (gtm hL3 (by omega)).mp h30 hm) (fun h30 => ?_)
        refine ex_aload_n (i := 0) dL_law_33 rfl rfl ?_
        refine ex_iload dL_law_34 rfl ?_
        refine ex_sldN rfl dL_law_36 h97 hL3 (by omega) (congrFun h96 _) ?_
        refine ex_bipush (v := nI 15) dL_law_37 (by decide) ?_
        refine ex_iand dL_law_39 ?_
        refine ex_asN (a := 13) hv ?_
        refine ex_tableIn (off := 928) (tgt := 968) dL_law_40 (by decide) (by decide) (by decide) (by decide) ?_
        exact ex_Kw (K := (d, 6 * d)) ⟨Nat.le_succ _, by show 6 * d ≤ 6 * (d + 1); omega⟩ (op_clear hIV hL3 hm NEXT)
      · refine ex_iload dL_law_23 rfl ?_
        refine ex_aload_n (i := 0) dL_law_25 rfl rfl ?_
        refine ex_slenN rfl dL_law_26 h97 hL3 ?_
        refine ex_bipush (v := nI 6) dL_law_27 (by decide) ?_
        refine ex_isub dL_law_29 ?_
        refine ex_icmp_gt (tgt := 1043) dL_law_30 (by decide) (fun h30 => by first | exact absurd hm ((gtm hL3 (by omega)).mp h30) | exact (gtm hL3 (by omega)).mp h30 hm) (fun h30 => ?_)
        refine ex_aload_n (i := 0) dL_law_33 rfl rfl ?_
        refine ex_iload dL_law_34 rfl ?_
        refine ex_sldN rfl dL_law_36 h97 hL3 (by omega) (congrFun h96 _) ?_
        refine ex_bipush (v := nI 15) dL_law_37 (by decide) ?_
        refine ex_iand dL_law_39 ?_
        refine ex_asN (a := 14) hv ?_
        refine ex_tableIn (off := 941) (tgt := 981) dL_law_40 (by decide) (by decide) (by decide) (by decide) ?_
        exact op_count (K := (d, 6 * d)) hIV hL3 hm NEXT
      · refine ex_iload dL_law_23 rfl ?_
        refine ex_aload_n (i := 0) dL_law_25 rfl rfl ?_
        refine ex_slenN rfl dL_law_26 h97 hL3 ?_
        refine ex_bipush (v := nI 6) dL_law_27 (by decide) ?_
        refine ex_isub dL_law_29 ?_
        refine ex_icmp_gt (tgt := 1043) dL_law_30 (by decide) (fun h30 => by first | exact absurd hm ((gtm hL3 (by omega)).mp h30) | exact (gtm hL3 (by omega)).mp h30 hm) (fun h30 => ?_)
        refine ex_aload_n (i := 0) dL_law_33 rfl rfl ?_
        refine ex_iload dL_law_34 rfl ?_
        refine ex_sldN rfl dL_law_36 h97 hL3 (by omega) (congrFun h96 _) ?_
        refine ex_bipush (v := nI 15) dL_law_37 (by decide) ?_
        refine ex_iand dL_law_39 ?_
        refine ex_asN (a := 15) hv ?_
        refine ex_tableOut (tgt := 1037) dL_law_40 (by decide) (by decide) ?_
        exact ex_Kw (K := (d, 6 * d)) ⟨Nat.le_succ _, by show 6 * d ≤ 6 * (d + 1); omega⟩ (NEXT g i q t hIV)
    · have hm3 : m ≤ 3072 := by omega
      refine ex_iload dL_law_23 rfl ?_
      refine ex_aload_n (i := 0) dL_law_25 rfl rfl ?_
      refine ex_slenN rfl dL_law_26 h97 hL3 ?_
      refine ex_bipush (v := nI 6) dL_law_27 (by decide) ?_
      refine ex_isub dL_law_29 ?_
      refine ex_icmp_gt (tgt := 1043) dL_law_30 (by decide) (fun h30 => ?_) (fun h30 => by first | exact absurd ((gtm hL3 (by omega)).mpr hm) h30 | exact h30 ((gtm hL3 (by omega)).mpr hm))
      refine ex_iconst (v := nI 1) dL_law_1043 (by decide) ?_
      refine ex_K0 ?_
      refine ex_iret dL_law_1044 rfl (by decide) ?_
      rfl
theorem law_all : ∀ (xs : Nat → Int32) (L : Nat), L ≤ 3072 → Wx m_Law_law 0 [some (.ref 4096), none, none, none, none, none, none, none] [] (0, 0, i0L xs L, q0L, r0L) (601024, 7293034) (fun r _ => r = .ok (some (.int 1))) := fun xs L hL3 =>
  lw_begin fun i1 h1 h2 => law_loop hL3 512 0 0 i1 q0L false (by decide) (IV_0 h1 h2)
