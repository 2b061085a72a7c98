/-! ===== the law: its parse, and what it asks of the tree ===== -/
theorem drv_ne {n : Nat} {sy : Nat → Nat → Nat} {f : Nat} {w : List Nat} (h : Drv n sy f [8] w) : 1 ≤ w.length := by
  cases f with
  | zero => exact absurd h.1 (by simp)
  | succ f =>
    rcases h with ⟨_, _, r, hr, he, h⟩ | ⟨z, _⟩
    · obtain ⟨f1, f2, w1, w2, a1, a2, rfl, a4, a5⟩ := drv_split h
      cases f2 with
      | zero => exact absurd a5.1 (by simp)
      | succ f2 =>
        rcases a5 with ⟨z1, z2, _⟩ | ⟨_, w3, rfl, a5⟩
        · omega
        · rw [List.length_append, List.length_cons]; omega
    · omega
theorem enc_tm {e : Nat} (h : 1 ≤ e ∧ e ≤ 6) : -(nI e) < 0 ∧ -(-(nI e)) = nI e := by
  have h2 : ∀ e : Fin 7, 1 ≤ e.val → -(nI e.val) < 0 ∧ -(-(nI e.val)) = nI e.val := by decide +kernel
  exact h2 ⟨e, by omega⟩ h.1
section S96a
variable {ζ g : Nat} {i : Nat → Nat → Int32} {q : Nat → Nat → Int64} {Q : xRes → xMem → Prop}
theorem sp_ln_51 {a j k : Nat} (sc : SC i) (h2 : i 51 2 = nI a) (ha : a ≤ 150) (hj : j < a) (hk : k < 4) (hQ : Q (.ok (some (.int (i 53 (j * 8 + k))))) (56 + ζ, g, i, q, RT true)) : Wx m_Law_node 0 [some (.ref 0), some (.int (nI j)), some (.int (nI k)), none] [] (56 + ζ, g, i, q, RT true) (1, 6) Q :=
  sp_Law_node (sp_Works_node_51 sc h2 ha (fun h => absurd ⟨j, rfl, hj⟩ h) (fun s e1 e2 h => absurd ⟨k, rfl, hk⟩ h) (fun s k' e1 h1 e2 h3 => WQ.ok (by
    have z1 : s = j := ((nI_eq (by omega) (by omega)).mp e1).symm
    have z2 : k' = k := ((nI_eq (by omega) (by omega)).mp e2).symm
    subst z1 z2; exact hQ)))
theorem sp_lnX_51 {a k : Nat} (sc : SC i) (h2 : i 51 2 = nI a) (ha : a ≤ 150) (hQ : Q (.ok (some (.int (-101)))) (56 + ζ, g + 1, i, q, RT true)) : Wx m_Law_node 0 [some (.ref 0), some (.int (nI a)), some (.int (nI k)), none] [] (56 + ζ, g, i, q, RT true) (1, 6) Q :=
  sp_Law_node (sp_Works_node_51 sc h2 ha (fun _ => WQ.er (c := -101) rfl hQ) (fun s e1 e2 h => by
    have z1 : a = s := (nI_eq (by omega) (by omega)).mp e1
    omega) (fun s k' e1 h1 e2 h3 => by
    have z1 : a = s := (nI_eq (by omega) (by omega)).mp e1
    omega))
end S96a
section S96
variable {xs : Nat → Int32} {L n : Nat} {sy : Nat → Nat → Nat}
theorem lw_nodes {w : List Nat} {i : Nat → Nat → Int32} {q : Nat → Nat → Int64} (hn6 : n ≤ 6) (gw : GW n sy) (sc : SC i) (h2 : i 51 2 = nI w.length) (hw : w.length ≤ 61) (hw1 : 1 ≤ w.length) (hA : ∀ r, r < n → i 56 r = nI (sy r 0)) (hM : ∀ (j e : Nat), w[j]? = some e → i 59 j = enc e) (hok : ∀ e ∈ w, okN n e) (hF : FCT sy w (i 53)) (hR : i 53 ((w.length - 1) * 8 + 2) = -1) :
    ∀ d j x12, j + d = w.length → Wx m_Law_law 649 [some (.ref 4096), some (.ref 0), none, some (.int (nI n)), some (.ref 56), some (.ref 57), some (.ref 58), some (.ref 59), none, some (.int (nI w.length)), none, some (.int (nI j)), x12, none, none] [] (60, 0, i, q, RT true) (100 + 2 * d, 600 + 12 * d) Qf := by
  intro d
  induction d with
  | zero =>
    intro j x12 hj
    have ej : j = w.length := by omega
    subst ej
    refine ex_less (L' := [some (.ref 4096), some (.ref 0), none, some (.int (nI n)), some (.ref 56), some (.ref 57), some (.ref 58), some (.ref 59), none, some (.int (nI w.length)), none, some (.int (nI w.length)), none, none, none]) ⟨rfl, rfl, rfl, rfl, rfl, rfl, rfl, rfl, rfl, trivial⟩ ?_
    refine ex_iload dL_law_649 rfl ?_
    refine ex_iload dL_law_651 rfl ?_
    refine ex_icmp_geN (tgt := 735) dL_law_653 (by decide) (by omega) (by omega) (fun h653 => ?_) (fun h653 => by omega)
    refine ex_aload_n (i := 1) dL_law_735 rfl rfl ?_
    refine ex_iload dL_law_736 rfl ?_
    refine ex_iconst (v := nI 1) dL_law_738 (by decide) ?_
    refine ex_isubN dL_law_739 (by omega) ?_
    refine ex_iconst (v := nI 2) dL_law_740 (by decide) ?_
    refine ex_cHL (ν := m_Law_node) (as := [.ref (0), .int (nI (w.length - 1)), .int (nI (2))]) (kc := 50) (sc := 300) (by decide) (by decide) dL_law_741 lnH_node mfH_node np_Law_node rfl rfl ⟨(Nat.le_of_ble_eq_true rfl), (Nat.le_of_ble_eq_true rfl), (Nat.le_of_ble_eq_true rfl), (Nat.le_of_ble_eq_true rfl)⟩ ?_
    refine sp_ln_51 (ζ := 4) sc h2 (by omega) (by omega) (by decide) ?_
    refine ⟨_, rfl, ⟨rfl, rfl⟩, ?_⟩
    refine ex_asI (y := -1) hR ?_
    refine ex_iconst (v := -1) dL_law_744 (by decide) ?_
    refine ex_icmp_ne (tgt := 764) dL_law_745 (by decide) (fun h745 => by exact absurd rfl h745) (fun h745 => ?_)
    refine ex_aload_n (i := 1) dL_law_748 rfl rfl ?_
    refine ex_iload dL_law_749 rfl ?_
    refine ex_iconst (v := nI 0) dL_law_751 (by decide) ?_
    refine ex_cHL (ν := m_Law_node) (as := [.ref (0), .int (nI (w.length)), .int (nI (0))]) (kc := 20) (sc := 100) (by decide) (by decide) dL_law_752 lnH_node mfH_node np_Law_node rfl rfl ⟨(Nat.le_of_ble_eq_true rfl), (Nat.le_of_ble_eq_true rfl), (Nat.le_of_ble_eq_true rfl), (Nat.le_of_ble_eq_true rfl)⟩ ?_
    refine sp_lnX_51 (ζ := 4) sc h2 (by omega) ?_
    refine ⟨_, rfl, ⟨rfl, rfl⟩, ?_⟩
    refine ex_bipush (v := -101) dL_law_755 (by decide) ?_
    refine ex_icmp_ne (tgt := 764) dL_law_757 (by decide) (fun h757 => by exact absurd rfl h757) (fun h757 => ?_)
    refine ex_iconst (v := nI 1) dL_law_760 (by decide) ?_
    refine ex_goto (tgt := 765) dL_law_761 (by decide) ?_
    refine ex_K0 ?_
    refine ex_iret dL_law_765 rfl (by decide) ?_
    rfl
  | succ d ih =>
    intro j x12 hj
    refine ex_less (L' := [some (.ref 4096), some (.ref 0), none, some (.int (nI n)), some (.ref 56), some (.ref 57), some (.ref 58), some (.ref 59), none, some (.int (nI w.length)), none, some (.int (nI j)), none, none, none]) ⟨rfl, rfl, rfl, rfl, rfl, rfl, rfl, rfl, rfl, trivial⟩ ?_
    obtain ⟨e, he⟩ : ∃ e, w[j]? = some e := ⟨_, List.getElem?_eq_getElem (show j < w.length by omega)⟩
    have hm := hM j e he
    obtain ⟨hf1, hf2⟩ := hF j e he
    rcases hok e (List.mem_of_getElem? he) with ho | ho
    · have he8 : e < 8 := by omega
      have em : i 59 j = -(nI e) := by rw [hm]; unfold enc; rw [if_pos he8]
      obtain ⟨f0, f1⟩ := hf1 he8
      obtain ⟨n1, n2⟩ := enc_tm ho
      refine ex_iload dL_law_649 rfl ?_
      refine ex_iload dL_law_651 rfl ?_
      refine ex_icmp_geN (tgt := 735) dL_law_653 (by decide) (by omega) (by omega) (fun h653 => by omega) (fun h653 => ?_)
      refine ex_aload dL_law_656 rfl ?_
      refine ex_iload dL_law_658 rfl ?_
      refine ex_ialdN dL_law_660 rfl (by decide) (by omega) rfl ?_
      refine ex_asI (y := -(nI e)) em ?_
      refine ex_if_ge (tgt := 694) dL_law_661 (by decide) (fun h661 => by exact absurd n1 (Int32.not_lt.mpr h661)) (fun h661 => ?_)
      refine ex_aload_n (i := 1) dL_law_664 rfl rfl ?_
      refine ex_iload dL_law_665 rfl ?_
      refine ex_iconst (v := nI 0) dL_law_667 (by decide) ?_
      refine ex_cHL (ν := m_Law_node) (as := [.ref (0), .int (nI (j)), .int (nI (0))]) (kc := 100 + 2 * d + 1) (sc := 600 + 12 * d + 6) (by omega) (by omega) dL_law_668 lnH_node mfH_node np_Law_node rfl rfl ⟨(Nat.le_of_ble_eq_true rfl), (Nat.le_of_ble_eq_true rfl), (Nat.le_of_ble_eq_true rfl), (Nat.le_of_ble_eq_true rfl)⟩ ?_
      refine sp_ln_51 (ζ := 4) sc h2 (by omega) (by omega) (by decide) ?_
      refine ⟨_, rfl, ⟨rfl, rfl⟩, ?_⟩
      refine ex_asN (a := e) f0 ?_
      refine ex_aload dL_law_671 rfl ?_
      refine ex_iload dL_law_673 rfl ?_
      refine ex_ialdN dL_law_675 rfl (by decide) (by omega) rfl ?_
      refine ex_asI (y := -(nI e)) em ?_
      refine ex_ineg dL_law_676 ?_
      refine ex_asN (a := e) n2 ?_
      refine ex_icmp_neN (tgt := 727) dL_law_677 (by decide) (by omega) (by omega) (fun h677 => by exact absurd rfl h677) (fun h677 => ?_)
      refine ex_aload_n (i := 1) dL_law_680 rfl rfl ?_
      refine ex_iload dL_law_681 rfl ?_
      refine ex_iconst (v := nI 1) dL_law_683 (by decide) ?_
      refine ex_cHL (ν := m_Law_node) (as := [.ref (0), .int (nI (j)), .int (nI (1))]) (kc := 100 + 2 * d) (sc := 600 + 12 * d) (by omega) (by omega) dL_law_684 lnH_node mfH_node np_Law_node rfl rfl ⟨(Nat.le_of_ble_eq_true rfl), (Nat.le_of_ble_eq_true rfl), (Nat.le_of_ble_eq_true rfl), (Nat.le_of_ble_eq_true rfl)⟩ ?_
      refine sp_ln_51 (ζ := 4) sc h2 (by omega) (by omega) (by decide) ?_
      refine ⟨_, rfl, ⟨rfl, rfl⟩, ?_⟩
      refine ex_asI (y := -1) f1 ?_
      refine ex_iconst (v := -1) dL_law_687 (by decide) ?_
      refine ex_icmp_eq (tgt := 729) dL_law_688 (by decide) (fun h688 => ?_) (fun h688 => by exact absurd rfl h688)
      refine ex_iincN (L' := [some (.ref (4096)), some (.ref (0)), none, some (.int (nI (n))), some (.ref (56)), some (.ref (57)), some (.ref (58)), some (.ref (59)), none, some (.int (nI (w.length))), none, some (.int (nI (j + 1))), none, none, none]) dL_law_729 rfl rfl (by decide) rfl ?_
      refine ex_goto (tgt := 649) dL_law_732 (by decide) ?_
      exact ih (j + 1) _ (by omega)
    · obtain ⟨r, rfl⟩ : ∃ r, e = 20 + r := ⟨e - 20, by omega⟩
      have em : i 59 j = nI r := by rw [hm]; unfold enc; rw [if_neg (by omega), show 20 + r - 20 = r by omega]
      obtain ⟨f0, f1⟩ := hf2 (by omega)
      rw [show 20 + r - 20 = r by omega] at f0 f1
      have hA1 := hA r (by omega)
      have hs13 := (gw.2.2.1 r (by omega)).2
      refine ex_iload dL_law_649 rfl ?_
      refine ex_iload dL_law_651 rfl ?_
      refine ex_icmp_geN (tgt := 735) dL_law_653 (by decide) (by omega) (by omega) (fun h653 => by omega) (fun h653 => ?_)
      refine ex_aload dL_law_656 rfl ?_
      refine ex_iload dL_law_658 rfl ?_
      refine ex_ialdN dL_law_660 rfl (by decide) (by omega) rfl ?_
      refine ex_asN (a := r) em ?_
      refine ex_if_geN (tgt := 694) dL_law_661 (by decide) (by omega) ?_
      refine ex_aload_n (i := 1) dL_law_694 rfl rfl ?_
      refine ex_iload dL_law_695 rfl ?_
      refine ex_iconst (v := nI 1) dL_law_697 (by decide) ?_
      refine ex_cHL (ν := m_Law_node) (as := [.ref (0), .int (nI (j)), .int (nI (1))]) (kc := 100 + 2 * d + 1) (sc := 600 + 12 * d + 6) (by omega) (by omega) dL_law_698 lnH_node mfH_node np_Law_node rfl rfl ⟨(Nat.le_of_ble_eq_true rfl), (Nat.le_of_ble_eq_true rfl), (Nat.le_of_ble_eq_true rfl), (Nat.le_of_ble_eq_true rfl)⟩ ?_
      refine sp_ln_51 (ζ := 4) sc h2 (by omega) (by omega) (by decide) ?_
      refine ⟨_, rfl, ⟨rfl, rfl⟩, ?_⟩
      refine ex_asN (a := r) f1 ?_
      refine ex_aload dL_law_701 rfl ?_
      refine ex_iload dL_law_703 rfl ?_
      refine ex_ialdN dL_law_705 rfl (by decide) (by omega) rfl ?_
      refine ex_asN (a := r) em ?_
      refine ex_icmp_neN (tgt := 727) dL_law_706 (by decide) (by omega) (by omega) (fun h706 => by exact absurd rfl h706) (fun h706 => ?_)
      refine ex_aload_n (i := 1) dL_law_709 rfl rfl ?_
      refine ex_iload dL_law_710 rfl ?_
      refine ex_iconst (v := nI 0) dL_law_712 (by decide) ?_
      refine ex_cHL (ν := m_Law_node) (as := [.ref (0), .int (nI (j)), .int (nI (0))]) (kc := 100 + 2 * d) (sc := 600 + 12 * d) (by omega) (by omega) dL_law_713 lnH_node mfH_node np_Law_node rfl rfl ⟨(Nat.le_of_ble_eq_true rfl), (Nat.le_of_ble_eq_true rfl), (Nat.le_of_ble_eq_true rfl), (Nat.le_of_ble_eq_true rfl)⟩ ?_
      refine sp_ln_51 (ζ := 4) sc h2 (by omega) (by omega) (by decide) ?_
      refine ⟨_, rfl, ⟨rfl, rfl⟩, ?_⟩
      refine ex_asN (a := sy r 0) f0 ?_
      refine ex_aload dL_law_716 rfl ?_
      refine ex_aload dL_law_718 rfl ?_
      refine ex_iload dL_law_720 rfl ?_
      refine ex_ialdN dL_law_722 rfl (by decide) (by omega) rfl ?_
      refine ex_asN (a := r) em ?_
      refine ex_ialdN dL_law_723 rfl (by decide) (by omega) rfl ?_
      refine ex_asN (a := sy r 0) hA1 ?_
      refine ex_icmp_eqN (tgt := 729) dL_law_724 (by decide) (by omega) (by omega) (fun h724 => ?_) (fun h724 => by exact absurd rfl h724)
      refine ex_iincN (L' := [some (.ref (4096)), some (.ref (0)), none, some (.int (nI (n))), some (.ref (56)), some (.ref (57)), some (.ref (58)), some (.ref (59)), none, some (.int (nI (w.length))), none, some (.int (nI (j + 1))), none, none, none]) dL_law_729 rfl rfl (by decide) rfl ?_
      refine ex_goto (tgt := 649) dL_law_732 (by decide) ?_
      exact ih (j + 1) _ (by omega)
theorem EV_0 : EV n sy (fun _ => 0) (fun _ => 0) (fun _ => 0) := fun _ _ _ _ => ⟨fun h => absurd (show 2 ≤ 0 from h) (by decide), fun h => absurd (show 3 ≤ 0 from h) (by decide), fun h => absurd (show 0 = 2 from h) (by decide)⟩
theorem lw_parse : NXD xs L n sy := by
  intro i q w f hp hn hd hw ht
  obtain ⟨p1, p2, p3, ⟨S, T, pr, F, fi, b1, b2, b3, b4, b5, b6, b7, b8, b9⟩, ⟨p5, p6⟩, p7, ⟨h96, h97⟩, p9, p10, p11⟩ := id hp
  have gw := p2.2.2
  have hS := b1.1.2.1
  have hw1 := drv_ne hd
  obtain ⟨G, hGd⟩ : ∃ G : Nat → Nat → Nat, G = fun s x => if s < S ∧ 1 ≤ x ∧ x < 14 then T s x else Classical.choose (nI_any (i 24 (s * 14 + x))) := ⟨_, rfl⟩
  have hG1 : ∀ s x, s < S → 1 ≤ x → x < 14 → G s x = T s x := fun s x hs h1 hx => by rw [hGd]; exact if_pos ⟨hs, h1, hx⟩
  have hG2 : ∀ s x, 1 ≤ x → x < 14 → i 24 (s * 14 + x) = nI (G s x) := fun s x h1 hx => by
    by_cases c : s < S
    · rw [hG1 s x c h1 hx]; exact b6 s x c h1 hx
    · rw [hGd]; dsimp only
      rw [if_neg (fun z => c z.1)]
      exact Classical.choose_spec (nI_any (i 24 (s * 14 + x)))
  have hdv : ∀ s x, s < S → x < 7 → i 26 (s * 7 + x) = dcS sy (fun _ => 0) (fun _ => 0) F T s x ∧ dcS sy (fun _ => 0) (fun _ => 0) F T s x ≠ nI 1001 := fun s x hs hx => by
    have e : DcA sy (fun _ => 0) (fun _ => 0) F T (s * 7 + x) = dcS sy (fun _ => 0) (fun _ => 0) F T s x := by
      show dcS sy _ _ F T ((s * 7 + x) / 7) ((s * 7 + x) % 7) = _
      rw [show (s * 7 + x) / 7 = s by omega, show (s * 7 + x) % 7 = x by omega]
    have := b7 (s * 7 + x) (by omega)
    rw [e] at this; exact this
  have hTT : ∀ j, j < (tks w).length → i 34 j = nI ((tks w).getD j 0) ∧ 1 ≤ (tks w).getD j 0 ∧ (tks w).getD j 0 ≤ 6 := fun j hj => by
    have hg : (tks w)[j]? = some ((tks w).getD j 0) := by rw [List.getD_eq_getElem?_getD, List.getElem?_eq_getElem hj]; rfl
    refine ⟨hn.2.2.2 j _ hg, ?_⟩
    have hm := List.mem_of_getElem? hg
    unfold tks at hm
    obtain ⟨m1, m2⟩ := List.mem_filter.mp hm
    have m2 := of_decide_eq_true m2
    rcases hn.2.1 _ m1 with z | z
    · exact z
    · unfold tks; omega
  have hL : LrP (fun s x => i 26 (s * 7 + x)) G n sy (tks w).length (fun j => (tks w).getD j 0) (RES n sy (tks w).length w) 150 0 1 0 (upN (fun _ => 0) 0 0) (fun _ => 0) (i 53) (fun _ => 0) :=
    fol_run (S := S) (T := T) (pr := pr) (fi := fi) (F := F) (lv := fun _ => 0) (kd := fun _ => 0) gw (by omega) b1 b2 b3 b4 b5 (fun _ => rfl) (fun s t hs ht => (hdv s t hs ht).2) (fun s t hs ht => (hdv s t hs ht).1) (fun s x hs h8 hx => hG1 s x hs (by omega) hx) (by omega) (f := f) (by rw [p9]; exact hd) (fun j x hj => by show (tks w).getD j 0 = x; rw [List.getD_eq_getElem?_getD, hj]; rfl) rfl
  refine ex_aload_n (i := 1) dL_law_608 rfl rfl ?_
  refine ex_cHL (ν := m_Law_parse) (as := [.ref (0)]) (kc := 499) (sc := 4994) (by decide) (by decide) dL_law_609 lnH_parse mfH_parse np_Law_parse rfl rfl ⟨(Nat.le_of_ble_eq_true rfl), (Nat.le_of_ble_eq_true rfl), (Nat.le_of_ble_eq_true rfl), (Nat.le_of_ble_eq_true rfl)⟩ ?_
  refine sp_Law_parse (ζ := 4) (sp_Works_parse_51 (b := 1) (cj := 0) (f := 0) (R := RES n sy (tks w).length w) (ss := fun _ => 0) (sn := fun _ => 0) (tk0 := fun _ => 0) (D := fun s x => i 26 (s * 7 + x)) (G := G) p1 p2 p3 EV_0 p7 (Nat.le_refl _) (fun _ => ⟨b8, by decide⟩) (fun _ => ⟨b9, by decide⟩) hn.2.2.1 ht hTT (fun _ s x _ _ => rfl) (fun _ s x _ h8 hx => hG2 s x (by omega) hx) (fun _ _ _ => hL) (fun o md nd tk h => Or.inl h.1) (fun md nd tk h => ?_) (fun h => by omega) (fun _ _ _ md nd tk i1 q1 h => absurd h.1 (by decide)) (fun _ _ _ k md nd tk i1 q1 h hk => (nI_ne1 (show k < 2 ^ 31 by omega) h.1).elim) (fun _ _ _ md nd tk val i1 q1 hR hPT f1 e7 e8 e6 e2 hmd e3 _ _ => WQ.ok ?_))
  · obtain ⟨-, -, -, -, tb, rl, pa, ch, tw, tt⟩ := h
    exact PT_0 (fun _ => rfl) EV_0 ht tw tt
  obtain ⟨-, rfl, hfc, hrt, -⟩ := hR
  subst e3
  refine ⟨_, rfl, ⟨f1 4096 (by decide), f1 4097 (by decide)⟩, ?_⟩
  refine ex_iload dL_law_612 rfl ?_
  refine ex_icmp_neN (tgt := 644) dL_law_614 (by decide) (by omega) (by omega) (fun h614 => by exact absurd rfl h614) (fun h614 => ?_)
  refine ex_aload_n (i := 1) dL_law_617 rfl rfl ?_
  refine ex_cVL (ν := m_Works_fault) (a := 0) (ci := 9) (as := []) dL_law_618 ln_Law_75 mf_Works_fault rfl (Nat.le_of_ble_eq_true rfl) rfl rfl np_Works_fault rfl rfl ⟨(Nat.le_of_ble_eq_true rfl), (Nat.le_of_ble_eq_true rfl), (Nat.le_of_ble_eq_true rfl), (Nat.le_of_ble_eq_true rfl)⟩ ?_
  refine sp_Works_fault (ζ := 4) ?_
  refine ⟨_, rfl, ⟨rfl, rfl⟩, ?_⟩
  refine ex_asI (y := -1) e8 ?_
  refine ex_iconst (v := -1) dL_law_621 (by decide) ?_
  refine ex_icmp_ne (tgt := 644) dL_law_622 (by decide) (fun h622 => by exact absurd rfl h622) (fun h622 => ?_)
  refine ex_aload_n (i := 1) dL_law_625 rfl rfl ?_
  refine ex_iconst (v := nI 5) dL_law_626 (by decide) ?_
  refine ex_cHL (ν := m_Law_count) (as := [.ref (0), .int (nI (5))]) (kc := 498) (sc := 4988) (by decide) (by decide) dL_law_627 lnH_count mfH_count np_Law_count rfl rfl ⟨(Nat.le_of_ble_eq_true rfl), (Nat.le_of_ble_eq_true rfl), (Nat.le_of_ble_eq_true rfl), (Nat.le_of_ble_eq_true rfl)⟩ ?_
  refine sp_lc5_51 (ζ := 4) (b := 1) (f := 0) e7 (Nat.le_refl _) (fun _ => ⟨by rw [f1 27 (by decide)]; exact b9, by decide⟩) ?_
  refine ⟨_, rfl, ⟨rfl, rfl⟩, ?_⟩
  refine ex_asN (a := w.length) e2 ?_
  refine ex_iload dL_law_630 rfl ?_
  refine ex_icmp_neN (tgt := 644) dL_law_632 (by decide) (by omega) (by omega) (fun h632 => by exact absurd rfl h632) (fun h632 => ?_)
  refine ex_aload_n (i := 1) dL_law_635 rfl rfl ?_
  refine ex_bipush (v := nI 6) dL_law_636 (by decide) ?_
  refine ex_cHL (ν := m_Law_count) (as := [.ref (0), .int (nI (6))]) (kc := 497) (sc := 4982) (by decide) (by decide) dL_law_638 lnH_count mfH_count np_Law_count rfl rfl ⟨(Nat.le_of_ble_eq_true rfl), (Nat.le_of_ble_eq_true rfl), (Nat.le_of_ble_eq_true rfl), (Nat.le_of_ble_eq_true rfl)⟩ ?_
  refine sp_lc6_51 (ζ := 4) (b := 1) (f := 0) e7 (Nat.le_refl _) (fun _ => ⟨by rw [f1 27 (by decide)]; exact b9, by decide⟩) ?_
  refine ⟨_, rfl, ⟨rfl, rfl⟩, ?_⟩
  refine ex_asN (a := 0) e6 ?_
  refine ex_if_eqN (tgt := 646) dL_law_641 (by decide) (by omega) (fun h641 => ?_) (fun h641 => by exact absurd h641 (by decide))
  refine ex_iconst (v := nI 0) dL_law_646 (by decide) ?_
  refine ex_istore (L' := [some (.ref (4096)), some (.ref (0)), none, some (.int (nI (n))), some (.ref (56)), some (.ref (57)), some (.ref (58)), some (.ref (59)), none, some (.int (nI (w.length))), none, some (.int (nI (0))), none, none, none]) dL_law_647 (by decide) rfl ?_
  refine ex_Kw (K := (100 + 2 * w.length, 600 + 12 * w.length)) ⟨by show 100 + 2 * w.length ≤ 497; omega, by show 600 + 12 * w.length ≤ 4982; omega⟩ ?_
  exact lw_nodes p11 gw (SC_Fr (l := [0, 32, 38, 40, 43, 45, 51, 53]) rfl f1 p1) e2 hw hw1 (fun r hr => by rw [f1 56 (by decide)]; exact p5 r hr) (fun j e h => by rw [f1 59 (by decide)]; exact hn.1 j e h) hn.2.1 hfc hrt w.length 0 none (Nat.zero_add _)
end S96
/-- the law, whole -/
theorem law_all {xs : Nat → Int32} {L : Nat} (hL3 : L ≤ 260) : Wx m_Law_law 0 [some (.ref 4096), none, none, none, none, none, none, none, none, none, none, none, none, none, none] [] (0, 0, i0L xs L, q0L, r0L) (600086, 7301442) (fun r _ => r = .ok (some (.int 1))) := by
  have nxt : NXT xs L Qf := fun n sy i h1 h6 hv ha h8 => lw_build h1 h6 hv ha h8 (lw_derive hL3 lw_parse)
  refine lw_begin hL3 (fun sm rl h => ?_)
  rcases h with ⟨rfl, rfl⟩ | ⟨rfl, h1, h4⟩
  · exact lw_sums nxt
  · exact lw_rules hL3 h1 h4 nxt
