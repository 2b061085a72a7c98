/-! ===== Rings.growBy, search ===== -/
def nvT (x : Nat) (W : Nat → Nat) : Nat := x ||| 4 ||| (if (W 0).testBit 2 = true then 1 else 0) ||| (if (W 1).testBit 2 = true then 2 else 0)
theorem nvT_lt {x : Nat} {W : Nat → Nat} (h : x < 8) : nvT x W < 8 := by
  unfold nvT
  refine Nat.or_lt_two_pow (n := 3) (Nat.or_lt_two_pow (n := 3) (Nat.or_lt_two_pow (n := 3) h (by decide)) ?_) ?_
  · split <;> decide
  · split <;> decide
theorem nvT_sub {x : Nat} {W : Nat → Nat} : sub x (nvT x W) := sub_tr (sub_tr (sub_tr sub_rf sub_l) sub_l) sub_l
section S34
variable {ζ g : Nat} {i : Nat → Nat → Int32} {q : Nat → Nat → Int64} {t : Bool} {Q : xRes → xMem → Prop} {n : Nat} {sy : Nat → Nat → Nat} {op xp yp tr : Nat → Nat}
theorem lp_Rings_growBy1 {r : Nat} {H0 : Nat → Nat} (hb : ∀ p, p < 15 → H0 p < 2 ^ 15) (hk : ∀ i1, Fr [31] i i1 → Vw i1 31 15 (wsN H0 15) → Wx m_Rings_growBy 29 [some (.ref 27), some (.int (nI r)), none, none, none] [] (56 + ζ, g, i1, q, RT t) (0, 0) Q) :
    ∀ d k i1, k + d = 15 → Fr [31] i i1 → Vw i1 31 15 (wsN H0 k) → Wx m_Rings_growBy 12 [some (.ref 27), some (.int (nI r)), some (.int (nI k)), none, none] [] (56 + ζ, g, i1, q, RT t) (0, 0) Q := by
  intro d
  induction d with
  | zero =>
    intro k i1 hkk hf hH
    have e : k = 15 := by omega
    subst e
    refine ex_iload_n (i := 2) dX5_growBy_12 rfl rfl ?_
    refine ex_bipush (v := nI 15) dX5_growBy_13 (by decide) ?_
    refine ex_icmp_geN (tgt := 29) dX5_growBy_15 (by decide) (by decide) (by decide) (fun h15 => ?_) (fun h15 => by exact absurd h15 (by decide))
    exact ex_less (L' := [some (.ref 27), some (.int (nI r)), none, none, none]) (by simp [xSub]) (hk i1 hf hH)
  | succ d ih =>
    intro k i1 hkk hf hH
    have hk15 : k < 15 := by omega
    refine ex_iload_n (i := 2) dX5_growBy_12 rfl rfl ?_
    refine ex_bipush (v := nI 15) dX5_growBy_13 (by decide) ?_
    refine ex_icmp_geN (tgt := 29) dX5_growBy_15 (by decide) (by omega) (by omega) (fun h15 => by omega) (fun h15 => ?_)
    refine ex_aload_n (i := 0) dX5_growBy_18 rfl rfl ?_
    refine ex_iload_n (i := 2) dX5_growBy_19 rfl rfl ?_
    refine ex_cV (ν := m_Rings_passOn) (a := 27) (ci := 5) (as := [.int (nI (k))]) dX5_growBy_20 ln_Rings_69 mf_Rings_passOn rfl (l56 (by decide)) rfl rfl np_Rings_passOn rfl rfl ⟨(Nat.le_of_ble_eq_true rfl), (Nat.le_of_ble_eq_true rfl), (Nat.le_of_ble_eq_true rfl), (Nat.le_of_ble_eq_true rfl)⟩ (by decide) ?_
    refine sp_Rings_passOn hk15 hH (wsN_lt hb (by omega)) (fun i2 k1 k2 => ?_)
    refine ⟨_, rfl, ?_⟩
    refine ex_iincN (L' := [some (.ref (27)), some (.int (nI (r))), some (.int (nI (k + 1))), none, none]) dX5_growBy_23 rfl rfl (by decide) rfl ?_
    refine ex_goto (tgt := 12) dX5_growBy_26 (by decide) ?_
    exact ih (k + 1) i2 (by omega) (hf.tr k1) k2
theorem lp_Rings_growBy2 {r fd : Nat} {W : Nat → Nat} (hb : ∀ p, p < 15 → W p < 2 ^ 15) (hk : ∀ i1 f, Fr [27] i i1 → i1 27 3 = nI f → f < 2 → (f = 1 ↔ fd = 1 ∨ slf W) → Wx m_Rings_growBy 57 [some (.ref 27), some (.int (nI r)), none, none, none] [] (56 + ζ, g, i1, q, RT t) (0, 0) Q) :
    ∀ d k i1 f, k + d = 15 → Fr [27] i i1 → i1 27 3 = nI f → f < 2 → (f = 1 ↔ fd = 1 ∨ ∃ p, p < k ∧ (W p).testBit p = true) → Vw i1 31 15 W → Wx m_Rings_growBy 31 [some (.ref 27), some (.int (nI r)), some (.int (nI k)), none, none] [] (56 + ζ, g, i1, q, RT t) (0, 0) Q := by
  intro d
  induction d with
  | zero =>
    intro k i1 f hkk hf h3 hf2 hfe hH
    have e : k = 15 := by omega
    subst e
    refine ex_iload_n (i := 2) dX5_growBy_31 rfl rfl ?_
    refine ex_bipush (v := nI 15) dX5_growBy_32 (by decide) ?_
    refine ex_icmp_geN (tgt := 57) dX5_growBy_34 (by decide) (by decide) (by decide) (fun h34 => ?_) (fun h34 => by exact absurd h34 (by decide))
    exact ex_less (L' := [some (.ref 27), some (.int (nI r)), none, none, none]) (by simp [xSub]) (hk i1 f hf h3 hf2 hfe)
  | succ d ih =>
    intro k i1 f hkk hf h3 hf2 hfe hH
    have hk15 : k < 15 := by omega
    by_cases hs : (W k).testBit k = true
    · have hfe2 : (1 : Nat) = 1 ↔ fd = 1 ∨ ∃ p, p < k + 1 ∧ (W p).testBit p = true := ⟨fun _ => Or.inr ⟨k, by omega, hs⟩, fun _ => rfl⟩
      refine ex_iload_n (i := 2) dX5_growBy_31 rfl rfl ?_
      refine ex_bipush (v := nI 15) dX5_growBy_32 (by decide) ?_
      refine ex_icmp_geN (tgt := 57) dX5_growBy_34 (by decide) (by omega) (by omega) (fun h34 => by omega) (fun h34 => ?_)
      refine ex_aload_n (i := 0) dX5_growBy_37 rfl rfl ?_
      refine ex_iload_n (i := 2) dX5_growBy_38 rfl rfl ?_
      refine ex_iload_n (i := 2) dX5_growBy_39 rfl rfl ?_
      refine ex_cV (ν := m_Rings_hangsOn) (a := 27) (ci := 5) (as := [.int (nI (k)), .int (nI (k))]) dX5_growBy_40 ln_Rings_72 mf_Rings_hangsOn rfl (l56 (by decide)) rfl rfl np_Rings_hangsOn rfl rfl ⟨(Nat.le_of_ble_eq_true rfl), (Nat.le_of_ble_eq_true rfl), (Nat.le_of_ble_eq_true rfl), (Nat.le_of_ble_eq_true rfl)⟩ (by decide) ?_
      refine sp_Rings_hangsOn hk15 hk15 hH hb ?_
      refine ⟨_, rfl, ?_⟩
      refine ex_if_eqN (tgt := 51) dX5_growBy_43 (by decide) (by rw [if_pos hs]; decide) (fun h43 => by exact absurd h43 (by rw [if_pos hs]; decide)) (fun h43 => ?_)
      refine ex_aload_n (i := 0) dX5_growBy_46 rfl rfl ?_
      refine ex_iconst (v := nI 1) dX5_growBy_47 (by decide) ?_
      refine ex_putI dX5_growBy_48 fl_Rings_27 cf_5 rfl (Or.inl rfl) (by decide) (by decide) rfl (l56 (by decide)) ?_
      refine ex_iincN (L' := [some (.ref (27)), some (.int (nI (r))), some (.int (nI (k + 1))), none, none]) dX5_growBy_51 rfl rfl (by decide) rfl ?_
      refine ex_goto (tgt := 31) dX5_growBy_54 (by decide) ?_
      exact ih (k + 1) _ 1 (by omega) (hf.U (by decide)) (by rw [xU_at]; simp [upd]) (by decide) hfe2 (hH.ne (by decide))
    · have hfe2 : f = 1 ↔ fd = 1 ∨ ∃ p, p < k + 1 ∧ (W p).testBit p = true := by
        rw [hfe]
        constructor
        · rintro (h | ⟨p, h1, h2⟩)
          · exact Or.inl h
          · exact Or.inr ⟨p, by omega, h2⟩
        · rintro (h | ⟨p, h1, h2⟩)
          · exact Or.inl h
          · by_cases e : p = k
            · subst e; exact absurd h2 hs
            · exact Or.inr ⟨p, by omega, h2⟩
      refine ex_iload_n (i := 2) dX5_growBy_31 rfl rfl ?_
      refine ex_bipush (v := nI 15) dX5_growBy_32 (by decide) ?_
      refine ex_icmp_geN (tgt := 57) dX5_growBy_34 (by decide) (by omega) (by omega) (fun h34 => by omega) (fun h34 => ?_)
      refine ex_aload_n (i := 0) dX5_growBy_37 rfl rfl ?_
      refine ex_iload_n (i := 2) dX5_growBy_38 rfl rfl ?_
      refine ex_iload_n (i := 2) dX5_growBy_39 rfl rfl ?_
      refine ex_cV (ν := m_Rings_hangsOn) (a := 27) (ci := 5) (as := [.int (nI (k)), .int (nI (k))]) dX5_growBy_40 ln_Rings_72 mf_Rings_hangsOn rfl (l56 (by decide)) rfl rfl np_Rings_hangsOn rfl rfl ⟨(Nat.le_of_ble_eq_true rfl), (Nat.le_of_ble_eq_true rfl), (Nat.le_of_ble_eq_true rfl), (Nat.le_of_ble_eq_true rfl)⟩ (by decide) ?_
      refine sp_Rings_hangsOn hk15 hk15 hH hb ?_
      refine ⟨_, rfl, ?_⟩
      refine ex_if_eqN (tgt := 51) dX5_growBy_43 (by decide) (by rw [if_neg hs]; decide) (fun h43 => ?_) (fun h43 => by exact absurd (by rw [if_neg hs]) h43)
      refine ex_iincN (L' := [some (.ref (27)), some (.int (nI (r))), some (.int (nI (k + 1))), none, none]) dX5_growBy_51 rfl rfl (by decide) rfl ?_
      refine ex_goto (tgt := 31) dX5_growBy_54 (by decide) ?_
      exact ih (k + 1) i1 f (by omega) hf h3 hf2 hfe2 hH
theorem sp_Rings_growBy {r fd : Nat} (sc : SC i) (gs : GS i n sy) (es : ES i op xp yp) (hr : r < n) (htr : Vw i 29 14 tr) (htb : ∀ s, tr s < 8) (hfd : i 27 3 = nI fd) (hfd2 : fd < 2)
    (hQ : ∀ b f i1, Fr [27, 29, 31] i i1 → i1 27 3 = nI f → f < 2 → (f = 1 ↔ fd = 1 ∨ slf (hgR sy op xp yp tr r)) → Vw i1 29 14 (upN tr (sy r 0) (nvT (tr (sy r 0)) (hgR sy op xp yp tr r))) → b = (if nvT (tr (sy r 0)) (hgR sy op xp yp tr r) = tr (sy r 0) then 0 else 1) → Q (.ok (some (.int (nI b)))) (56 + ζ, g, i1, q, RT t)) :
    Wx m_Rings_growBy 0 [some (.ref 27), some (.int (nI r)), none, none, none] [] (56 + ζ, g, i, q, RT t) (0, 0) Q := by
  have hr14 : r < 14 := by have := gs.2.2.1; omega
  have hL := gs.2.2.2.2.1 r hr
  have hHb : ∀ p, p < 15 → hgB sy op xp yp tr r (lnR sy r + 1) p < 2 ^ 15 := fun p hp => hgB_lt es.2.2.2 hp
  have hWb : ∀ p, p < 15 → hgR sy op xp yp tr r p < 2 ^ 15 := wsN_lt hHb (Nat.le_refl _)
  have ht8 := htb (sy r 0)
  have hn8 := nvT_lt (W := hgR sy op xp yp tr r) ht8
  have last : ∀ i1 f, Fr [27, 31] i i1 → Vw i1 31 15 (hgR sy op xp yp tr r) → i1 27 3 = nI f → f < 2 → (f = 1 ↔ fd = 1 ∨ slf (hgR sy op xp yp tr r)) → Wx m_Rings_growBy 57 [some (.ref 27), some (.int (nI r)), none, none, none] [] (56 + ζ, g, i1, q, RT t) (0, 0) Q := by
    intro i1 f hf hH h3 hf2 hfe
    have sc1 := SC_Fr (by decide) hf sc
    have gs1 := gs.fr hf (by decide) (by decide)
    have htr1 := htr.fr hf (by decide)
    have hV : Vw (xU i1 29 (sy r 0) (nI (nvT (tr (sy r 0)) (hgR sy op xp yp tr r)))) 29 14 (upN tr (sy r 0) (nvT (tr (sy r 0)) (hgR sy op xp yp tr r))) := htr1.U
    have hq2 := hQ _ f (xU i1 29 (sy r 0) (nI (nvT (tr (sy r 0)) (hgR sy op xp yp tr r)))) ((hf.mono (by decide)).U (by decide)) (by rw [xU_ne _ _ _ (by decide)]; exact h3) hf2 hfe hV rfl
    unfold nvT at hq2 hn8
    by_cases w0 : (hgR sy op xp yp tr r 0).testBit 2 = true <;> by_cases w1 : (hgR sy op xp yp tr r 1).testBit 2 = true
    · rw [if_pos w0, if_pos w1] at hq2 hn8
      refine ex_aload_n (i := 0) dX5_growBy_57 rfl rfl ?_
      refine ex_getR (v := .ref (1)) dX5_growBy_58 fl_Rings_9 rfl rfl (l56 (by decide)) rfl ?_
      refine ex_iload_n (i := 1) dX5_growBy_61 rfl rfl ?_
      refine ex_cV (ν := m_Grammar_leftOf) (a := 1) (ci := 1) (as := [.int (nI (r))]) dX5_growBy_62 ln_Rings_76 mf_Grammar_leftOf rfl (l56 (by decide)) rfl rfl np_Grammar_leftOf rfl rfl ⟨(Nat.le_of_ble_eq_true rfl), (Nat.le_of_ble_eq_true rfl), (Nat.le_of_ble_eq_true rfl), (Nat.le_of_ble_eq_true rfl)⟩ (by decide) ?_
      refine sp_Grammar_leftOf sc1 (by omega) ?_
      refine ⟨_, rfl, ?_⟩
      refine ex_asN (a := sy r 0) (gs1.2.1 r 0 (by omega) (by omega)) ?_
      refine ex_istore_n (L' := [some (.ref (27)), some (.int (nI (r))), some (.int (nI (sy r 0))), none, none]) dX5_growBy_65 (i := 2) rfl (by decide) rfl ?_
      refine ex_aload_n (i := 0) dX5_growBy_66 rfl rfl ?_
      refine ex_getR (v := .ref (28)) dX5_growBy_67 fl_Rings_20 rfl rfl (l56 (by decide)) rfl ?_
      refine ex_iload_n (i := 2) dX5_growBy_70 rfl rfl ?_
      refine ex_cV (ν := m_Row_get) (a := 28) (ci := 6) (as := [.int (nI (sy r 0))]) dX5_growBy_71 ln_Rings_60 mf_Row_get rfl (l56 (by decide)) rfl rfl np_Row_get rfl rfl ⟨(Nat.le_of_ble_eq_true rfl), (Nat.le_of_ble_eq_true rfl), (Nat.le_of_ble_eq_true rfl), (Nat.le_of_ble_eq_true rfl)⟩ (by decide) ?_
      refine sp_Row_get (r := 28) (c := 29) rfl rfl rfl (l56 (by decide)) (l56 (by decide)) (by omega) ?_
      refine ⟨_, rfl, ?_⟩
      refine ex_asN (a := tr (sy r 0)) (htr1 _ (by omega)) ?_
      refine ex_istore_n (L' := [some (.ref (27)), some (.int (nI (r))), some (.int (nI (sy r 0))), some (.int (nI (tr (sy r 0)))), none]) dX5_growBy_74 (i := 3) rfl (by decide) rfl ?_
      refine ex_iload_n (i := 3) dX5_growBy_75 rfl rfl ?_
      refine ex_iconst (v := nI 4) dX5_growBy_76 (by decide) ?_
      refine ex_iorN dX5_growBy_77 ?_
      refine ex_aload_n (i := 0) dX5_growBy_78 rfl rfl ?_
      refine ex_iconst (v := nI 0) dX5_growBy_79 (by decide) ?_
      refine ex_iconst (v := nI 2) dX5_growBy_80 (by decide) ?_
      refine ex_cV (ν := m_Rings_hangsOn) (a := 27) (ci := 5) (as := [.int (nI (0)), .int (nI (2))]) dX5_growBy_81 ln_Rings_72 mf_Rings_hangsOn rfl (l56 (by decide)) rfl rfl np_Rings_hangsOn rfl rfl ⟨(Nat.le_of_ble_eq_true rfl), (Nat.le_of_ble_eq_true rfl), (Nat.le_of_ble_eq_true rfl), (Nat.le_of_ble_eq_true rfl)⟩ (by decide) ?_
      refine sp_Rings_hangsOn (by decide) (by decide) hH hWb ?_
      refine ⟨_, rfl, ?_⟩
      refine ex_asN (a := 1) (by rw [if_pos w0]) ?_
      refine ex_if_eqN (tgt := 91) dX5_growBy_84 (by decide) (by omega) (fun hv84 => by exact absurd hv84 (by decide)) (fun hv84 => ?_)
      refine ex_iconst (v := nI 1) dX5_growBy_87 (by decide) ?_
      refine ex_goto (tgt := 92) dX5_growBy_88 (by decide) ?_
      refine ex_iorN dX5_growBy_92 ?_
      refine ex_aload_n (i := 0) dX5_growBy_93 rfl rfl ?_
      refine ex_iconst (v := nI 1) dX5_growBy_94 (by decide) ?_
      refine ex_iconst (v := nI 2) dX5_growBy_95 (by decide) ?_
      refine ex_cV (ν := m_Rings_hangsOn) (a := 27) (ci := 5) (as := [.int (nI (1)), .int (nI (2))]) dX5_growBy_96 ln_Rings_72 mf_Rings_hangsOn rfl (l56 (by decide)) rfl rfl np_Rings_hangsOn rfl rfl ⟨(Nat.le_of_ble_eq_true rfl), (Nat.le_of_ble_eq_true rfl), (Nat.le_of_ble_eq_true rfl), (Nat.le_of_ble_eq_true rfl)⟩ (by decide) ?_
      refine sp_Rings_hangsOn (by decide) (by decide) hH hWb ?_
      refine ⟨_, rfl, ?_⟩
      refine ex_asN (a := 1) (by rw [if_pos w1]) ?_
      refine ex_if_eqN (tgt := 106) dX5_growBy_99 (by decide) (by omega) (fun hv99 => by exact absurd hv99 (by decide)) (fun hv99 => ?_)
      refine ex_iconst (v := nI 2) dX5_growBy_102 (by decide) ?_
      refine ex_goto (tgt := 107) dX5_growBy_103 (by decide) ?_
      refine ex_iorN dX5_growBy_107 ?_
      refine ex_istore (L' := [some (.ref (27)), some (.int (nI (r))), some (.int (nI (sy r 0))), some (.int (nI (tr (sy r 0)))), some (.int (nI ((((tr (sy r 0)) ||| 4) ||| 1) ||| 2)))]) dX5_growBy_108 (by decide) rfl ?_
      refine ex_aload_n (i := 0) dX5_growBy_110 rfl rfl ?_
      refine ex_getR (v := .ref (28)) dX5_growBy_111 fl_Rings_20 rfl rfl (l56 (by decide)) rfl ?_
      refine ex_iload_n (i := 2) dX5_growBy_114 rfl rfl ?_
      refine ex_iload dX5_growBy_115 rfl ?_
      refine ex_cV (ν := m_Row_set) (a := 28) (ci := 6) (as := [.int (nI (sy r 0)), .int (nI ((((tr (sy r 0)) ||| 4) ||| 1) ||| 2))]) dX5_growBy_117 ln_Rings_34 mf_Row_set rfl (l56 (by decide)) rfl rfl np_Row_set rfl rfl ⟨(Nat.le_of_ble_eq_true rfl), (Nat.le_of_ble_eq_true rfl), (Nat.le_of_ble_eq_true rfl), (Nat.le_of_ble_eq_true rfl)⟩ (by decide) ?_
      refine sp_Row_set (r := 28) (c := 29) rfl rfl rfl (l56 (by decide)) (l56 (by decide)) (by omega) ?_
      refine ⟨_, rfl, ?_⟩
      refine ex_iload dX5_growBy_120 rfl ?_
      refine ex_iload_n (i := 3) dX5_growBy_122 rfl rfl ?_
      refine ex_icmp_eqN (tgt := 130) dX5_growBy_123 (by decide) (by omega) (by omega) (fun hv123 => ?_) (fun hv123 => ?_)
      · refine ex_iconst (v := nI 0) dX5_growBy_130 (by decide) ?_
        refine ex_iret dX5_growBy_131 rfl (by decide) ?_
        first | (rw [if_pos (by assumption)] at hq2; exact hq2) | (rw [if_neg (by assumption)] at hq2; exact hq2)
      · refine ex_iconst (v := nI 1) dX5_growBy_126 (by decide) ?_
        refine ex_goto (tgt := 131) dX5_growBy_127 (by decide) ?_
        refine ex_iret dX5_growBy_131 rfl (by decide) ?_
        first | (rw [if_pos (by assumption)] at hq2; exact hq2) | (rw [if_neg (by assumption)] at hq2; exact hq2)
    · rw [if_pos w0, if_neg w1] at hq2 hn8
      refine ex_aload_n (i := 0) dX5_growBy_57 rfl rfl ?_
      refine ex_getR (v := .ref (1)) dX5_growBy_58 fl_Rings_9 rfl rfl (l56 (by decide)) rfl ?_
      refine ex_iload_n (i := 1) dX5_growBy_61 rfl rfl ?_
      refine ex_cV (ν := m_Grammar_leftOf) (a := 1) (ci := 1) (as := [.int (nI (r))]) dX5_growBy_62 ln_Rings_76 mf_Grammar_leftOf rfl (l56 (by decide)) rfl rfl np_Grammar_leftOf rfl rfl ⟨(Nat.le_of_ble_eq_true rfl), (Nat.le_of_ble_eq_true rfl), (Nat.le_of_ble_eq_true rfl), (Nat.le_of_ble_eq_true rfl)⟩ (by decide) ?_
      refine sp_Grammar_leftOf sc1 (by omega) ?_
      refine ⟨_, rfl, ?_⟩
      refine ex_asN (a := sy r 0) (gs1.2.1 r 0 (by omega) (by omega)) ?_
      refine ex_istore_n (L' := [some (.ref (27)), some (.int (nI (r))), some (.int (nI (sy r 0))), none, none]) dX5_growBy_65 (i := 2) rfl (by decide) rfl ?_
      refine ex_aload_n (i := 0) dX5_growBy_66 rfl rfl ?_
      refine ex_getR (v := .ref (28)) dX5_growBy_67 fl_Rings_20 rfl rfl (l56 (by decide)) rfl ?_
      refine ex_iload_n (i := 2) dX5_growBy_70 rfl rfl ?_
      refine ex_cV (ν := m_Row_get) (a := 28) (ci := 6) (as := [.int (nI (sy r 0))]) dX5_growBy_71 ln_Rings_60 mf_Row_get rfl (l56 (by decide)) rfl rfl np_Row_get rfl rfl ⟨(Nat.le_of_ble_eq_true rfl), (Nat.le_of_ble_eq_true rfl), (Nat.le_of_ble_eq_true rfl), (Nat.le_of_ble_eq_true rfl)⟩ (by decide) ?_
      refine sp_Row_get (r := 28) (c := 29) rfl rfl rfl (l56 (by decide)) (l56 (by decide)) (by omega) ?_
      refine ⟨_, rfl, ?_⟩
      refine ex_asN (a := tr (sy r 0)) (htr1 _ (by omega)) ?_
      refine ex_istore_n (L' := [some (.ref (27)), some (.int (nI (r))), some (.int (nI (sy r 0))), some (.int (nI (tr (sy r 0)))), none]) dX5_growBy_74 (i := 3) rfl (by decide) rfl ?_
      refine ex_iload_n (i := 3) dX5_growBy_75 rfl rfl ?_
      refine ex_iconst (v := nI 4) dX5_growBy_76 (by decide) ?_
      refine ex_iorN dX5_growBy_77 ?_
      refine ex_aload_n (i := 0) dX5_growBy_78 rfl rfl ?_
      refine ex_iconst (v := nI 0) dX5_growBy_79 (by decide) ?_
      refine ex_iconst (v := nI 2) dX5_growBy_80 (by decide) ?_
      refine ex_cV (ν := m_Rings_hangsOn) (a := 27) (ci := 5) (as := [.int (nI (0)), .int (nI (2))]) dX5_growBy_81 ln_Rings_72 mf_Rings_hangsOn rfl (l56 (by decide)) rfl rfl np_Rings_hangsOn rfl rfl ⟨(Nat.le_of_ble_eq_true rfl), (Nat.le_of_ble_eq_true rfl), (Nat.le_of_ble_eq_true rfl), (Nat.le_of_ble_eq_true rfl)⟩ (by decide) ?_
      refine sp_Rings_hangsOn (by decide) (by decide) hH hWb ?_
      refine ⟨_, rfl, ?_⟩
      refine ex_asN (a := 1) (by rw [if_pos w0]) ?_
      refine ex_if_eqN (tgt := 91) dX5_growBy_84 (by decide) (by omega) (fun hv84 => by exact absurd hv84 (by decide)) (fun hv84 => ?_)
      refine ex_iconst (v := nI 1) dX5_growBy_87 (by decide) ?_
      refine ex_goto (tgt := 92) dX5_growBy_88 (by decide) ?_
      refine ex_iorN dX5_growBy_92 ?_
      refine ex_aload_n (i := 0) dX5_growBy_93 rfl rfl ?_
      refine ex_iconst (v := nI 1) dX5_growBy_94 (by decide) ?_
      refine ex_iconst (v := nI 2) dX5_growBy_95 (by decide) ?_
      refine ex_cV (ν := m_Rings_hangsOn) (a := 27) (ci := 5) (as := [.int (nI (1)), .int (nI (2))]) dX5_growBy_96 ln_Rings_72 mf_Rings_hangsOn rfl (l56 (by decide)) rfl rfl np_Rings_hangsOn rfl rfl ⟨(Nat.le_of_ble_eq_true rfl), (Nat.le_of_ble_eq_true rfl), (Nat.le_of_ble_eq_true rfl), (Nat.le_of_ble_eq_true rfl)⟩ (by decide) ?_
      refine sp_Rings_hangsOn (by decide) (by decide) hH hWb ?_
      refine ⟨_, rfl, ?_⟩
      refine ex_asN (a := 0) (by rw [if_neg w1]) ?_
      refine ex_if_eqN (tgt := 106) dX5_growBy_99 (by decide) (by omega) (fun hv99 => ?_) (fun hv99 => by exact absurd hv99 (by decide))
      refine ex_iconst (v := nI 0) dX5_growBy_106 (by decide) ?_
      refine ex_iorN dX5_growBy_107 ?_
      refine ex_istore (L' := [some (.ref (27)), some (.int (nI (r))), some (.int (nI (sy r 0))), some (.int (nI (tr (sy r 0)))), some (.int (nI ((((tr (sy r 0)) ||| 4) ||| 1) ||| 0)))]) dX5_growBy_108 (by decide) rfl ?_
      refine ex_aload_n (i := 0) dX5_growBy_110 rfl rfl ?_
      refine ex_getR (v := .ref (28)) dX5_growBy_111 fl_Rings_20 rfl rfl (l56 (by decide)) rfl ?_
      refine ex_iload_n (i := 2) dX5_growBy_114 rfl rfl ?_
      refine ex_iload dX5_growBy_115 rfl ?_
      refine ex_cV (ν := m_Row_set) (a := 28) (ci := 6) (as := [.int (nI (sy r 0)), .int (nI ((((tr (sy r 0)) ||| 4) ||| 1) ||| 0))]) dX5_growBy_117 ln_Rings_34 mf_Row_set rfl (l56 (by decide)) rfl rfl np_Row_set rfl rfl ⟨(Nat.le_of_ble_eq_true rfl), (Nat.le_of_ble_eq_true rfl), (Nat.le_of_ble_eq_true rfl), (Nat.le_of_ble_eq_true rfl)⟩ (by decide) ?_
      refine sp_Row_set (r := 28) (c := 29) rfl rfl rfl (l56 (by decide)) (l56 (by decide)) (by omega) ?_
      refine ⟨_, rfl, ?_⟩
      refine ex_iload dX5_growBy_120 rfl ?_
      refine ex_iload_n (i := 3) dX5_growBy_122 rfl rfl ?_
      refine ex_icmp_eqN (tgt := 130) dX5_growBy_123 (by decide) (by omega) (by omega) (fun hv123 => ?_) (fun hv123 => ?_)
      · refine ex_iconst (v := nI 0) dX5_growBy_130 (by decide) ?_
        refine ex_iret dX5_growBy_131 rfl (by decide) ?_
        first | (rw [if_pos (by assumption)] at hq2; exact hq2) | (rw [if_neg (by assumption)] at hq2; exact hq2)
      · refine ex_iconst (v := nI 1) dX5_growBy_126 (by decide) ?_
        refine ex_goto (tgt := 131) dX5_growBy_127 (by decide) ?_
        refine ex_iret dX5_growBy_131 rfl (by decide) ?_
        first | (rw [if_pos (by assumption)] at hq2; exact hq2) | (rw [if_neg (by assumption)] at hq2; exact hq2)
    · rw [if_neg w0, if_pos w1] at hq2 hn8
      refine ex_aload_n (i := 0) dX5_growBy_57 rfl rfl ?_
      refine ex_getR (v := .ref (1)) dX5_growBy_58 fl_Rings_9 rfl rfl (l56 (by decide)) rfl ?_
      refine ex_iload_n (i := 1) dX5_growBy_61 rfl rfl ?_
      refine ex_cV (ν := m_Grammar_leftOf) (a := 1) (ci := 1) (as := [.int (nI (r))]) dX5_growBy_62 ln_Rings_76 mf_Grammar_leftOf rfl (l56 (by decide)) rfl rfl np_Grammar_leftOf rfl rfl ⟨(Nat.le_of_ble_eq_true rfl), (Nat.le_of_ble_eq_true rfl), (Nat.le_of_ble_eq_true rfl), (Nat.le_of_ble_eq_true rfl)⟩ (by decide) ?_
      refine sp_Grammar_leftOf sc1 (by omega) ?_
      refine ⟨_, rfl, ?_⟩
      refine ex_asN (a := sy r 0) (gs1.2.1 r 0 (by omega) (by omega)) ?_
      refine ex_istore_n (L' := [some (.ref (27)), some (.int (nI (r))), some (.int (nI (sy r 0))), none, none]) dX5_growBy_65 (i := 2) rfl (by decide) rfl ?_
      refine ex_aload_n (i := 0) dX5_growBy_66 rfl rfl ?_
      refine ex_getR (v := .ref (28)) dX5_growBy_67 fl_Rings_20 rfl rfl (l56 (by decide)) rfl ?_
      refine ex_iload_n (i := 2) dX5_growBy_70 rfl rfl ?_
      refine ex_cV (ν := m_Row_get) (a := 28) (ci := 6) (as := [.int (nI (sy r 0))]) dX5_growBy_71 ln_Rings_60 mf_Row_get rfl (l56 (by decide)) rfl rfl np_Row_get rfl rfl ⟨(Nat.le_of_ble_eq_true rfl), (Nat.le_of_ble_eq_true rfl), (Nat.le_of_ble_eq_true rfl), (Nat.le_of_ble_eq_true rfl)⟩ (by decide) ?_
      refine sp_Row_get (r := 28) (c := 29) rfl rfl rfl (l56 (by decide)) (l56 (by decide)) (by omega) ?_
      refine ⟨_, rfl, ?_⟩
      refine ex_asN (a := tr (sy r 0)) (htr1 _ (by omega)) ?_
      refine ex_istore_n (L' := [some (.ref (27)), some (.int (nI (r))), some (.int (nI (sy r 0))), some (.int (nI (tr (sy r 0)))), none]) dX5_growBy_74 (i := 3) rfl (by decide) rfl ?_
      refine ex_iload_n (i := 3) dX5_growBy_75 rfl rfl ?_
      refine ex_iconst (v := nI 4) dX5_growBy_76 (by decide) ?_
      refine ex_iorN dX5_growBy_77 ?_
      refine ex_aload_n (i := 0) dX5_growBy_78 rfl rfl ?_
      refine ex_iconst (v := nI 0) dX5_growBy_79 (by decide) ?_
      refine ex_iconst (v := nI 2) dX5_growBy_80 (by decide) ?_
      refine ex_cV (ν := m_Rings_hangsOn) (a := 27) (ci := 5) (as := [.int (nI (0)), .int (nI (2))]) dX5_growBy_81 ln_Rings_72 mf_Rings_hangsOn rfl (l56 (by decide)) rfl rfl np_Rings_hangsOn rfl rfl ⟨(Nat.le_of_ble_eq_true rfl), (Nat.le_of_ble_eq_true rfl), (Nat.le_of_ble_eq_true rfl), (Nat.le_of_ble_eq_true rfl)⟩ (by decide) ?_
      refine sp_Rings_hangsOn (by decide) (by decide) hH hWb ?_
      refine ⟨_, rfl, ?_⟩
      refine ex_asN (a := 0) (by rw [if_neg w0]) ?_
      refine ex_if_eqN (tgt := 91) dX5_growBy_84 (by decide) (by omega) (fun hv84 => ?_) (fun hv84 => by exact absurd hv84 (by decide))
      refine ex_iconst (v := nI 0) dX5_growBy_91 (by decide) ?_
      refine ex_iorN dX5_growBy_92 ?_
      refine ex_aload_n (i := 0) dX5_growBy_93 rfl rfl ?_
      refine ex_iconst (v := nI 1) dX5_growBy_94 (by decide) ?_
      refine ex_iconst (v := nI 2) dX5_growBy_95 (by decide) ?_
      refine ex_cV (ν := m_Rings_hangsOn) (a := 27) (ci := 5) (as := [.int (nI (1)), .int (nI (2))]) dX5_growBy_96 ln_Rings_72 mf_Rings_hangsOn rfl (l56 (by decide)) rfl rfl np_Rings_hangsOn rfl rfl ⟨(Nat.le_of_ble_eq_true rfl), (Nat.le_of_ble_eq_true rfl), (Nat.le_of_ble_eq_true rfl), (Nat.le_of_ble_eq_true rfl)⟩ (by decide) ?_
      refine sp_Rings_hangsOn (by decide) (by decide) hH hWb ?_
      refine ⟨_, rfl, ?_⟩
      refine ex_asN (a := 1) (by rw [if_pos w1]) ?_
      refine ex_if_eqN (tgt := 106) dX5_growBy_99 (by decide) (by omega) (fun hv99 => by exact absurd hv99 (by decide)) (fun hv99 => ?_)
      refine ex_iconst (v := nI 2) dX5_growBy_102 (by decide) ?_
      refine ex_goto (tgt := 107) dX5_growBy_103 (by decide) ?_
      refine ex_iorN dX5_growBy_107 ?_
      refine ex_istore (L' := [some (.ref (27)), some (.int (nI (r))), some (.int (nI (sy r 0))), some (.int (nI (tr (sy r 0)))), some (.int (nI ((((tr (sy r 0)) ||| 4) ||| 0) ||| 2)))]) dX5_growBy_108 (by decide) rfl ?_
      refine ex_aload_n (i := 0) dX5_growBy_110 rfl rfl ?_
      refine ex_getR (v := .ref (28)) dX5_growBy_111 fl_Rings_20 rfl rfl (l56 (by decide)) rfl ?_
      refine ex_iload_n (i := 2) dX5_growBy_114 rfl rfl ?_
      refine ex_iload dX5_growBy_115 rfl ?_
      refine ex_cV (ν := m_Row_set) (a := 28) (ci := 6) (as := [.int (nI (sy r 0)), .int (nI ((((tr (sy r 0)) ||| 4) ||| 0) ||| 2))]) dX5_growBy_117 ln_Rings_34 mf_Row_set rfl (l56 (by decide)) rfl rfl np_Row_set rfl rfl ⟨(Nat.le_of_ble_eq_true rfl), (Nat.le_of_ble_eq_true rfl), (Nat.le_of_ble_eq_true rfl), (Nat.le_of_ble_eq_true rfl)⟩ (by decide) ?_
      refine sp_Row_set (r := 28) (c := 29) rfl rfl rfl (l56 (by decide)) (l56 (by decide)) (by omega) ?_
      refine ⟨_, rfl, ?_⟩
      refine ex_iload dX5_growBy_120 rfl ?_
      refine ex_iload_n (i := 3) dX5_growBy_122 rfl rfl ?_
      refine ex_icmp_eqN (tgt := 130) dX5_growBy_123 (by decide) (by omega) (by omega) (fun hv123 => ?_) (fun hv123 => ?_)
      · refine ex_iconst (v := nI 0) dX5_growBy_130 (by decide) ?_
        refine ex_iret dX5_growBy_131 rfl (by decide) ?_
        first | (rw [if_pos (by assumption)] at hq2; exact hq2) | (rw [if_neg (by assumption)] at hq2; exact hq2)
      · refine ex_iconst (v := nI 1) dX5_growBy_126 (by decide) ?_
        refine ex_goto (tgt := 131) dX5_growBy_127 (by decide) ?_
        refine ex_iret dX5_growBy_131 rfl (by decide) ?_
        first | (rw [if_pos (by assumption)] at hq2; exact hq2) | (rw [if_neg (by assumption)] at hq2; exact hq2)
    · rw [if_neg w0, if_neg w1] at hq2 hn8
      refine ex_aload_n (i := 0) dX5_growBy_57 rfl rfl ?_
      refine ex_getR (v := .ref (1)) dX5_growBy_58 fl_Rings_9 rfl rfl (l56 (by decide)) rfl ?_
      refine ex_iload_n (i := 1) dX5_growBy_61 rfl rfl ?_
      refine ex_cV (ν := m_Grammar_leftOf) (a := 1) (ci := 1) (as := [.int (nI (r))]) dX5_growBy_62 ln_Rings_76 mf_Grammar_leftOf rfl (l56 (by decide)) rfl rfl np_Grammar_leftOf rfl rfl ⟨(Nat.le_of_ble_eq_true rfl), (Nat.le_of_ble_eq_true rfl), (Nat.le_of_ble_eq_true rfl), (Nat.le_of_ble_eq_true rfl)⟩ (by decide) ?_
      refine sp_Grammar_leftOf sc1 (by omega) ?_
      refine ⟨_, rfl, ?_⟩
      refine ex_asN (a := sy r 0) (gs1.2.1 r 0 (by omega) (by omega)) ?_
      refine ex_istore_n (L' := [some (.ref (27)), some (.int (nI (r))), some (.int (nI (sy r 0))), none, none]) dX5_growBy_65 (i := 2) rfl (by decide) rfl ?_
      refine ex_aload_n (i := 0) dX5_growBy_66 rfl rfl ?_
      refine ex_getR (v := .ref (28)) dX5_growBy_67 fl_Rings_20 rfl rfl (l56 (by decide)) rfl ?_
      refine ex_iload_n (i := 2) dX5_growBy_70 rfl rfl ?_
      refine ex_cV (ν := m_Row_get) (a := 28) (ci := 6) (as := [.int (nI (sy r 0))]) dX5_growBy_71 ln_Rings_60 mf_Row_get rfl (l56 (by decide)) rfl rfl np_Row_get rfl rfl ⟨(Nat.le_of_ble_eq_true rfl), (Nat.le_of_ble_eq_true rfl), (Nat.le_of_ble_eq_true rfl), (Nat.le_of_ble_eq_true rfl)⟩ (by decide) ?_
      refine sp_Row_get (r := 28) (c := 29) rfl rfl rfl (l56 (by decide)) (l56 (by decide)) (by omega) ?_
      refine ⟨_, rfl, ?_⟩
      refine ex_asN (a := tr (sy r 0)) (htr1 _ (by omega)) ?_
      refine ex_istore_n (L' := [some (.ref (27)), some (.int (nI (r))), some (.int (nI (sy r 0))), some (.int (nI (tr (sy r 0)))), none]) dX5_growBy_74 (i := 3) rfl (by decide) rfl ?_
      refine ex_iload_n (i := 3) dX5_growBy_75 rfl rfl ?_
      refine ex_iconst (v := nI 4) dX5_growBy_76 (by decide) ?_
      refine ex_iorN dX5_growBy_77 ?_
      refine ex_aload_n (i := 0) dX5_growBy_78 rfl rfl ?_
      refine ex_iconst (v := nI 0) dX5_growBy_79 (by decide) ?_
      refine ex_iconst (v := nI 2) dX5_growBy_80 (by decide) ?_
      refine ex_cV (ν := m_Rings_hangsOn) (a := 27) (ci := 5) (as := [.int (nI (0)), .int (nI (2))]) dX5_growBy_81 ln_Rings_72 mf_Rings_hangsOn rfl (l56 (by decide)) rfl rfl np_Rings_hangsOn rfl rfl ⟨(Nat.le_of_ble_eq_true rfl), (Nat.le_of_ble_eq_true rfl), (Nat.le_of_ble_eq_true rfl), (Nat.le_of_ble_eq_true rfl)⟩ (by decide) ?_
      refine sp_Rings_hangsOn (by decide) (by decide) hH hWb ?_
      refine ⟨_, rfl, ?_⟩
      refine ex_asN (a := 0) (by rw [if_neg w0]) ?_
      refine ex_if_eqN (tgt := 91) dX5_growBy_84 (by decide) (by omega) (fun hv84 => ?_) (fun hv84 => by exact absurd hv84 (by decide))
      refine ex_iconst (v := nI 0) dX5_growBy_91 (by decide) ?_
      refine ex_iorN dX5_growBy_92 ?_
      refine ex_aload_n (i := 0) dX5_growBy_93 rfl rfl ?_
      refine ex_iconst (v := nI 1) dX5_growBy_94 (by decide) ?_
      refine ex_iconst (v := nI 2) dX5_growBy_95 (by decide) ?_
      refine ex_cV (ν := m_Rings_hangsOn) (a := 27) (ci := 5) (as := [.int (nI (1)), .int (nI (2))]) dX5_growBy_96 ln_Rings_72 mf_Rings_hangsOn rfl (l56 (by decide)) rfl rfl np_Rings_hangsOn rfl rfl ⟨(Nat.le_of_ble_eq_true rfl), (Nat.le_of_ble_eq_true rfl), (Nat.le_of_ble_eq_true rfl), (Nat.le_of_ble_eq_true rfl)⟩ (by decide) ?_
      refine sp_Rings_hangsOn (by decide) (by decide) hH hWb ?_
      refine ⟨_, rfl, ?_⟩
      refine ex_asN (a := 0) (by rw [if_neg w1]) ?_
      refine ex_if_eqN (tgt := 106) dX5_growBy_99 (by decide) (by omega) (fun hv99 => ?_) (fun hv99 => by exact absurd hv99 (by decide))
      refine ex_iconst (v := nI 0) dX5_growBy_106 (by decide) ?_
      refine ex_iorN dX5_growBy_107 ?_
      refine ex_istore (L' := [some (.ref (27)), some (.int (nI (r))), some (.int (nI (sy r 0))), some (.int (nI (tr (sy r 0)))), some (.int (nI ((((tr (sy r 0)) ||| 4) ||| 0) ||| 0)))]) dX5_growBy_108 (by decide) rfl ?_
      refine ex_aload_n (i := 0) dX5_growBy_110 rfl rfl ?_
      refine ex_getR (v := .ref (28)) dX5_growBy_111 fl_Rings_20 rfl rfl (l56 (by decide)) rfl ?_
      refine ex_iload_n (i := 2) dX5_growBy_114 rfl rfl ?_
      refine ex_iload dX5_growBy_115 rfl ?_
      refine ex_cV (ν := m_Row_set) (a := 28) (ci := 6) (as := [.int (nI (sy r 0)), .int (nI ((((tr (sy r 0)) ||| 4) ||| 0) ||| 0))]) dX5_growBy_117 ln_Rings_34 mf_Row_set rfl (l56 (by decide)) rfl rfl np_Row_set rfl rfl ⟨(Nat.le_of_ble_eq_true rfl), (Nat.le_of_ble_eq_true rfl), (Nat.le_of_ble_eq_true rfl), (Nat.le_of_ble_eq_true rfl)⟩ (by decide) ?_
      refine sp_Row_set (r := 28) (c := 29) rfl rfl rfl (l56 (by decide)) (l56 (by decide)) (by omega) ?_
      refine ⟨_, rfl, ?_⟩
      refine ex_iload dX5_growBy_120 rfl ?_
      refine ex_iload_n (i := 3) dX5_growBy_122 rfl rfl ?_
      refine ex_icmp_eqN (tgt := 130) dX5_growBy_123 (by decide) (by omega) (by omega) (fun hv123 => ?_) (fun hv123 => ?_)
      · refine ex_iconst (v := nI 0) dX5_growBy_130 (by decide) ?_
        refine ex_iret dX5_growBy_131 rfl (by decide) ?_
        first | (rw [if_pos (by assumption)] at hq2; exact hq2) | (rw [if_neg (by assumption)] at hq2; exact hq2)
      · refine ex_iconst (v := nI 1) dX5_growBy_126 (by decide) ?_
        refine ex_goto (tgt := 131) dX5_growBy_127 (by decide) ?_
        refine ex_iret dX5_growBy_131 rfl (by decide) ?_
        first | (rw [if_pos (by assumption)] at hq2; exact hq2) | (rw [if_neg (by assumption)] at hq2; exact hq2)
  refine ex_aload_n (i := 0) dX5_growBy_0 rfl rfl ?_
  refine ex_iload_n (i := 1) dX5_growBy_1 rfl rfl ?_
  refine ex_cV (ν := m_Rings_readEquations) (a := 27) (ci := 5) (as := [.int (nI (r))]) dX5_growBy_2 ln_Rings_63 mf_Rings_readEquations rfl (l56 (by decide)) rfl rfl np_Rings_readEquations rfl rfl ⟨(Nat.le_of_ble_eq_true rfl), (Nat.le_of_ble_eq_true rfl), (Nat.le_of_ble_eq_true rfl), (Nat.le_of_ble_eq_true rfl)⟩ (by decide) ?_
  refine sp_Rings_readEquations sc es hr14 (fun i1 k1 k2 => ?_)
  refine ⟨_, rfl, ?_⟩
  have sc1 := SC_Fr (by decide) k1 sc
  have gs1 := gs.fr k1 (by decide) (by decide)
  have htr1 := htr.fr k1 (by decide)
  refine ex_aload_n (i := 0) dX5_growBy_5 rfl rfl ?_
  refine ex_iload_n (i := 1) dX5_growBy_6 rfl rfl ?_
  refine ex_cV (ν := m_Rings_readChildren) (a := 27) (ci := 5) (as := [.int (nI (r))]) dX5_growBy_7 ln_Rings_66 mf_Rings_readChildren rfl (l56 (by decide)) rfl rfl np_Rings_readChildren rfl rfl ⟨(Nat.le_of_ble_eq_true rfl), (Nat.le_of_ble_eq_true rfl), (Nat.le_of_ble_eq_true rfl), (Nat.le_of_ble_eq_true rfl)⟩ (by decide) ?_
  refine sp_Rings_readChildren (tr := tr) sc1 gs1 hr14 htr1 htb k2 (fun i2 k3 k4 => ?_)
  refine ⟨_, rfl, ?_⟩
  refine ex_iconst (v := nI 0) dX5_growBy_10 (by decide) ?_
  refine ex_istore_n (L' := [some (.ref (27)), some (.int (nI (r))), some (.int (nI (0))), none, none]) dX5_growBy_11 (i := 2) rfl (by decide) rfl ?_
  refine ex_less (L' := [some (.ref 27), some (.int (nI r)), some (.int (nI 0)), none, none]) (by simp [xSub]) ?_
  refine lp_Rings_growBy1 (i := i) hHb (fun i3 k5 k6 => ?_) 15 0 i2 (by omega) (k1.tr k3) k4
  refine ex_iconst (v := nI 0) dX5_growBy_29 (by decide) ?_
  refine ex_istore_n (L' := [some (.ref 27), some (.int (nI r)), some (.int (nI 0)), none, none]) dX5_growBy_30 (i := 2) rfl (by decide) rfl ?_
  refine lp_Rings_growBy2 (i := i3) (fd := fd) hWb (fun i4 f k7 k8 k9 k10 => ?_) 15 0 i3 fd (by omega) Fr.rf (by rw [k5 27 (by decide)]; exact hfd) hfd2 ⟨fun h => Or.inl h, fun h => h.elim id (fun ⟨p, a, _⟩ => by omega)⟩ k6
  exact last i4 f ((k5.mono (by decide)).tr (k7.mono (by decide))) (k6.fr k7 (by decide)) k8 k9 k10
end S34
