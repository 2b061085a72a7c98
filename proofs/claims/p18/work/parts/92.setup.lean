/-! ===== the law: its grammar ===== -/
theorem nt_1 {s : Nat} (h : 8 ≤ s ∧ s ≤ 13) : ntX (nI s) = 1 := by
  unfold ntX
  rw [nI_toInt (by omega), if_pos (by omega)]
theorem sm_1 {s : Nat} (h : 1 ≤ s ∧ s ≤ 6 ∨ 8 ≤ s ∧ s ≤ 13) : smX (nI s) = 1 := by
  unfold smX
  rcases h with h | h
  · have : tmX (nI s) = 1 := by
      unfold tmX
      rw [nI_toInt (by omega), if_pos (by omega)]
    rw [this, if_neg (by omega)]
  · rw [nt_1 h, if_neg (by omega)]
theorem mf_1 {x y : Nat} (hx : x ≤ 13) (hy : y ≤ 13) (h : y = 0 ∨ x ≠ 0 ∧ (1 ≤ y ∧ y ≤ 6 ∨ 8 ≤ y ∧ y ≤ 13)) : mfX (nI x) (nI y) = 1 := by
  unfold mfX
  have n0 : ∀ k, k ≤ 13 → (nI k = 0 ↔ k = 0) := fun k hk => by rw [← nI_0]; exact nI_eq (by omega) (by decide)
  by_cases c : y = 0
  · rw [if_pos ((n0 y hy).mpr c)]
  · obtain ⟨h1, h2⟩ := h.resolve_left c
    rw [if_neg (fun z => c ((n0 y hy).mp z)), if_neg (fun z => h1 ((n0 x hx).mp z)), sm_1 h2]
theorem rlX_of {z : Nat → Nat} (hz : okZ z) : rlX (nI (z 0)) (nI (z 1)) (nI (z 2)) (nI (z 3)) (nI (z 4)) := by
  obtain ⟨z0, z1, z2⟩ := hz
  have le : ∀ k, 1 ≤ k → k < 5 → z k ≤ 13 := fun k a b => by have := z1 k a b; omega
  have st : ∀ k, 1 ≤ k → k < 4 → z (k + 1) = 0 ∨ z k ≠ 0 ∧ (1 ≤ z (k + 1) ∧ z (k + 1) ≤ 6 ∨ 8 ≤ z (k + 1) ∧ z (k + 1) ≤ 13) := fun k a b => by
    rcases z1 (k + 1) (by omega) (by omega) with h | h
    · exact Or.inl h
    · exact Or.inr ⟨fun e => by have := z2 k a b e; omega, h⟩
  refine ⟨by rw [nt_1 z0]; decide, ?_, ?_, ?_, ?_⟩
  · rcases z1 1 (by decide) (by decide) with h | h
    · left; rw [h]; rfl
    · right; rw [sm_1 h]; decide
  · rw [mf_1 (le 1 (by decide) (by decide)) (le 2 (by decide) (by decide)) (st 1 (by decide) (by decide))]; decide
  · rw [mf_1 (le 2 (by decide) (by decide)) (le 3 (by decide) (by decide)) (st 2 (by decide) (by decide))]; decide
  · rw [mf_1 (le 3 (by decide) (by decide)) (le 4 (by decide) (by decide)) (st 3 (by decide) (by decide))]; decide
/-- rules as a table tells -/
def LVT (xs : Nat → Int32) (L : Nat) (i : Nat → Nat → Int32) (n : Nat) (tb : Nat → Nat → Nat) : Prop := ∃ sy, LV xs L i n sy ∧ ∀ r k, r < n → k < 5 → sy r k = tb r k
theorem LVT.fr {xs : Nat → Int32} {L n : Nat} {tb : Nat → Nat → Nat} {i i1 : Nat → Nat → Int32} {l : List Nat} (h : LVT xs L i n tb) (hf : Fr l i i1) (hl : ∀ c ∈ l, 56 ≤ c ∧ c < 4096) : LVT xs L i1 n tb := by
  obtain ⟨sy, a, b⟩ := h
  exact ⟨sy, a.fr hf hl, b⟩
section S92
variable {ζ g : Nat} {i : Nat → Nat → Int32} {q : Nat → Nat → Int64} {t : Bool} {Q : xRes → xMem → Prop} {n : Nat} {tb : Nat → Nat → Nat} {xs : Nat → Int32} {L : Nat}
theorem sp_lv_rule {l a b c d : Nat} (hv : LVT xs L i n tb) (hn : n < 14) (hz : okZ (tb n)) (e0 : tb n 0 = l) (e1 : tb n 1 = a) (e2 : tb n 2 = b) (e3 : tb n 3 = c) (e4 : tb n 4 = d) (hQ : ∀ i1, LVT xs L i1 (n + 1) tb → Fr [0, 1, 3, 9] i i1 → Q (.ok (some (.int (nI n)))) (56 + ζ, g, i1, q, RT t)) :
    Wx m_Law_rule 0 [some (.ref 0), some (.int (nI l)), some (.int (nI a)), some (.int (nI b)), some (.int (nI c)), some (.int (nI d)), none] [] (56 + ζ, g, i, q, RT t) (1, 6) Q := by
  subst e0 e1 e2 e3 e4
  obtain ⟨sy, ⟨v1, v2, v3, ⟨f, v4, v5⟩, v6, v7, v8, ⟨v9, v10⟩, v11, v12⟩, htb⟩ := hv
  refine sp_Law_rule (sp_Works_rule v1 v3 v4 v5 (fun r => absurd (rlX_of hz) r) (fun _ h => by omega) (fun z i1 f1 hz1 y0 y1 y2 y3 y4 _ h1 h2 h3 h4 h5 h6 h7 => WQ.ok (hQ i1 ?_ h1)))
  have le : ∀ w : Nat → Nat, okZ w → ∀ k, k < 5 → w k ≤ 13 := fun w hw k hk => by
    by_cases k0 : k = 0
    · rw [k0]; exact hw.1.2
    · have := hw.2.1 k (by omega) hk; omega
  have ez : ∀ k, k < 5 → z k = tb n k := fun k hk => by
    have l1 := le _ hz k hk
    have l2 := le _ hz1 k hk
    rcases (show k = 0 ∨ k = 1 ∨ k = 2 ∨ k = 3 ∨ k = 4 by omega) with rfl | rfl | rfl | rfl | rfl
    · exact ((nI_eq (by omega) (by omega)).mp y0).symm
    · exact ((nI_eq (by omega) (by omega)).mp y1).symm
    · exact ((nI_eq (by omega) (by omega)).mp y2).symm
    · exact ((nI_eq (by omega) (by omega)).mp y3).symm
    · exact ((nI_eq (by omega) (by omega)).mp y4).symm
  refine ⟨syA n sy z, ⟨SC_Fr (l := [0, 1, 3, 9]) rfl h1 v1, ⟨?_, fun s hs => by rw [h1 24 (by decide)]; exact v2.2 s hs⟩, h5, ⟨f1, h6, h7⟩, v6.fr h1 (by decide) (by decide) (by decide), v7.fr h1 (by decide), v8.fr h1 (by decide), ⟨h2, by rw [h1 32 (by decide)]; exact v10⟩, by rw [h1 4096 (by decide)]; exact v11, by rw [h1 4097 (by decide)]; exact v12⟩, fun r k hr hk => ?_⟩
  · obtain ⟨F, a1, a2⟩ := v2.1
    exact ⟨F, a1.fr h1 (by decide), a2⟩
  · unfold syA
    by_cases c : r = n
    · rw [if_pos c, c]; exact ez k hk
    · rw [if_neg c, if_neg (by omega)]; exact htb r k (by omega) hk
/-- the grammar of sums, products and brackets -/
def stb (r k : Nat) : Nat := ([[8, 8, 1, 9, 0], [8, 9, 0, 0, 0], [9, 9, 2, 10, 0], [9, 10, 0, 0, 0], [10, 4, 8, 5, 0], [10, 3, 0, 0, 0]].getD r []).getD k 0
theorem stb_ok {r : Nat} (hr : r < 6) : okZ (stb r) := by
  have h : ∀ r : Fin 6, (8 ≤ stb r.val 0 ∧ stb r.val 0 ≤ 13) ∧ (∀ k : Fin 5, 1 ≤ k.val → stb r.val k.val = 0 ∨ 1 ≤ stb r.val k.val ∧ stb r.val k.val ≤ 6 ∨ 8 ≤ stb r.val k.val ∧ stb r.val k.val ≤ 13) ∧ ∀ k : Fin 4, 1 ≤ k.val → stb r.val k.val = 0 → stb r.val (k.val + 1) = 0 := by decide +kernel
  obtain ⟨a, b, c⟩ := h ⟨r, hr⟩
  exact ⟨a, fun k h1 h2 => b ⟨k, h2⟩ h1, fun k h1 h2 => c ⟨k, h2⟩ h1⟩
theorem sp_Law_sums (hv : LVT xs L i 0 stb) (hQ : ∀ i1, LVT xs L i1 6 stb → Fr [0, 1, 3, 9] i i1 → Q (.ok (some (.int (nI 1)))) (56 + ζ, g, i1, q, RT t)) : Wx m_Law_sums 0 [some (.ref 0), some (.int (nI 1)), some (.int (nI 2)), some (.int (nI 3)), some (.int (nI 4)), some (.int (nI 5))] [] (56 + ζ, g, i, q, RT t) (6, 36) Q := by
  refine ex_aload_n (i := 0) dL_sums_0 rfl rfl ?_
  refine ex_bipush (v := nI 8) dL_sums_1 (by decide) ?_
  refine ex_bipush (v := nI 8) dL_sums_3 (by decide) ?_
  refine ex_iload_n (i := 1) dL_sums_5 rfl rfl ?_
  refine ex_bipush (v := nI 9) dL_sums_6 (by decide) ?_
  refine ex_iconst (v := nI 0) dL_sums_8 (by decide) ?_
  refine ex_cHL (ν := m_Law_rule) (as := [.ref (0), .int (nI (8)), .int (nI (8)), .int (nI (1)), .int (nI (9)), .int (nI (0))]) (kc := 5) (sc := 30) (by decide) (by decide) dL_sums_9 lnH_rule mfH_rule np_Law_rule rfl rfl ⟨(Nat.le_of_ble_eq_true rfl), (Nat.le_of_ble_eq_true rfl), (Nat.le_of_ble_eq_true rfl), (Nat.le_of_ble_eq_true rfl)⟩ ?_
  refine sp_lv_rule (tb := stb) (n := 0) hv (by decide) (stb_ok (by decide)) rfl rfl rfl rfl rfl (fun i1 w1 f1 => ?_)
  refine ⟨_, rfl, ⟨f1 4096 (by decide), f1 4097 (by decide)⟩, ?_⟩
  refine ex_if_neN (tgt := 61) dL_sums_12 (by decide) (by omega) (fun h12 => by exact absurd h12 (by decide)) (fun h12 => ?_)
  refine ex_aload_n (i := 0) dL_sums_15 rfl rfl ?_
  refine ex_bipush (v := nI 8) dL_sums_16 (by decide) ?_
  refine ex_bipush (v := nI 9) dL_sums_18 (by decide) ?_
  refine ex_iconst (v := nI 0) dL_sums_20 (by decide) ?_
  refine ex_iconst (v := nI 0) dL_sums_21 (by decide) ?_
  refine ex_iconst (v := nI 0) dL_sums_22 (by decide) ?_
  refine ex_cHL (ν := m_Law_rule) (as := [.ref (0), .int (nI (8)), .int (nI (9)), .int (nI (0)), .int (nI (0)), .int (nI (0))]) (kc := 4) (sc := 24) (by decide) (by decide) dL_sums_23 lnH_rule mfH_rule np_Law_rule rfl rfl ⟨(Nat.le_of_ble_eq_true rfl), (Nat.le_of_ble_eq_true rfl), (Nat.le_of_ble_eq_true rfl), (Nat.le_of_ble_eq_true rfl)⟩ ?_
  refine sp_lv_rule (tb := stb) (n := 1) w1 (by decide) (stb_ok (by decide)) rfl rfl rfl rfl rfl (fun i2 w2 f2 => ?_)
  refine ⟨_, rfl, ⟨f2 4096 (by decide), f2 4097 (by decide)⟩, ?_⟩
  refine ex_iconst (v := nI 1) dL_sums_26 (by decide) ?_
  refine ex_icmp_neN (tgt := 61) dL_sums_27 (by decide) (by decide) (by decide) (fun h27 => by exact absurd h27 (by decide)) (fun h27 => ?_)
  refine ex_aload_n (i := 0) dL_sums_30 rfl rfl ?_
  refine ex_bipush (v := nI 9) dL_sums_31 (by decide) ?_
  refine ex_bipush (v := nI 9) dL_sums_33 (by decide) ?_
  refine ex_iload_n (i := 2) dL_sums_35 rfl rfl ?_
  refine ex_bipush (v := nI 10) dL_sums_36 (by decide) ?_
  refine ex_iconst (v := nI 0) dL_sums_38 (by decide) ?_
  refine ex_cHL (ν := m_Law_rule) (as := [.ref (0), .int (nI (9)), .int (nI (9)), .int (nI (2)), .int (nI (10)), .int (nI (0))]) (kc := 3) (sc := 18) (by decide) (by decide) dL_sums_39 lnH_rule mfH_rule np_Law_rule rfl rfl ⟨(Nat.le_of_ble_eq_true rfl), (Nat.le_of_ble_eq_true rfl), (Nat.le_of_ble_eq_true rfl), (Nat.le_of_ble_eq_true rfl)⟩ ?_
  refine sp_lv_rule (tb := stb) (n := 2) w2 (by decide) (stb_ok (by decide)) rfl rfl rfl rfl rfl (fun i3 w3 f3 => ?_)
  refine ⟨_, rfl, ⟨f3 4096 (by decide), f3 4097 (by decide)⟩, ?_⟩
  refine ex_iconst (v := nI 2) dL_sums_42 (by decide) ?_
  refine ex_icmp_neN (tgt := 61) dL_sums_43 (by decide) (by decide) (by decide) (fun h43 => by exact absurd h43 (by decide)) (fun h43 => ?_)
  refine ex_aload_n (i := 0) dL_sums_46 rfl rfl ?_
  refine ex_bipush (v := nI 9) dL_sums_47 (by decide) ?_
  refine ex_bipush (v := nI 10) dL_sums_49 (by decide) ?_
  refine ex_iconst (v := nI 0) dL_sums_51 (by decide) ?_
  refine ex_iconst (v := nI 0) dL_sums_52 (by decide) ?_
  refine ex_iconst (v := nI 0) dL_sums_53 (by decide) ?_
  refine ex_cHL (ν := m_Law_rule) (as := [.ref (0), .int (nI (9)), .int (nI (10)), .int (nI (0)), .int (nI (0)), .int (nI (0))]) (kc := 2) (sc := 12) (by decide) (by decide) dL_sums_54 lnH_rule mfH_rule np_Law_rule rfl rfl ⟨(Nat.le_of_ble_eq_true rfl), (Nat.le_of_ble_eq_true rfl), (Nat.le_of_ble_eq_true rfl), (Nat.le_of_ble_eq_true rfl)⟩ ?_
  refine sp_lv_rule (tb := stb) (n := 3) w3 (by decide) (stb_ok (by decide)) rfl rfl rfl rfl rfl (fun i4 w4 f4 => ?_)
  refine ⟨_, rfl, ⟨f4 4096 (by decide), f4 4097 (by decide)⟩, ?_⟩
  refine ex_iconst (v := nI 3) dL_sums_57 (by decide) ?_
  refine ex_icmp_eqN (tgt := 63) dL_sums_58 (by decide) (by decide) (by decide) (fun h58 => ?_) (fun h58 => by exact absurd h58 (by decide))
  refine ex_aload_n (i := 0) dL_sums_63 rfl rfl ?_
  refine ex_bipush (v := nI 10) dL_sums_64 (by decide) ?_
  refine ex_iload dL_sums_66 rfl ?_
  refine ex_bipush (v := nI 8) dL_sums_68 (by decide) ?_
  refine ex_iload dL_sums_70 rfl ?_
  refine ex_iconst (v := nI 0) dL_sums_72 (by decide) ?_
  refine ex_cHL (ν := m_Law_rule) (as := [.ref (0), .int (nI (10)), .int (nI (4)), .int (nI (8)), .int (nI (5)), .int (nI (0))]) (kc := 1) (sc := 6) (by decide) (by decide) dL_sums_73 lnH_rule mfH_rule np_Law_rule rfl rfl ⟨(Nat.le_of_ble_eq_true rfl), (Nat.le_of_ble_eq_true rfl), (Nat.le_of_ble_eq_true rfl), (Nat.le_of_ble_eq_true rfl)⟩ ?_
  refine sp_lv_rule (tb := stb) (n := 4) w4 (by decide) (stb_ok (by decide)) rfl rfl rfl rfl rfl (fun i5 w5 f5 => ?_)
  refine ⟨_, rfl, ⟨f5 4096 (by decide), f5 4097 (by decide)⟩, ?_⟩
  refine ex_iconst (v := nI 4) dL_sums_76 (by decide) ?_
  refine ex_icmp_neN (tgt := 98) dL_sums_77 (by decide) (by decide) (by decide) (fun h77 => by exact absurd h77 (by decide)) (fun h77 => ?_)
  refine ex_aload_n (i := 0) dL_sums_80 rfl rfl ?_
  refine ex_bipush (v := nI 10) dL_sums_81 (by decide) ?_
  refine ex_iload_n (i := 3) dL_sums_83 rfl rfl ?_
  refine ex_iconst (v := nI 0) dL_sums_84 (by decide) ?_
  refine ex_iconst (v := nI 0) dL_sums_85 (by decide) ?_
  refine ex_iconst (v := nI 0) dL_sums_86 (by decide) ?_
  refine ex_cHL (ν := m_Law_rule) (as := [.ref (0), .int (nI (10)), .int (nI (3)), .int (nI (0)), .int (nI (0)), .int (nI (0))]) (kc := 0) (sc := 0) (by decide) (by decide) dL_sums_87 lnH_rule mfH_rule np_Law_rule rfl rfl ⟨(Nat.le_of_ble_eq_true rfl), (Nat.le_of_ble_eq_true rfl), (Nat.le_of_ble_eq_true rfl), (Nat.le_of_ble_eq_true rfl)⟩ ?_
  refine sp_lv_rule (tb := stb) (n := 5) w5 (by decide) (stb_ok (by decide)) rfl rfl rfl rfl rfl (fun i6 w6 f6 => ?_)
  refine ⟨_, rfl, ⟨f6 4096 (by decide), f6 4097 (by decide)⟩, ?_⟩
  refine ex_iconst (v := nI 5) dL_sums_90 (by decide) ?_
  refine ex_icmp_neN (tgt := 98) dL_sums_91 (by decide) (by decide) (by decide) (fun h91 => by exact absurd h91 (by decide)) (fun h91 => ?_)
  refine ex_iconst (v := nI 1) dL_sums_94 (by decide) ?_
  refine ex_goto (tgt := 99) dL_sums_95 (by decide) ?_
  refine ex_iret dL_sums_99 rfl (by decide) ?_
  exact hQ i6 w6 (((((f1.tr f2).tr f3).tr f4).tr f5).tr f6)
end S92
/-- the law's own table of rules -/
def AR (i : Nat → Nat → Int32) (n : Nat) (sy : Nat → Nat → Nat) : Prop := (∀ r, r < n → i 56 r = nI (sy r 0)) ∧ ∀ r k, r < n → k < 4 → i 57 (4 * r + k) = nI (sy r (k + 1))
abbrev NXT (xs : Nat → Int32) (L : Nat) (Q : xRes → xMem → Prop) : Prop := ∀ n sy i, 1 ≤ n → n ≤ 6 → LV xs L i n sy → AR i n sy → sy 0 0 = 8 → Wx m_Law_law 327 [some (.ref 4096), some (.ref 0), none, some (.int (nI n)), some (.ref 56), some (.ref 57), none, none, none, none, none, none, none, none, none] [] (58, 0, i, q0L, RT false) (900, 9000) Q
theorem lw_sums {xs : Nat → Int32} {L : Nat} {Q : xRes → xMem → Prop} (hN : NXT xs L Q) : Wx m_Law_law 56 [some (.ref 4096), some (.ref 0), some (.int (nI 1)), some (.int (nI 6)), some (.ref 56), some (.ref 57), none, none, none, none, none, none, none, none, none] [] (58, 0, iB (i0L xs L) IWl, q0L, RT false) (1000, 10000) Q := by
  have hv : LVT xs L (iB (i0L xs L) IWl) 0 stb := ⟨_, LV_0, fun r k h => by omega⟩
  refine ex_iload_n (i := 2) dL_law_56 rfl rfl ?_
  refine ex_if_eqN (tgt := 74) dL_law_57 (by decide) (by decide) (fun h57 => by exact absurd h57 (by decide)) (fun h57 => ?_)
  refine ex_aload_n (i := 1) dL_law_60 rfl rfl ?_
  refine ex_iconst (v := nI 1) dL_law_61 (by decide) ?_
  refine ex_iconst (v := nI 2) dL_law_62 (by decide) ?_
  refine ex_iconst (v := nI 3) dL_law_63 (by decide) ?_
  refine ex_iconst (v := nI 4) dL_law_64 (by decide) ?_
  refine ex_iconst (v := nI 5) dL_law_65 (by decide) ?_
  refine ex_cKL (ν := m_Law_sums) (as := [.ref (0), .int (nI (1)), .int (nI (2)), .int (nI (3)), .int (nI (4)), .int (nI (5))]) (kc := 900) (sc := 9000) (k1 := 6) (s1 := 36) (by decide) (by decide) dL_law_66 ln_Law_52 mf_Law_sums np_Law_sums rfl rfl ⟨(Nat.le_of_ble_eq_true rfl), (Nat.le_of_ble_eq_true rfl), (Nat.le_of_ble_eq_true rfl), (Nat.le_of_ble_eq_true rfl)⟩ ?_
  refine sp_Law_sums (ζ := 2) hv (fun i1 w1 f1 => ?_)
  refine ⟨_, rfl, ⟨f1 4096 (by decide), f1 4097 (by decide)⟩, ?_⟩
  refine ex_if_neN (tgt := 74) dL_law_69 (by decide) (by decide) (fun h69 => ?_) (fun h69 => by exact absurd h69 (by decide))
  refine ex_iconst (v := nI 0) dL_law_74 (by decide) ?_
  refine ex_istore (L' := [some (.ref (4096)), some (.ref (0)), some (.int (nI (1))), some (.int (nI (6))), some (.ref (56)), some (.ref (57)), some (.int (nI (0))), none, none, none, none, none, none, none, none]) dL_law_75 (by decide) rfl ?_
  refine ex_iload dL_law_77 rfl ?_
  refine ex_iload_n (i := 3) dL_law_79 rfl rfl ?_
  refine ex_icmp_geN (tgt := 186) dL_law_80 (by decide) (by decide) (by decide) (fun h80 => by exact absurd h80 (by decide)) (fun h80 => ?_)
  refine ex_iload_n (i := 2) dL_law_83 rfl rfl ?_
  refine ex_if_neN (tgt := 186) dL_law_84 (by decide) (by decide) (fun h84 => ?_) (fun h84 => by exact absurd h84 (by decide))
  refine ex_iload_n (i := 2) dL_law_186 rfl rfl ?_
  refine ex_if_eqN (tgt := 327) dL_law_187 (by decide) (by decide) (fun h187 => by exact absurd h187 (by decide)) (fun h187 => ?_)
  refine ex_iconst (v := nI 0) dL_law_190 (by decide) ?_
  refine ex_istore (L' := [some (.ref (4096)), some (.ref (0)), some (.int (nI (1))), some (.int (nI (6))), some (.ref (56)), some (.ref (57)), some (.int (nI (0))), none, none, none, none, none, none, none, none]) dL_law_191 (by decide) rfl ?_
  refine ex_iload dL_law_193 rfl ?_
  refine ex_bipush (v := nI 6) dL_law_195 (by decide) ?_
  refine ex_icmp_geN (tgt := 218) dL_law_197 (by decide) (by decide) (by decide) (fun h197 => by exact absurd h197 (by decide)) (fun h197 => ?_)
  refine ex_aload dL_law_200 rfl ?_
  refine ex_iload dL_law_202 rfl ?_
  refine ex_bipush (v := nI 8) dL_law_204 (by decide) ?_
  refine ex_iload dL_law_206 rfl ?_
  refine ex_iconst (v := nI 2) dL_law_208 (by decide) ?_
  refine ex_idivN dL_law_209 (by decide) (by decide) (by decide) ?_
  refine ex_iaddN dL_law_210 ?_
  refine ex_iastN dL_law_211 rfl (by decide) (by decide) ?_
  refine ex_iincN (L' := [some (.ref (4096)), some (.ref (0)), some (.int (nI (1))), some (.int (nI (6))), some (.ref (56)), some (.ref (57)), some (.int (nI (1))), none, none, none, none, none, none, none, none]) dL_law_212 rfl rfl (by decide) rfl ?_
  refine ex_goto (tgt := 193) dL_law_215 (by decide) ?_
  refine ex_iload dL_law_193 rfl ?_
  refine ex_bipush (v := nI 6) dL_law_195 (by decide) ?_
  refine ex_icmp_geN (tgt := 218) dL_law_197 (by decide) (by decide) (by decide) (fun h197 => by exact absurd h197 (by decide)) (fun h197 => ?_)
  refine ex_aload dL_law_200 rfl ?_
  refine ex_iload dL_law_202 rfl ?_
  refine ex_bipush (v := nI 8) dL_law_204 (by decide) ?_
  refine ex_iload dL_law_206 rfl ?_
  refine ex_iconst (v := nI 2) dL_law_208 (by decide) ?_
  refine ex_idivN dL_law_209 (by decide) (by decide) (by decide) ?_
  refine ex_iaddN dL_law_210 ?_
  refine ex_iastN dL_law_211 rfl (by decide) (by decide) ?_
  refine ex_iincN (L' := [some (.ref (4096)), some (.ref (0)), some (.int (nI (1))), some (.int (nI (6))), some (.ref (56)), some (.ref (57)), some (.int (nI (2))), none, none, none, none, none, none, none, none]) dL_law_212 rfl rfl (by decide) rfl ?_
  refine ex_goto (tgt := 193) dL_law_215 (by decide) ?_
  refine ex_iload dL_law_193 rfl ?_
  refine ex_bipush (v := nI 6) dL_law_195 (by decide) ?_
  refine ex_icmp_geN (tgt := 218) dL_law_197 (by decide) (by decide) (by decide) (fun h197 => by exact absurd h197 (by decide)) (fun h197 => ?_)
  refine ex_aload dL_law_200 rfl ?_
  refine ex_iload dL_law_202 rfl ?_
  refine ex_bipush (v := nI 8) dL_law_204 (by decide) ?_
  refine ex_iload dL_law_206 rfl ?_
  refine ex_iconst (v := nI 2) dL_law_208 (by decide) ?_
  refine ex_idivN dL_law_209 (by decide) (by decide) (by decide) ?_
  refine ex_iaddN dL_law_210 ?_
  refine ex_iastN dL_law_211 rfl (by decide) (by decide) ?_
  refine ex_iincN (L' := [some (.ref (4096)), some (.ref (0)), some (.int (nI (1))), some (.int (nI (6))), some (.ref (56)), some (.ref (57)), some (.int (nI (3))), none, none, none, none, none, none, none, none]) dL_law_212 rfl rfl (by decide) rfl ?_
  refine ex_goto (tgt := 193) dL_law_215 (by decide) ?_
  refine ex_iload dL_law_193 rfl ?_
  refine ex_bipush (v := nI 6) dL_law_195 (by decide) ?_
  refine ex_icmp_geN (tgt := 218) dL_law_197 (by decide) (by decide) (by decide) (fun h197 => by exact absurd h197 (by decide)) (fun h197 => ?_)
  refine ex_aload dL_law_200 rfl ?_
  refine ex_iload dL_law_202 rfl ?_
  refine ex_bipush (v := nI 8) dL_law_204 (by decide) ?_
  refine ex_iload dL_law_206 rfl ?_
  refine ex_iconst (v := nI 2) dL_law_208 (by decide) ?_
  refine ex_idivN dL_law_209 (by decide) (by decide) (by decide) ?_
  refine ex_iaddN dL_law_210 ?_
  refine ex_iastN dL_law_211 rfl (by decide) (by decide) ?_
  refine ex_iincN (L' := [some (.ref (4096)), some (.ref (0)), some (.int (nI (1))), some (.int (nI (6))), some (.ref (56)), some (.ref (57)), some (.int (nI (4))), none, none, none, none, none, none, none, none]) dL_law_212 rfl rfl (by decide) rfl ?_
  refine ex_goto (tgt := 193) dL_law_215 (by decide) ?_
  refine ex_iload dL_law_193 rfl ?_
  refine ex_bipush (v := nI 6) dL_law_195 (by decide) ?_
  refine ex_icmp_geN (tgt := 218) dL_law_197 (by decide) (by decide) (by decide) (fun h197 => by exact absurd h197 (by decide)) (fun h197 => ?_)
  refine ex_aload dL_law_200 rfl ?_
  refine ex_iload dL_law_202 rfl ?_
  refine ex_bipush (v := nI 8) dL_law_204 (by decide) ?_
  refine ex_iload dL_law_206 rfl ?_
  refine ex_iconst (v := nI 2) dL_law_208 (by decide) ?_
  refine ex_idivN dL_law_209 (by decide) (by decide) (by decide) ?_
  refine ex_iaddN dL_law_210 ?_
  refine ex_iastN dL_law_211 rfl (by decide) (by decide) ?_
  refine ex_iincN (L' := [some (.ref (4096)), some (.ref (0)), some (.int (nI (1))), some (.int (nI (6))), some (.ref (56)), some (.ref (57)), some (.int (nI (5))), none, none, none, none, none, none, none, none]) dL_law_212 rfl rfl (by decide) rfl ?_
  refine ex_goto (tgt := 193) dL_law_215 (by decide) ?_
  refine ex_iload dL_law_193 rfl ?_
  refine ex_bipush (v := nI 6) dL_law_195 (by decide) ?_
  refine ex_icmp_geN (tgt := 218) dL_law_197 (by decide) (by decide) (by decide) (fun h197 => by exact absurd h197 (by decide)) (fun h197 => ?_)
  refine ex_aload dL_law_200 rfl ?_
  refine ex_iload dL_law_202 rfl ?_
  refine ex_bipush (v := nI 8) dL_law_204 (by decide) ?_
  refine ex_iload dL_law_206 rfl ?_
  refine ex_iconst (v := nI 2) dL_law_208 (by decide) ?_
  refine ex_idivN dL_law_209 (by decide) (by decide) (by decide) ?_
  refine ex_iaddN dL_law_210 ?_
  refine ex_iastN dL_law_211 rfl (by decide) (by decide) ?_
  refine ex_iincN (L' := [some (.ref (4096)), some (.ref (0)), some (.int (nI (1))), some (.int (nI (6))), some (.ref (56)), some (.ref (57)), some (.int (nI (6))), none, none, none, none, none, none, none, none]) dL_law_212 rfl rfl (by decide) rfl ?_
  refine ex_goto (tgt := 193) dL_law_215 (by decide) ?_
  refine ex_iload dL_law_193 rfl ?_
  refine ex_bipush (v := nI 6) dL_law_195 (by decide) ?_
  refine ex_icmp_geN (tgt := 218) dL_law_197 (by decide) (by decide) (by decide) (fun h197 => ?_) (fun h197 => by exact absurd h197 (by decide))
  refine ex_iconst (v := nI 0) dL_law_218 (by decide) ?_
  refine ex_istore (L' := [some (.ref (4096)), some (.ref (0)), some (.int (nI (1))), some (.int (nI (6))), some (.ref (56)), some (.ref (57)), some (.int (nI (0))), none, none, none, none, none, none, none, none]) dL_law_219 (by decide) rfl ?_
  refine ex_iload dL_law_221 rfl ?_
  refine ex_bipush (v := nI 6) dL_law_223 (by decide) ?_
  refine ex_icmp_geN (tgt := 290) dL_law_225 (by decide) (by decide) (by decide) (fun h225 => by exact absurd h225 (by decide)) (fun h225 => ?_)
  refine ex_aload dL_law_228 rfl ?_
  refine ex_iconst (v := nI 4) dL_law_230 (by decide) ?_
  refine ex_iload dL_law_231 rfl ?_
  refine ex_imulN dL_law_233 ?_
  refine ex_iload dL_law_234 rfl ?_
  refine ex_if_neN (tgt := 244) dL_law_236 (by decide) (by decide) (fun h236 => by exact absurd h236 (by decide)) (fun h236 => ?_)
  refine ex_bipush (v := nI 8) dL_law_239 (by decide) ?_
  refine ex_goto (tgt := 283) dL_law_241 (by decide) ?_
  refine ex_iastN dL_law_283 rfl (by decide) (by decide) ?_
  refine ex_iincN (L' := [some (.ref (4096)), some (.ref (0)), some (.int (nI (1))), some (.int (nI (6))), some (.ref (56)), some (.ref (57)), some (.int (nI (1))), none, none, none, none, none, none, none, none]) dL_law_284 rfl rfl (by decide) rfl ?_
  refine ex_goto (tgt := 221) dL_law_287 (by decide) ?_
  refine ex_iload dL_law_221 rfl ?_
  refine ex_bipush (v := nI 6) dL_law_223 (by decide) ?_
  refine ex_icmp_geN (tgt := 290) dL_law_225 (by decide) (by decide) (by decide) (fun h225 => by exact absurd h225 (by decide)) (fun h225 => ?_)
  refine ex_aload dL_law_228 rfl ?_
  refine ex_iconst (v := nI 4) dL_law_230 (by decide) ?_
  refine ex_iload dL_law_231 rfl ?_
  refine ex_imulN dL_law_233 ?_
  refine ex_iload dL_law_234 rfl ?_
  refine ex_if_neN (tgt := 244) dL_law_236 (by decide) (by decide) (fun h236 => ?_) (fun h236 => by exact absurd h236 (by decide))
  refine ex_iload dL_law_244 rfl ?_
  refine ex_iconst (v := nI 1) dL_law_246 (by decide) ?_
  refine ex_icmp_eqN (tgt := 256) dL_law_247 (by decide) (by decide) (by decide) (fun h247 => ?_) (fun h247 => by exact absurd h247 (by decide))
  refine ex_bipush (v := nI 9) dL_law_256 (by decide) ?_
  refine ex_goto (tgt := 283) dL_law_258 (by decide) ?_
  refine ex_iastN dL_law_283 rfl (by decide) (by decide) ?_
  refine ex_iincN (L' := [some (.ref (4096)), some (.ref (0)), some (.int (nI (1))), some (.int (nI (6))), some (.ref (56)), some (.ref (57)), some (.int (nI (2))), none, none, none, none, none, none, none, none]) dL_law_284 rfl rfl (by decide) rfl ?_
  refine ex_goto (tgt := 221) dL_law_287 (by decide) ?_
  refine ex_iload dL_law_221 rfl ?_
  refine ex_bipush (v := nI 6) dL_law_223 (by decide) ?_
  refine ex_icmp_geN (tgt := 290) dL_law_225 (by decide) (by decide) (by decide) (fun h225 => by exact absurd h225 (by decide)) (fun h225 => ?_)
  refine ex_aload dL_law_228 rfl ?_
  refine ex_iconst (v := nI 4) dL_law_230 (by decide) ?_
  refine ex_iload dL_law_231 rfl ?_
  refine ex_imulN dL_law_233 ?_
  refine ex_iload dL_law_234 rfl ?_
  refine ex_if_neN (tgt := 244) dL_law_236 (by decide) (by decide) (fun h236 => ?_) (fun h236 => by exact absurd h236 (by decide))
  refine ex_iload dL_law_244 rfl ?_
  refine ex_iconst (v := nI 1) dL_law_246 (by decide) ?_
  refine ex_icmp_eqN (tgt := 256) dL_law_247 (by decide) (by decide) (by decide) (fun h247 => by exact absurd h247 (by decide)) (fun h247 => ?_)
  refine ex_iload dL_law_250 rfl ?_
  refine ex_iconst (v := nI 2) dL_law_252 (by decide) ?_
  refine ex_icmp_neN (tgt := 261) dL_law_253 (by decide) (by decide) (by decide) (fun h253 => by exact absurd h253 (by decide)) (fun h253 => ?_)
  refine ex_bipush (v := nI 9) dL_law_256 (by decide) ?_
  refine ex_goto (tgt := 283) dL_law_258 (by decide) ?_
  refine ex_iastN dL_law_283 rfl (by decide) (by decide) ?_
  refine ex_iincN (L' := [some (.ref (4096)), some (.ref (0)), some (.int (nI (1))), some (.int (nI (6))), some (.ref (56)), some (.ref (57)), some (.int (nI (3))), none, none, none, none, none, none, none, none]) dL_law_284 rfl rfl (by decide) rfl ?_
  refine ex_goto (tgt := 221) dL_law_287 (by decide) ?_
  refine ex_iload dL_law_221 rfl ?_
  refine ex_bipush (v := nI 6) dL_law_223 (by decide) ?_
  refine ex_icmp_geN (tgt := 290) dL_law_225 (by decide) (by decide) (by decide) (fun h225 => by exact absurd h225 (by decide)) (fun h225 => ?_)
  refine ex_aload dL_law_228 rfl ?_
  refine ex_iconst (v := nI 4) dL_law_230 (by decide) ?_
  refine ex_iload dL_law_231 rfl ?_
  refine ex_imulN dL_law_233 ?_
  refine ex_iload dL_law_234 rfl ?_
  refine ex_if_neN (tgt := 244) dL_law_236 (by decide) (by decide) (fun h236 => ?_) (fun h236 => by exact absurd h236 (by decide))
  refine ex_iload dL_law_244 rfl ?_
  refine ex_iconst (v := nI 1) dL_law_246 (by decide) ?_
  refine ex_icmp_eqN (tgt := 256) dL_law_247 (by decide) (by decide) (by decide) (fun h247 => by exact absurd h247 (by decide)) (fun h247 => ?_)
  refine ex_iload dL_law_250 rfl ?_
  refine ex_iconst (v := nI 2) dL_law_252 (by decide) ?_
  refine ex_icmp_neN (tgt := 261) dL_law_253 (by decide) (by decide) (by decide) (fun h253 => ?_) (fun h253 => by exact absurd h253 (by decide))
  refine ex_iload dL_law_261 rfl ?_
  refine ex_iconst (v := nI 3) dL_law_263 (by decide) ?_
  refine ex_icmp_neN (tgt := 272) dL_law_264 (by decide) (by decide) (by decide) (fun h264 => by exact absurd h264 (by decide)) (fun h264 => ?_)
  refine ex_bipush (v := nI 10) dL_law_267 (by decide) ?_
  refine ex_goto (tgt := 283) dL_law_269 (by decide) ?_
  refine ex_iastN dL_law_283 rfl (by decide) (by decide) ?_
  refine ex_iincN (L' := [some (.ref (4096)), some (.ref (0)), some (.int (nI (1))), some (.int (nI (6))), some (.ref (56)), some (.ref (57)), some (.int (nI (4))), none, none, none, none, none, none, none, none]) dL_law_284 rfl rfl (by decide) rfl ?_
  refine ex_goto (tgt := 221) dL_law_287 (by decide) ?_
  refine ex_iload dL_law_221 rfl ?_
  refine ex_bipush (v := nI 6) dL_law_223 (by decide) ?_
  refine ex_icmp_geN (tgt := 290) dL_law_225 (by decide) (by decide) (by decide) (fun h225 => by exact absurd h225 (by decide)) (fun h225 => ?_)
  refine ex_aload dL_law_228 rfl ?_
  refine ex_iconst (v := nI 4) dL_law_230 (by decide) ?_
  refine ex_iload dL_law_231 rfl ?_
  refine ex_imulN dL_law_233 ?_
  refine ex_iload dL_law_234 rfl ?_
  refine ex_if_neN (tgt := 244) dL_law_236 (by decide) (by decide) (fun h236 => ?_) (fun h236 => by exact absurd h236 (by decide))
  refine ex_iload dL_law_244 rfl ?_
  refine ex_iconst (v := nI 1) dL_law_246 (by decide) ?_
  refine ex_icmp_eqN (tgt := 256) dL_law_247 (by decide) (by decide) (by decide) (fun h247 => by exact absurd h247 (by decide)) (fun h247 => ?_)
  refine ex_iload dL_law_250 rfl ?_
  refine ex_iconst (v := nI 2) dL_law_252 (by decide) ?_
  refine ex_icmp_neN (tgt := 261) dL_law_253 (by decide) (by decide) (by decide) (fun h253 => ?_) (fun h253 => by exact absurd h253 (by decide))
  refine ex_iload dL_law_261 rfl ?_
  refine ex_iconst (v := nI 3) dL_law_263 (by decide) ?_
  refine ex_icmp_neN (tgt := 272) dL_law_264 (by decide) (by decide) (by decide) (fun h264 => ?_) (fun h264 => by exact absurd h264 (by decide))
  refine ex_iload dL_law_272 rfl ?_
  refine ex_iconst (v := nI 4) dL_law_274 (by decide) ?_
  refine ex_icmp_neN (tgt := 282) dL_law_275 (by decide) (by decide) (by decide) (fun h275 => by exact absurd h275 (by decide)) (fun h275 => ?_)
  refine ex_iconst (v := nI 4) dL_law_278 (by decide) ?_
  refine ex_goto (tgt := 283) dL_law_279 (by decide) ?_
  refine ex_iastN dL_law_283 rfl (by decide) (by decide) ?_
  refine ex_iincN (L' := [some (.ref (4096)), some (.ref (0)), some (.int (nI (1))), some (.int (nI (6))), some (.ref (56)), some (.ref (57)), some (.int (nI (5))), none, none, none, none, none, none, none, none]) dL_law_284 rfl rfl (by decide) rfl ?_
  refine ex_goto (tgt := 221) dL_law_287 (by decide) ?_
  refine ex_iload dL_law_221 rfl ?_
  refine ex_bipush (v := nI 6) dL_law_223 (by decide) ?_
  refine ex_icmp_geN (tgt := 290) dL_law_225 (by decide) (by decide) (by decide) (fun h225 => by exact absurd h225 (by decide)) (fun h225 => ?_)
  refine ex_aload dL_law_228 rfl ?_
  refine ex_iconst (v := nI 4) dL_law_230 (by decide) ?_
  refine ex_iload dL_law_231 rfl ?_
  refine ex_imulN dL_law_233 ?_
  refine ex_iload dL_law_234 rfl ?_
  refine ex_if_neN (tgt := 244) dL_law_236 (by decide) (by decide) (fun h236 => ?_) (fun h236 => by exact absurd h236 (by decide))
  refine ex_iload dL_law_244 rfl ?_
  refine ex_iconst (v := nI 1) dL_law_246 (by decide) ?_
  refine ex_icmp_eqN (tgt := 256) dL_law_247 (by decide) (by decide) (by decide) (fun h247 => by exact absurd h247 (by decide)) (fun h247 => ?_)
  refine ex_iload dL_law_250 rfl ?_
  refine ex_iconst (v := nI 2) dL_law_252 (by decide) ?_
  refine ex_icmp_neN (tgt := 261) dL_law_253 (by decide) (by decide) (by decide) (fun h253 => ?_) (fun h253 => by exact absurd h253 (by decide))
  refine ex_iload dL_law_261 rfl ?_
  refine ex_iconst (v := nI 3) dL_law_263 (by decide) ?_
  refine ex_icmp_neN (tgt := 272) dL_law_264 (by decide) (by decide) (by decide) (fun h264 => ?_) (fun h264 => by exact absurd h264 (by decide))
  refine ex_iload dL_law_272 rfl ?_
  refine ex_iconst (v := nI 4) dL_law_274 (by decide) ?_
  refine ex_icmp_neN (tgt := 282) dL_law_275 (by decide) (by decide) (by decide) (fun h275 => ?_) (fun h275 => by exact absurd h275 (by decide))
  refine ex_iconst (v := nI 3) dL_law_282 (by decide) ?_
  refine ex_iastN dL_law_283 rfl (by decide) (by decide) ?_
  refine ex_iincN (L' := [some (.ref (4096)), some (.ref (0)), some (.int (nI (1))), some (.int (nI (6))), some (.ref (56)), some (.ref (57)), some (.int (nI (6))), none, none, none, none, none, none, none, none]) dL_law_284 rfl rfl (by decide) rfl ?_
  refine ex_goto (tgt := 221) dL_law_287 (by decide) ?_
  refine ex_iload dL_law_221 rfl ?_
  refine ex_bipush (v := nI 6) dL_law_223 (by decide) ?_
  refine ex_icmp_geN (tgt := 290) dL_law_225 (by decide) (by decide) (by decide) (fun h225 => ?_) (fun h225 => by exact absurd h225 (by decide))
  refine ex_aload dL_law_290 rfl ?_
  refine ex_iconst (v := nI 1) dL_law_292 (by decide) ?_
  refine ex_iconst (v := nI 1) dL_law_293 (by decide) ?_
  refine ex_iastN dL_law_294 rfl (by decide) (by decide) ?_
  refine ex_aload dL_law_295 rfl ?_
  refine ex_iconst (v := nI 2) dL_law_297 (by decide) ?_
  refine ex_bipush (v := nI 9) dL_law_298 (by decide) ?_
  refine ex_iastN dL_law_300 rfl (by decide) (by decide) ?_
  refine ex_aload dL_law_301 rfl ?_
  refine ex_bipush (v := nI 9) dL_law_303 (by decide) ?_
  refine ex_iconst (v := nI 2) dL_law_305 (by decide) ?_
  refine ex_iastN dL_law_306 rfl (by decide) (by decide) ?_
  refine ex_aload dL_law_307 rfl ?_
  refine ex_bipush (v := nI 10) dL_law_309 (by decide) ?_
  refine ex_bipush (v := nI 10) dL_law_311 (by decide) ?_
  refine ex_iastN dL_law_313 rfl (by decide) (by decide) ?_
  refine ex_aload dL_law_314 rfl ?_
  refine ex_bipush (v := nI 17) dL_law_316 (by decide) ?_
  refine ex_bipush (v := nI 8) dL_law_318 (by decide) ?_
  refine ex_iastN dL_law_320 rfl (by decide) (by decide) ?_
  refine ex_aload dL_law_321 rfl ?_
  refine ex_bipush (v := nI 18) dL_law_323 (by decide) ?_
  refine ex_iconst (v := nI 5) dL_law_325 (by decide) ?_
  refine ex_iastN dL_law_326 rfl (by decide) (by decide) ?_
  obtain ⟨sy, w2, w3⟩ := w1
  have z57 : ∀ j, i1 57 j = nI 0 := fun j => by rw [f1 57 (by decide)]; exact iW0 rfl (by decide) j
  refine ex_less (L' := [some (.ref 4096), some (.ref 0), none, some (.int (nI 6)), some (.ref 56), some (.ref 57), none, none, none, none, none, none, none, none, none]) ⟨rfl, rfl, rfl, rfl, rfl, trivial⟩ ?_
  refine hN 6 sy _ (by decide) (by decide) (LV.fr (l := [56, 57]) w2 ?_ (by decide)) ⟨fun r hr => ?_, fun r k hr hk => ?_⟩ (w3 0 0 (by decide) (by decide))
  · repeat first | exact Fr.rf | refine Fr.U ?_ (by decide)
  · rw [w3 r 0 hr (by decide)]
    rcases (show r = 0 ∨ r = 1 ∨ r = 2 ∨ r = 3 ∨ r = 4 ∨ r = 5 by omega) with rfl | rfl | rfl | rfl | rfl | rfl <;> rfl
  · rw [w3 r (k + 1) hr (by omega)]
    rcases (show r = 0 ∨ r = 1 ∨ r = 2 ∨ r = 3 ∨ r = 4 ∨ r = 5 by omega) with rfl | rfl | rfl | rfl | rfl | rfl <;> rcases (show k = 0 ∨ k = 1 ∨ k = 2 ∨ k = 3 by omega) with rfl | rfl | rfl | rfl <;> first | rfl | exact z57 _
theorem lw_rules {xs : Nat → Int32} {L rl : Nat} {Q : xRes → xMem → Prop} (hL3 : L ≤ 260) (hr1 : 1 ≤ rl) (hr4 : rl ≤ 4) (hN : NXT xs L Q) : Wx m_Law_law 56 [some (.ref 4096), some (.ref 0), some (.int (nI 0)), some (.int (nI rl)), some (.ref 56), some (.ref 57), none, none, none, none, none, none, none, none, none] [] (58, 0, iB (i0L xs L) IWl, q0L, RT false) (1000, 10000) Q := by
  have hv : LVT xs L (iB (i0L xs L) IWl) 0 (ptL xs L) := ⟨_, LV_0, fun r k h => by omega⟩
  have loop : ∀ d r i x7, r + d = rl → LVT xs L i r (ptL xs L) → AR i r (ptL xs L) → Wx m_Law_law 77 [some (.ref 4096), some (.ref 0), some (.int (nI 0)), some (.int (nI rl)), some (.ref 56), some (.ref 57), some (.int (nI r)), x7, none, none, none, none, none, none, none] [] (58, 0, i, q0L, RT false) (900 + d, 9000 + 6 * d) Q := by
    intro d
    induction d with
    | zero =>
      intro r i x7 hd hv ha
      have er : r = rl := by omega
      subst er
      refine ex_less (L' := [some (.ref 4096), some (.ref 0), some (.int (nI 0)), some (.int (nI r)), some (.ref 56), some (.ref 57), some (.int (nI r)), none, none, none, none, none, none, none, none]) ⟨rfl, rfl, rfl, rfl, rfl, rfl, rfl, trivial⟩ ?_
      refine ex_iload dL_law_77 rfl ?_
      refine ex_iload_n (i := 3) dL_law_79 rfl rfl ?_
      refine ex_icmp_geN (tgt := 186) dL_law_80 (by decide) (by omega) (by omega) (fun h80 => ?_) (fun h80 => by omega)
      refine ex_iload_n (i := 2) dL_law_186 rfl rfl ?_
      refine ex_if_eqN (tgt := 327) dL_law_187 (by decide) (by omega) (fun h187 => ?_) (fun h187 => by exact absurd h187 (by decide))
      obtain ⟨sy, w2, w3⟩ := hv
      refine ex_less (L' := [some (.ref 4096), some (.ref 0), none, some (.int (nI r)), some (.ref 56), some (.ref 57), none, none, none, none, none, none, none, none, none]) ⟨rfl, rfl, rfl, rfl, rfl, trivial⟩ ?_
      exact hN r sy i hr1 (by omega) w2 ⟨fun a h => by rw [w3 a 0 h (by decide)]; exact ha.1 a h, fun a k h hk => by rw [w3 a (k + 1) h (by omega)]; exact ha.2 a k h hk⟩ (w3 0 0 (by omega) (by decide))
    | succ d ih =>
      intro r i x7 hd hv ha
      obtain ⟨sy0, hv0, -⟩ := id hv
      have h96 := hv0.2.2.2.2.2.2.2.2.1
      have h97 := hv0.2.2.2.2.2.2.2.2.2
      have inner : ∀ e k i2, k + e = 4 → LVT xs L i2 (r + 1) (ptL xs L) → (AR i2 r (ptL xs L) ∧ i2 56 r = nI (ptL xs L r 0)) → (∀ k', k' < k → i2 57 (4 * r + k') = nI (ptL xs L r (k' + 1))) → i2 4096 = xs → i2 4097 0 = nI L → Wx m_Law_law 148 [some (.ref 4096), some (.ref 0), some (.int (nI 0)), some (.int (nI rl)), some (.ref 56), some (.ref 57), some (.int (nI r)), some (.int (nI k)), none, none, none, none, none, none, none] [] (58, 0, i2, q0L, RT false) (900 + d, 9000 + 6 * d) Q := by
        intro e
        induction e with
        | zero =>
          intro k i2 hk hv2 ha2 hk2 h96 h97
          have ek : k = 4 := by omega
          subst ek
          refine ex_iload dL_law_148 rfl ?_
          refine ex_iconst (v := nI 4) dL_law_150 (by decide) ?_
          refine ex_icmp_geN (tgt := 180) dL_law_151 (by decide) (by decide) (by decide) (fun h151 => ?_) (fun h151 => by exact absurd h151 (by decide))
          refine ex_iincN (L' := [some (.ref (4096)), some (.ref (0)), some (.int (nI (0))), some (.int (nI (rl))), some (.ref (56)), some (.ref (57)), some (.int (nI (r + 1))), some (.int (nI (4))), none, none, none, none, none, none, none]) dL_law_180 rfl rfl (by decide) rfl ?_
          refine ex_goto (tgt := 77) dL_law_183 (by decide) ?_
          exact ih (r + 1) i2 _ (by omega) hv2 ⟨fun a h => by
            by_cases c : a = r
            · rw [c]; exact ha2.2
            · exact ha2.1.1 a (by omega), fun a k h hk => by
            by_cases c : a = r
            · rw [c]; exact hk2 k hk
            · exact ha2.1.2 a k (by omega) hk⟩
        | succ e ihe =>
          intro k i2 hk hv2 ha2 hk2 h96 h97
          refine ex_iload dL_law_148 rfl ?_
          refine ex_iconst (v := nI 4) dL_law_150 (by decide) ?_
          refine ex_icmp_geN (tgt := 180) dL_law_151 (by decide) (by omega) (by omega) (fun h151 => by omega) (fun h151 => ?_)
          refine ex_aload dL_law_154 rfl ?_
          refine ex_iconst (v := nI 4) dL_law_156 (by decide) ?_
          refine ex_iload dL_law_157 rfl ?_
          refine ex_imulN dL_law_159 ?_
          refine ex_iload dL_law_160 rfl ?_
          refine ex_iaddN dL_law_162 ?_
          refine ex_aload_n (i := 0) dL_law_163 rfl rfl ?_
          refine ex_iload dL_law_164 rfl ?_
          refine ex_iload dL_law_166 rfl ?_
          refine ex_iconst (v := nI 1) dL_law_168 (by decide) ?_
          refine ex_iaddN dL_law_169 ?_
          refine ex_cZL (ν := m_Law_part) (as := [.ref (4096), .int (nI (r)), .int (nI (k + 1))]) (by decide) dL_law_170 ln_Law_56 mfZ_Law_part np_Law_part rfl rfl ⟨(Nat.le_of_ble_eq_true rfl), (Nat.le_of_ble_eq_true rfl), (Nat.le_of_ble_eq_true rfl), (Nat.le_of_ble_eq_true rfl)⟩ ?_
          refine sp_Law_part (by omega) (by omega) h97 hL3 h96 ?_
          refine ⟨_, rfl, ⟨rfl, rfl⟩, ?_⟩
          refine ex_iastN dL_law_173 rfl (by decide) (by omega) ?_
          refine ex_iincN (L' := [some (.ref (4096)), some (.ref (0)), some (.int (nI (0))), some (.int (nI (rl))), some (.ref (56)), some (.ref (57)), some (.int (nI (r))), some (.int (nI (k + 1))), none, none, none, none, none, none, none]) dL_law_174 rfl rfl (by decide) rfl ?_
          refine ex_goto (tgt := 148) dL_law_177 (by decide) ?_
          refine ihe (k + 1) _ (by omega) (hv2.fr (l := [57]) (Fr.rf.U (by decide)) (by decide)) ⟨⟨fun a h => ?_, fun a k' h hk' => ?_⟩, ?_⟩ (fun k' hk' => ?_) ?_ ?_
          · rw [xU_ne _ _ _ (show (56 : Nat) ≠ 57 by decide)]; exact ha2.1.1 a h
          · rw [xU_at]; unfold upd; rw [if_neg (by omega)]; exact ha2.1.2 a k' h hk'
          · rw [xU_ne _ _ _ (show (56 : Nat) ≠ 57 by decide)]; exact ha2.2
          · rw [xU_at]; unfold upd
            by_cases c : k' = k
            · rw [if_pos (by omega), c]
            · rw [if_neg (by omega)]; exact hk2 k' (by omega)
          · rw [xU_ne _ _ _ (show (4096 : Nat) ≠ 57 by decide)]; exact h96
          · rw [xU_ne _ _ _ (show (4097 : Nat) ≠ 57 by decide)]; exact h97
      refine ex_less (L' := [some (.ref 4096), some (.ref 0), some (.int (nI 0)), some (.int (nI rl)), some (.ref 56), some (.ref 57), some (.int (nI r)), none, none, none, none, none, none, none, none]) ⟨rfl, rfl, rfl, rfl, rfl, rfl, rfl, trivial⟩ ?_
      refine ex_iload dL_law_77 rfl ?_
      refine ex_iload_n (i := 3) dL_law_79 rfl rfl ?_
      refine ex_icmp_geN (tgt := 186) dL_law_80 (by decide) (by omega) (by omega) (fun h80 => by omega) (fun h80 => ?_)
      refine ex_iload_n (i := 2) dL_law_83 rfl rfl ?_
      refine ex_if_neN (tgt := 186) dL_law_84 (by decide) (by omega) (fun h84 => by exact absurd h84 (by decide)) (fun h84 => ?_)
      refine ex_aload_n (i := 1) dL_law_87 rfl rfl ?_
      refine ex_aload_n (i := 0) dL_law_88 rfl rfl ?_
      refine ex_iload dL_law_89 rfl ?_
      refine ex_iconst (v := nI 0) dL_law_91 (by decide) ?_
      refine ex_cZL (ν := m_Law_part) (as := [.ref (4096), .int (nI (r)), .int (nI (0))]) (by decide) dL_law_92 ln_Law_56 mfZ_Law_part np_Law_part rfl rfl ⟨(Nat.le_of_ble_eq_true rfl), (Nat.le_of_ble_eq_true rfl), (Nat.le_of_ble_eq_true rfl), (Nat.le_of_ble_eq_true rfl)⟩ ?_
      refine sp_Law_part (by omega) (by decide) h97 hL3 h96 ?_
      refine ⟨_, rfl, ⟨rfl, rfl⟩, ?_⟩
      refine ex_aload_n (i := 0) dL_law_95 rfl rfl ?_
      refine ex_iload dL_law_96 rfl ?_
      refine ex_iconst (v := nI 1) dL_law_98 (by decide) ?_
      refine ex_cZL (ν := m_Law_part) (as := [.ref (4096), .int (nI (r)), .int (nI (1))]) (by decide) dL_law_99 ln_Law_56 mfZ_Law_part np_Law_part rfl rfl ⟨(Nat.le_of_ble_eq_true rfl), (Nat.le_of_ble_eq_true rfl), (Nat.le_of_ble_eq_true rfl), (Nat.le_of_ble_eq_true rfl)⟩ ?_
      refine sp_Law_part (by omega) (by decide) h97 hL3 h96 ?_
      refine ⟨_, rfl, ⟨rfl, rfl⟩, ?_⟩
      refine ex_aload_n (i := 0) dL_law_102 rfl rfl ?_
      refine ex_iload dL_law_103 rfl ?_
      refine ex_iconst (v := nI 2) dL_law_105 (by decide) ?_
      refine ex_cZL (ν := m_Law_part) (as := [.ref (4096), .int (nI (r)), .int (nI (2))]) (by decide) dL_law_106 ln_Law_56 mfZ_Law_part np_Law_part rfl rfl ⟨(Nat.le_of_ble_eq_true rfl), (Nat.le_of_ble_eq_true rfl), (Nat.le_of_ble_eq_true rfl), (Nat.le_of_ble_eq_true rfl)⟩ ?_
      refine sp_Law_part (by omega) (by decide) h97 hL3 h96 ?_
      refine ⟨_, rfl, ⟨rfl, rfl⟩, ?_⟩
      refine ex_aload_n (i := 0) dL_law_109 rfl rfl ?_
      refine ex_iload dL_law_110 rfl ?_
      refine ex_iconst (v := nI 3) dL_law_112 (by decide) ?_
      refine ex_cZL (ν := m_Law_part) (as := [.ref (4096), .int (nI (r)), .int (nI (3))]) (by decide) dL_law_113 ln_Law_56 mfZ_Law_part np_Law_part rfl rfl ⟨(Nat.le_of_ble_eq_true rfl), (Nat.le_of_ble_eq_true rfl), (Nat.le_of_ble_eq_true rfl), (Nat.le_of_ble_eq_true rfl)⟩ ?_
      refine sp_Law_part (by omega) (by decide) h97 hL3 h96 ?_
      refine ⟨_, rfl, ⟨rfl, rfl⟩, ?_⟩
      refine ex_aload_n (i := 0) dL_law_116 rfl rfl ?_
      refine ex_iload dL_law_117 rfl ?_
      refine ex_iconst (v := nI 4) dL_law_119 (by decide) ?_
      refine ex_cZL (ν := m_Law_part) (as := [.ref (4096), .int (nI (r)), .int (nI (4))]) (by decide) dL_law_120 ln_Law_56 mfZ_Law_part np_Law_part rfl rfl ⟨(Nat.le_of_ble_eq_true rfl), (Nat.le_of_ble_eq_true rfl), (Nat.le_of_ble_eq_true rfl), (Nat.le_of_ble_eq_true rfl)⟩ ?_
      refine sp_Law_part (by omega) (by decide) h97 hL3 h96 ?_
      refine ⟨_, rfl, ⟨rfl, rfl⟩, ?_⟩
      refine ex_cHL (ν := m_Law_rule) (as := [.ref (0), .int (nI (ptL xs L r 0)), .int (nI (ptL xs L r 1)), .int (nI (ptL xs L r 2)), .int (nI (ptL xs L r 3)), .int (nI (ptL xs L r 4))]) (kc := 900 + d) (sc := 9000 + 6 * d) (by omega) (by omega) dL_law_123 lnH_rule mfH_rule np_Law_rule rfl rfl ⟨(Nat.le_of_ble_eq_true rfl), (Nat.le_of_ble_eq_true rfl), (Nat.le_of_ble_eq_true rfl), (Nat.le_of_ble_eq_true rfl)⟩ ?_
      refine sp_lv_rule (ζ := 2) (tb := ptL xs L) (n := r) hv (by omega) ptL_ok rfl rfl rfl rfl rfl (fun i1 w1 f1 => ?_)
      refine ⟨_, rfl, ⟨f1 4096 (by decide), f1 4097 (by decide)⟩, ?_⟩
      have h961 : i1 4096 = xs := (f1 4096 (by decide)).trans h96
      have h971 : i1 4097 0 = nI L := by rw [f1 4097 (by decide)]; exact h97
      refine ex_iload dL_law_126 rfl ?_
      refine ex_icmp_eqN (tgt := 133) dL_law_128 (by decide) (by omega) (by omega) (fun h128 => ?_) (fun h128 => by omega)
      refine ex_aload dL_law_133 rfl ?_
      refine ex_iload dL_law_135 rfl ?_
      refine ex_aload_n (i := 0) dL_law_137 rfl rfl ?_
      refine ex_iload dL_law_138 rfl ?_
      refine ex_iconst (v := nI 0) dL_law_140 (by decide) ?_
      refine ex_cZL (ν := m_Law_part) (as := [.ref (4096), .int (nI (r)), .int (nI (0))]) (by decide) dL_law_141 ln_Law_56 mfZ_Law_part np_Law_part rfl rfl ⟨(Nat.le_of_ble_eq_true rfl), (Nat.le_of_ble_eq_true rfl), (Nat.le_of_ble_eq_true rfl), (Nat.le_of_ble_eq_true rfl)⟩ ?_
      refine sp_Law_part (by omega) (by decide) h971 hL3 h961 ?_
      refine ⟨_, rfl, ⟨rfl, rfl⟩, ?_⟩
      refine ex_iastN dL_law_144 rfl (by decide) (by omega) ?_
      refine ex_iconst (v := nI 0) dL_law_145 (by decide) ?_
      refine ex_istore (L' := [some (.ref (4096)), some (.ref (0)), some (.int (nI (0))), some (.int (nI (rl))), some (.ref (56)), some (.ref (57)), some (.int (nI (r))), some (.int (nI (0))), none, none, none, none, none, none, none]) dL_law_146 (by decide) rfl ?_
      refine inner 4 0 _ rfl (w1.fr (l := [56]) (Fr.rf.U (by decide)) (by decide)) ⟨⟨fun a h => ?_, fun a k' h hk' => ?_⟩, ?_⟩ (fun k' hk' => by omega) ?_ ?_
      · rw [xU_at]; unfold upd; rw [if_neg (by omega), f1 56 (by decide)]; exact ha.1 a h
      · rw [xU_ne _ _ _ (show (57 : Nat) ≠ 56 by decide), f1 57 (by decide)]; exact ha.2 a k' h hk'
      · rw [xU_at]; unfold upd; rw [if_pos rfl]
      · rw [xU_ne _ _ _ (show (4096 : Nat) ≠ 56 by decide)]; exact h961
      · rw [xU_ne _ _ _ (show (4097 : Nat) ≠ 56 by decide)]; exact h971
  refine ex_Kw (K := (900 + rl, 9000 + 6 * rl)) ⟨by show 900 + rl ≤ 1000; omega, by show 9000 + 6 * rl ≤ 10000; omega⟩ ?_
  refine ex_iload_n (i := 2) dL_law_56 rfl rfl ?_
  refine ex_if_eqN (tgt := 74) dL_law_57 (by decide) (by omega) (fun h57 => ?_) (fun h57 => by exact absurd h57 (by decide))
  refine ex_iconst (v := nI 0) dL_law_74 (by decide) ?_
  refine ex_istore (L' := [some (.ref (4096)), some (.ref (0)), some (.int (nI (0))), some (.int (nI (rl))), some (.ref (56)), some (.ref (57)), some (.int (nI (0))), none, none, none, none, none, none, none, none]) dL_law_75 (by decide) rfl ?_
  exact loop rl 0 _ none (Nat.zero_add _) hv ⟨fun r h => absurd h (Nat.not_lt_zero r), fun r k h => absurd h (Nat.not_lt_zero r)⟩
