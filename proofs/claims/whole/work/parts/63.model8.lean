/-! ===== the reference: equation ===== -/
section S63
variable {g : Nat} {i : Nat → Nat → Int32} {q : Nat → Nat → Int64} {t : Bool} {Q : xRes → xMem → Prop} {n : Nat} {sy : Nat → Nat → Nat} {op xp yp : Nat → Nat}
theorem RE_add {i i1 : Nat → Nat → Int32} {op xp yp : Nat → Nat} {j k X Y : Nat} {x y : Int32} {f : Nat → Nat} (re : RE i op xp yp) (hk : k ≤ 7) (hx0 : k = 0 → x = nI X) (hx1 : 1 ≤ k → plX f x = some X) (hy1 : 2 ≤ k → plX f y = some Y) (e62 : i1 62 = upd (i 62) j (nI k)) (e63 : i1 63 = upd (i 63) j x) (e64 : i1 64 = upd (i 64) j y) : RE i1 (upN op j (k + 1)) (upN xp j X) (upN yp j Y) := by
  have cd : ∀ {z : Int32} {Z : Nat}, plX f z = some Z → ∃ c, z = nI c ∧ c < 50 ∧ c % 10 < 3 ∧ c / 10 * 3 + c % 10 = Z := by
    intro z Z h
    unfold plX at h
    split at h
    · exact absurd h (by simp)
    · rename_i h0
      obtain ⟨c, hc, rfl⟩ := nI_of h0
      rw [nI_clamp hc] at h
      have h2 := plS_lt h
      have := lnS_le f
      exact ⟨c, rfl, by omega, h2.2.2.2, h2.2.2.1.symm⟩
  intro m hm
  rw [e62, e63, e64]
  unfold upd upN
  by_cases e : m = j
  · rw [if_pos e, if_pos e, if_pos e, if_pos e, if_pos e, if_pos e]
    refine ⟨by rw [if_neg (by omega)]; rfl, by omega, fun h => hx0 (by omega), fun h => cd (hx1 (by omega)), fun h => cd (hy1 (by omega))⟩
  · rw [if_neg e, if_neg e, if_neg e, if_neg e, if_neg e, if_neg e]; exact re m hm
theorem sp_Model_equation_ok {a p k X Y : Nat} {c x y : Int32} (rg : RG i n sy) (re : RE i op xp yp) (ha : a < n) (hd : ¬ dfX (sy a) c = 0) (hp : plX (sy a) c = some p) (hk : k ≤ 7) (hx0 : k = 0 → x = nI X) (hx1 : 1 ≤ k → plX (sy a) x = some X) (hy1 : 2 ≤ k → plX (sy a) y = some Y)
    (hQ : ∀ b i1, b = (if op (a * 15 + p) = 0 then 1 else 0) → Fm [62, 63, 64] [9, 45] i i1 → i1 56 45 = nI 0 → i1 56 9 = nI 0 → RE i1 (upN op (a * 15 + p) (k + 1)) (upN xp (a * 15 + p) X) (upN yp (a * 15 + p) Y) → Q (.ok (some (.int (nI b)))) (94, g, i1, q, RT t)) :
    Wx m_Model_equation 0 [some (.ref 56), some (.int (nI a)), some (.int c), some (.int (nI k)), some (.int x), some (.int y), none, none, none] [] (94, g, i, q, RT t) (0, 0) Q := by
  have hn14 := rg.2.2.2.2.1
  have rg1 : ∀ v, RG (xU i 56 45 v) n sy := fun v => rg.fm (Fm.F (l := []) (ks := [45]) Fm.rf (by decide)) (by decide) (by decide) (by decide) (by decide)
  obtain ⟨cc, hcc, rfl⟩ : ∃ cc, cc < 2 ^ 31 ∧ c = nI cc := nI_of (fun z => by rw [plX_neg z] at hp; exact absurd hp (by simp))
  have hp2 : plS (sy a) cc = some p := by rw [← plX_nat hcc]; exact hp
  obtain ⟨p15, p3, pe, p10⟩ := plS_lt hp2
  have hl := lnS_le (sy a)
  have hd2 : (cc < 10 → ¬ cc % 10 = 2) ∧ (10 ≤ cc → cc % 10 = 2) := by
    unfold dfX at hd
    rw [if_neg (nI_pos hcc), nI_clamp hcc] at hd
    by_cases z : plS (sy a) cc = none ∨ cc < 10 ∧ cc % 10 = 2 ∨ 10 ≤ cc ∧ ¬ cc % 10 = 2
    · rw [if_pos z] at hd; exact absurd rfl hd
    · exact ⟨fun h1 h2 => z (Or.inr (Or.inl ⟨h1, h2⟩)), fun h1 => Classical.byContradiction fun h2 => z (Or.inr (Or.inr ⟨h1, h2⟩))⟩
  have ej : 15 * a + 3 * (cc / 10) + cc % 10 = a * 15 + p := by omega
  have hj : a * 15 + p < 210 := by omega
  have P3 : Wx m_Model_equation 110 [some (.ref 56), some (.int (nI a)), some (.int (nI cc)), some (.int (nI k)), some (.int x), some (.int y), some (.int (nI 1)), none, none] [] (94, g, xU i 56 45 (nI 0), q, RT t) (0, 0) Q := by
    have e62 : ∀ v w, xU (xU i 56 45 v) 56 45 w 62 (a * 15 + p) = if op (a * 15 + p) = 0 then -1 else nI (op (a * 15 + p) - 1) := fun v w => by rw [xU_ne _ _ _ (show (62 : Nat) ≠ 56 by decide), xU_ne _ _ _ (show (62 : Nat) ≠ 56 by decide)]; exact (re _ hj).1
    have h8 := (re _ hj).2.1
    by_cases o0 : op (a * 15 + p) = 0
    ·
      refine ex_aload_n (i := 0) dX10_equation_110 rfl rfl ?_
      refine ex_iload dX10_equation_111 rfl ?_
      refine ex_iconst (v := nI 2) dX10_equation_113 (by decide) ?_
      refine ex_cV (ν := m_Model_good) (a := 56) (ci := 10) (as := [.int (nI (1)), .int (nI (2))]) dX10_equation_114 ln_Model_141 mf_Model_good rfl (Nat.le_of_ble_eq_true rfl) rfl rfl np_Model_good rfl rfl ⟨(Nat.le_of_ble_eq_true rfl), (Nat.le_of_ble_eq_true rfl), (Nat.le_of_ble_eq_true rfl), (Nat.le_of_ble_eq_true rfl)⟩ (by decide) ?_
      refine sp_Model_good (b := 1) (by decide) ?_
      refine ⟨_, rfl, ?_⟩
      refine ex_if_neN (tgt := 122) dX10_equation_117 (by decide) (by omega) (fun h117 => ?_) (fun h117 => by exact absurd h117 (by decide))
      refine ex_iload_n (i := 1) dX10_equation_122 rfl rfl ?_
      refine ex_iload_n (i := 2) dX10_equation_123 rfl rfl ?_
      refine ex_cS (ν := m_Model_index) (as := [.int (nI (a)), .int (nI (cc))]) dX10_equation_124 ln_Model_160 mf_Model_index np_Model_index rfl rfl ⟨(Nat.le_of_ble_eq_true rfl), (Nat.le_of_ble_eq_true rfl), (Nat.le_of_ble_eq_true rfl), (Nat.le_of_ble_eq_true rfl)⟩ (by decide) ?_
      refine sp_Model_index (by omega) hcc ?_
      refine ⟨_, rfl, ?_⟩
      refine ex_asN (a := a * 15 + p) (by rw [ej]) ?_
      refine ex_istore (L' := [some (.ref (56)), some (.int (nI (a))), some (.int (nI (cc))), some (.int (nI (k))), some (.int (x)), some (.int (y)), some (.int (nI (1))), some (.int (nI (a * 15 + p))), none]) dX10_equation_127 (by decide) rfl ?_
      refine ex_aload_n (i := 0) dX10_equation_129 rfl rfl ?_
      refine ex_getR (v := .ref (62)) dX10_equation_130 fl_Model_25 rfl rfl (by decide) rfl ?_
      refine ex_iload dX10_equation_133 rfl ?_
      refine ex_ialdN dX10_equation_135 rfl (by decide) (by omega) rfl ?_
      refine ex_asI (y := -1) (by rw [e62, if_pos o0]) ?_
      refine ex_if_ge (tgt := 143) dX10_equation_136 (by decide) (fun h136 => by exact absurd h136 (by decide)) (fun h136 => ?_)
      refine ex_iconst (v := nI 1) dX10_equation_139 (by decide) ?_
      refine ex_goto (tgt := 144) dX10_equation_140 (by decide) ?_
      refine ex_istore (L' := [some (.ref (56)), some (.int (nI (a))), some (.int (nI (cc))), some (.int (nI (k))), some (.int (x)), some (.int (y)), some (.int (nI (1))), some (.int (nI (a * 15 + p))), some (.int (nI (1)))]) dX10_equation_144 (by decide) rfl ?_
      refine ex_aload_n (i := 0) dX10_equation_146 rfl rfl ?_
      refine ex_getR (v := .ref (62)) dX10_equation_147 fl_Model_25 rfl rfl (by decide) rfl ?_
      refine ex_iload dX10_equation_150 rfl ?_
      refine ex_iload_n (i := 3) dX10_equation_152 rfl rfl ?_
      refine ex_iastN dX10_equation_153 rfl (by decide) (by omega) ?_
      refine ex_aload_n (i := 0) dX10_equation_154 rfl rfl ?_
      refine ex_getR (v := .ref (63)) dX10_equation_155 fl_Model_28 rfl rfl (by decide) rfl ?_
      refine ex_iload dX10_equation_158 rfl ?_
      refine ex_iload dX10_equation_160 rfl ?_
      refine ex_iastN dX10_equation_162 rfl (by decide) (by omega) ?_
      refine ex_aload_n (i := 0) dX10_equation_163 rfl rfl ?_
      refine ex_getR (v := .ref (64)) dX10_equation_164 fl_Model_31 rfl rfl (by decide) rfl ?_
      refine ex_iload dX10_equation_167 rfl ?_
      refine ex_iload dX10_equation_169 rfl ?_
      refine ex_iastN dX10_equation_171 rfl (by decide) (by omega) ?_
      refine ex_aload_n (i := 0) dX10_equation_172 rfl rfl ?_
      refine ex_iconst (v := nI 0) dX10_equation_173 (by decide) ?_
      refine ex_putI dX10_equation_174 fl_Model_148 cf_10 rfl (Or.inl rfl) (by decide) (by decide) rfl (by decide) ?_
      refine ex_iload dX10_equation_177 rfl ?_
      refine ex_iret dX10_equation_179 rfl rfl ?_
      refine hQ 1 _ (by rw [if_pos o0]) ((((((Fm.rf.F (by decide)).F (by decide)).U (by decide) (by decide)).U (by decide) (by decide)).U (by decide) (by decide)).F (by decide)) ?_ ?_ (RE_add re hk hx0 hx1 hy1 ?_ ?_ ?_)
      · simp [xU, upd]
      · simp [xU, upd]
      · simp [xU]
      · simp [xU]
      · simp [xU]
    ·
      refine ex_aload_n (i := 0) dX10_equation_110 rfl rfl ?_
      refine ex_iload dX10_equation_111 rfl ?_
      refine ex_iconst (v := nI 2) dX10_equation_113 (by decide) ?_
      refine ex_cV (ν := m_Model_good) (a := 56) (ci := 10) (as := [.int (nI (1)), .int (nI (2))]) dX10_equation_114 ln_Model_141 mf_Model_good rfl (Nat.le_of_ble_eq_true rfl) rfl rfl np_Model_good rfl rfl ⟨(Nat.le_of_ble_eq_true rfl), (Nat.le_of_ble_eq_true rfl), (Nat.le_of_ble_eq_true rfl), (Nat.le_of_ble_eq_true rfl)⟩ (by decide) ?_
      refine sp_Model_good (b := 1) (by decide) ?_
      refine ⟨_, rfl, ?_⟩
      refine ex_if_neN (tgt := 122) dX10_equation_117 (by decide) (by omega) (fun h117 => ?_) (fun h117 => by exact absurd h117 (by decide))
      refine ex_iload_n (i := 1) dX10_equation_122 rfl rfl ?_
      refine ex_iload_n (i := 2) dX10_equation_123 rfl rfl ?_
      refine ex_cS (ν := m_Model_index) (as := [.int (nI (a)), .int (nI (cc))]) dX10_equation_124 ln_Model_160 mf_Model_index np_Model_index rfl rfl ⟨(Nat.le_of_ble_eq_true rfl), (Nat.le_of_ble_eq_true rfl), (Nat.le_of_ble_eq_true rfl), (Nat.le_of_ble_eq_true rfl)⟩ (by decide) ?_
      refine sp_Model_index (by omega) hcc ?_
      refine ⟨_, rfl, ?_⟩
      refine ex_asN (a := a * 15 + p) (by rw [ej]) ?_
      refine ex_istore (L' := [some (.ref (56)), some (.int (nI (a))), some (.int (nI (cc))), some (.int (nI (k))), some (.int (x)), some (.int (y)), some (.int (nI (1))), some (.int (nI (a * 15 + p))), none]) dX10_equation_127 (by decide) rfl ?_
      refine ex_aload_n (i := 0) dX10_equation_129 rfl rfl ?_
      refine ex_getR (v := .ref (62)) dX10_equation_130 fl_Model_25 rfl rfl (by decide) rfl ?_
      refine ex_iload dX10_equation_133 rfl ?_
      refine ex_ialdN dX10_equation_135 rfl (by decide) (by omega) rfl ?_
      refine ex_asN (a := op (a * 15 + p) - 1) (by rw [e62, if_neg o0]) ?_
      refine ex_if_geN (tgt := 143) dX10_equation_136 (by decide) (by omega) ?_
      refine ex_iconst (v := nI 0) dX10_equation_143 (by decide) ?_
      refine ex_istore (L' := [some (.ref (56)), some (.int (nI (a))), some (.int (nI (cc))), some (.int (nI (k))), some (.int (x)), some (.int (y)), some (.int (nI (1))), some (.int (nI (a * 15 + p))), some (.int (nI (0)))]) dX10_equation_144 (by decide) rfl ?_
      refine ex_aload_n (i := 0) dX10_equation_146 rfl rfl ?_
      refine ex_getR (v := .ref (62)) dX10_equation_147 fl_Model_25 rfl rfl (by decide) rfl ?_
      refine ex_iload dX10_equation_150 rfl ?_
      refine ex_iload_n (i := 3) dX10_equation_152 rfl rfl ?_
      refine ex_iastN dX10_equation_153 rfl (by decide) (by omega) ?_
      refine ex_aload_n (i := 0) dX10_equation_154 rfl rfl ?_
      refine ex_getR (v := .ref (63)) dX10_equation_155 fl_Model_28 rfl rfl (by decide) rfl ?_
      refine ex_iload dX10_equation_158 rfl ?_
      refine ex_iload dX10_equation_160 rfl ?_
      refine ex_iastN dX10_equation_162 rfl (by decide) (by omega) ?_
      refine ex_aload_n (i := 0) dX10_equation_163 rfl rfl ?_
      refine ex_getR (v := .ref (64)) dX10_equation_164 fl_Model_31 rfl rfl (by decide) rfl ?_
      refine ex_iload dX10_equation_167 rfl ?_
      refine ex_iload dX10_equation_169 rfl ?_
      refine ex_iastN dX10_equation_171 rfl (by decide) (by omega) ?_
      refine ex_aload_n (i := 0) dX10_equation_172 rfl rfl ?_
      refine ex_iconst (v := nI 0) dX10_equation_173 (by decide) ?_
      refine ex_putI dX10_equation_174 fl_Model_148 cf_10 rfl (Or.inl rfl) (by decide) (by decide) rfl (by decide) ?_
      refine ex_iload dX10_equation_177 rfl ?_
      refine ex_iret dX10_equation_179 rfl rfl ?_
      refine hQ 0 _ (by rw [if_neg o0]) ((((((Fm.rf.F (by decide)).F (by decide)).U (by decide) (by decide)).U (by decide) (by decide)).U (by decide) (by decide)).F (by decide)) ?_ ?_ (RE_add re hk hx0 hx1 hy1 ?_ ?_ ?_)
      · simp [xU, upd]
      · simp [xU, upd]
      · simp [xU]
      · simp [xU]
      · simp [xU]
  have P1 : Wx m_Model_equation 52 [some (.ref 56), some (.int (nI a)), some (.int (nI cc)), some (.int (nI k)), some (.int x), some (.int y), none, none, none] [] (94, g, xU i 56 45 (nI 0), q, RT t) (0, 0) Q := by
    have eI : inX (nI k) (nI 0) (nI 7) = 1 := inX_c1 (by decide) ⟨k, rfl, by omega⟩
    by_cases k0 : k = 0
    ·
      refine ex_iload_n (i := 3) dX10_equation_52 rfl rfl ?_
      refine ex_iconst (v := nI 0) dX10_equation_53 (by decide) ?_
      refine ex_bipush (v := nI 7) dX10_equation_54 (by decide) ?_
      refine ex_cS (ν := m_Model_in) (as := [.int (nI (k)), .int (nI (0)), .int (nI (7))]) dX10_equation_56 ln_Model_127 mf_Model_in np_Model_in rfl rfl ⟨(Nat.le_of_ble_eq_true rfl), (Nat.le_of_ble_eq_true rfl), (Nat.le_of_ble_eq_true rfl), (Nat.le_of_ble_eq_true rfl)⟩ (by decide) ?_
      refine sp_Model_in ?_
      refine ⟨_, rfl, ?_⟩
      refine ex_asN (a := 1) (by rw [eI]) ?_
      refine ex_if_eqN (tgt := 66) dX10_equation_59 (by decide) (by omega) (fun h59 => by exact absurd h59 (by decide)) (fun h59 => ?_)
      refine ex_iconst (v := nI 1) dX10_equation_62 (by decide) ?_
      refine ex_goto (tgt := 67) dX10_equation_63 (by decide) ?_
      refine ex_istore (L' := [some (.ref (56)), some (.int (nI (a))), some (.int (nI (cc))), some (.int (nI (k))), some (.int (x)), some (.int (y)), some (.int (nI (1))), none, none]) dX10_equation_67 (by decide) rfl ?_
      refine ex_iload dX10_equation_69 rfl ?_
      refine ex_if_eqN (tgt := 107) dX10_equation_71 (by decide) (by omega) (fun h71 => by exact absurd h71 (by decide)) (fun h71 => ?_)
      refine ex_iload_n (i := 3) dX10_equation_74 rfl rfl ?_
      refine ex_if_eqN (tgt := 88) dX10_equation_75 (by decide) (by omega) (fun h75 => ?_) (fun h75 => by omega)
      refine ex_iload_n (i := 3) dX10_equation_88 rfl rfl ?_
      refine ex_iconst (v := nI 2) dX10_equation_89 (by decide) ?_
      refine ex_icmp_ltN (tgt := 103) dX10_equation_90 (by decide) (by omega) (by omega) (fun h90 => ?_) (fun h90 => by omega)
      refine ex_iconst (v := nI 1) dX10_equation_103 (by decide) ?_
      refine ex_goto (tgt := 108) dX10_equation_104 (by decide) ?_
      refine ex_istore (L' := [some (.ref (56)), some (.int (nI (a))), some (.int (nI (cc))), some (.int (nI (k))), some (.int (x)), some (.int (y)), some (.int (nI (1))), none, none]) dX10_equation_108 (by decide) rfl ?_
      exact P3
    · have ux : usX (sy a) x = 1 := by unfold usX; rw [hx1 (by omega)]
      by_cases k1 : k = 1
      ·
        refine ex_iload_n (i := 3) dX10_equation_52 rfl rfl ?_
        refine ex_iconst (v := nI 0) dX10_equation_53 (by decide) ?_
        refine ex_bipush (v := nI 7) dX10_equation_54 (by decide) ?_
        refine ex_cS (ν := m_Model_in) (as := [.int (nI (k)), .int (nI (0)), .int (nI (7))]) dX10_equation_56 ln_Model_127 mf_Model_in np_Model_in rfl rfl ⟨(Nat.le_of_ble_eq_true rfl), (Nat.le_of_ble_eq_true rfl), (Nat.le_of_ble_eq_true rfl), (Nat.le_of_ble_eq_true rfl)⟩ (by decide) ?_
        refine sp_Model_in ?_
        refine ⟨_, rfl, ?_⟩
        refine ex_asN (a := 1) (by rw [eI]) ?_
        refine ex_if_eqN (tgt := 66) dX10_equation_59 (by decide) (by omega) (fun h59 => by exact absurd h59 (by decide)) (fun h59 => ?_)
        refine ex_iconst (v := nI 1) dX10_equation_62 (by decide) ?_
        refine ex_goto (tgt := 67) dX10_equation_63 (by decide) ?_
        refine ex_istore (L' := [some (.ref (56)), some (.int (nI (a))), some (.int (nI (cc))), some (.int (nI (k))), some (.int (x)), some (.int (y)), some (.int (nI (1))), none, none]) dX10_equation_67 (by decide) rfl ?_
        refine ex_iload dX10_equation_69 rfl ?_
        refine ex_if_eqN (tgt := 107) dX10_equation_71 (by decide) (by omega) (fun h71 => by exact absurd h71 (by decide)) (fun h71 => ?_)
        refine ex_iload_n (i := 3) dX10_equation_74 rfl rfl ?_
        refine ex_if_eqN (tgt := 88) dX10_equation_75 (by decide) (by omega) (fun h75 => by omega) (fun h75 => ?_)
        refine ex_aload_n (i := 0) dX10_equation_78 rfl rfl ?_
        refine ex_iload_n (i := 1) dX10_equation_79 rfl rfl ?_
        refine ex_iload dX10_equation_80 rfl ?_
        refine ex_cV (ν := m_Model_usable) (a := 56) (ci := 10) (as := [.int (nI (a)), .int (x)]) dX10_equation_82 ln_Model_156 mf_Model_usable rfl (Nat.le_of_ble_eq_true rfl) rfl rfl np_Model_usable rfl rfl ⟨(Nat.le_of_ble_eq_true rfl), (Nat.le_of_ble_eq_true rfl), (Nat.le_of_ble_eq_true rfl), (Nat.le_of_ble_eq_true rfl)⟩ (by decide) ?_
        refine sp_Model_usable (rg1 _) ha ?_
        refine ⟨_, rfl, ?_⟩
        refine ex_asN (a := 1) (by rw [ux]) ?_
        refine ex_if_eqN (tgt := 107) dX10_equation_85 (by decide) (by omega) (fun h85 => by exact absurd h85 (by decide)) (fun h85 => ?_)
        refine ex_iload_n (i := 3) dX10_equation_88 rfl rfl ?_
        refine ex_iconst (v := nI 2) dX10_equation_89 (by decide) ?_
        refine ex_icmp_ltN (tgt := 103) dX10_equation_90 (by decide) (by omega) (by omega) (fun h90 => ?_) (fun h90 => by omega)
        refine ex_iconst (v := nI 1) dX10_equation_103 (by decide) ?_
        refine ex_goto (tgt := 108) dX10_equation_104 (by decide) ?_
        refine ex_istore (L' := [some (.ref (56)), some (.int (nI (a))), some (.int (nI (cc))), some (.int (nI (k))), some (.int (x)), some (.int (y)), some (.int (nI (1))), none, none]) dX10_equation_108 (by decide) rfl ?_
        exact P3
      · have uy : usX (sy a) y = 1 := by unfold usX; rw [hy1 (by omega)]
        refine ex_iload_n (i := 3) dX10_equation_52 rfl rfl ?_
        refine ex_iconst (v := nI 0) dX10_equation_53 (by decide) ?_
        refine ex_bipush (v := nI 7) dX10_equation_54 (by decide) ?_
        refine ex_cS (ν := m_Model_in) (as := [.int (nI (k)), .int (nI (0)), .int (nI (7))]) dX10_equation_56 ln_Model_127 mf_Model_in np_Model_in rfl rfl ⟨(Nat.le_of_ble_eq_true rfl), (Nat.le_of_ble_eq_true rfl), (Nat.le_of_ble_eq_true rfl), (Nat.le_of_ble_eq_true rfl)⟩ (by decide) ?_
        refine sp_Model_in ?_
        refine ⟨_, rfl, ?_⟩
        refine ex_asN (a := 1) (by rw [eI]) ?_
        refine ex_if_eqN (tgt := 66) dX10_equation_59 (by decide) (by omega) (fun h59 => by exact absurd h59 (by decide)) (fun h59 => ?_)
        refine ex_iconst (v := nI 1) dX10_equation_62 (by decide) ?_
        refine ex_goto (tgt := 67) dX10_equation_63 (by decide) ?_
        refine ex_istore (L' := [some (.ref (56)), some (.int (nI (a))), some (.int (nI (cc))), some (.int (nI (k))), some (.int (x)), some (.int (y)), some (.int (nI (1))), none, none]) dX10_equation_67 (by decide) rfl ?_
        refine ex_iload dX10_equation_69 rfl ?_
        refine ex_if_eqN (tgt := 107) dX10_equation_71 (by decide) (by omega) (fun h71 => by exact absurd h71 (by decide)) (fun h71 => ?_)
        refine ex_iload_n (i := 3) dX10_equation_74 rfl rfl ?_
        refine ex_if_eqN (tgt := 88) dX10_equation_75 (by decide) (by omega) (fun h75 => by omega) (fun h75 => ?_)
        refine ex_aload_n (i := 0) dX10_equation_78 rfl rfl ?_
        refine ex_iload_n (i := 1) dX10_equation_79 rfl rfl ?_
        refine ex_iload dX10_equation_80 rfl ?_
        refine ex_cV (ν := m_Model_usable) (a := 56) (ci := 10) (as := [.int (nI (a)), .int (x)]) dX10_equation_82 ln_Model_156 mf_Model_usable rfl (Nat.le_of_ble_eq_true rfl) rfl rfl np_Model_usable rfl rfl ⟨(Nat.le_of_ble_eq_true rfl), (Nat.le_of_ble_eq_true rfl), (Nat.le_of_ble_eq_true rfl), (Nat.le_of_ble_eq_true rfl)⟩ (by decide) ?_
        refine sp_Model_usable (rg1 _) ha ?_
        refine ⟨_, rfl, ?_⟩
        refine ex_asN (a := 1) (by rw [ux]) ?_
        refine ex_if_eqN (tgt := 107) dX10_equation_85 (by decide) (by omega) (fun h85 => by exact absurd h85 (by decide)) (fun h85 => ?_)
        refine ex_iload_n (i := 3) dX10_equation_88 rfl rfl ?_
        refine ex_iconst (v := nI 2) dX10_equation_89 (by decide) ?_
        refine ex_icmp_ltN (tgt := 103) dX10_equation_90 (by decide) (by omega) (by omega) (fun h90 => by omega) (fun h90 => ?_)
        refine ex_aload_n (i := 0) dX10_equation_93 rfl rfl ?_
        refine ex_iload_n (i := 1) dX10_equation_94 rfl rfl ?_
        refine ex_iload dX10_equation_95 rfl ?_
        refine ex_cV (ν := m_Model_usable) (a := 56) (ci := 10) (as := [.int (nI (a)), .int (y)]) dX10_equation_97 ln_Model_156 mf_Model_usable rfl (Nat.le_of_ble_eq_true rfl) rfl rfl np_Model_usable rfl rfl ⟨(Nat.le_of_ble_eq_true rfl), (Nat.le_of_ble_eq_true rfl), (Nat.le_of_ble_eq_true rfl), (Nat.le_of_ble_eq_true rfl)⟩ (by decide) ?_
        refine sp_Model_usable (rg1 _) ha ?_
        refine ⟨_, rfl, ?_⟩
        refine ex_asN (a := 1) (by rw [uy]) ?_
        refine ex_if_eqN (tgt := 107) dX10_equation_100 (by decide) (by omega) (fun h100 => by exact absurd h100 (by decide)) (fun h100 => ?_)
        refine ex_iconst (v := nI 1) dX10_equation_103 (by decide) ?_
        refine ex_goto (tgt := 108) dX10_equation_104 (by decide) ?_
        refine ex_istore (L' := [some (.ref (56)), some (.int (nI (a))), some (.int (nI (cc))), some (.int (nI (k))), some (.int (x)), some (.int (y)), some (.int (nI (1))), none, none]) dX10_equation_108 (by decide) rfl ?_
        exact P3
  have eI : inX (nI a) (nI 0) (nI n - nI 1) = 1 := inX_1 (by omega) ⟨a, rfl, ha⟩
  have uc : usX (sy a) (nI cc) = 1 := by unfold usX; rw [hp]
  have e3 := rg.1
  by_cases c10 : cc < 10
  ·
    refine ex_aload_n (i := 0) dX10_equation_0 rfl rfl ?_
    refine ex_iload_n (i := 1) dX10_equation_1 rfl rfl ?_
    refine ex_iconst (v := nI 0) dX10_equation_2 (by decide) ?_
    refine ex_aload_n (i := 0) dX10_equation_3 rfl rfl ?_
    refine ex_getI dX10_equation_4 fl_Model_145 rfl rfl (by decide) ?_
    refine ex_asI (y := nI n) e3 ?_
    refine ex_iconst (v := nI 1) dX10_equation_7 (by decide) ?_
    refine ex_isub dX10_equation_8 ?_
    refine ex_cS (ν := m_Model_in) (as := [.int (nI (a)), .int (nI (0)), .int ((nI n) - (nI (1)))]) dX10_equation_9 ln_Model_127 mf_Model_in np_Model_in rfl rfl ⟨(Nat.le_of_ble_eq_true rfl), (Nat.le_of_ble_eq_true rfl), (Nat.le_of_ble_eq_true rfl), (Nat.le_of_ble_eq_true rfl)⟩ (by decide) ?_
    refine sp_Model_in ?_
    refine ⟨_, rfl, ?_⟩
    refine ex_asN (a := 1) (by rw [eI]) ?_
    refine ex_iconst (v := nI 1) dX10_equation_12 (by decide) ?_
    refine ex_cV (ν := m_Model_good) (a := 56) (ci := 10) (as := [.int (nI (1)), .int (nI (1))]) dX10_equation_13 ln_Model_141 mf_Model_good rfl (Nat.le_of_ble_eq_true rfl) rfl rfl np_Model_good rfl rfl ⟨(Nat.le_of_ble_eq_true rfl), (Nat.le_of_ble_eq_true rfl), (Nat.le_of_ble_eq_true rfl), (Nat.le_of_ble_eq_true rfl)⟩ (by decide) ?_
    refine sp_Model_good (b := 1) (by decide) ?_
    refine ⟨_, rfl, ?_⟩
    refine ex_if_neN (tgt := 21) dX10_equation_16 (by decide) (by omega) (fun h16 => ?_) (fun h16 => by exact absurd h16 (by decide))
    refine ex_aload_n (i := 0) dX10_equation_21 rfl rfl ?_
    refine ex_iload_n (i := 1) dX10_equation_22 rfl rfl ?_
    refine ex_iload_n (i := 2) dX10_equation_23 rfl rfl ?_
    refine ex_cV (ν := m_Model_usable) (a := 56) (ci := 10) (as := [.int (nI (a)), .int (nI (cc))]) dX10_equation_24 ln_Model_156 mf_Model_usable rfl (Nat.le_of_ble_eq_true rfl) rfl rfl np_Model_usable rfl rfl ⟨(Nat.le_of_ble_eq_true rfl), (Nat.le_of_ble_eq_true rfl), (Nat.le_of_ble_eq_true rfl), (Nat.le_of_ble_eq_true rfl)⟩ (by decide) ?_
    refine sp_Model_usable (rg1 _) ha ?_
    refine ⟨_, rfl, ?_⟩
    refine ex_asN (a := 1) (by rw [uc]) ?_
    refine ex_if_eqN (tgt := 66) dX10_equation_27 (by decide) (by omega) (fun h27 => by exact absurd h27 (by decide)) (fun h27 => ?_)
    refine ex_iload_n (i := 2) dX10_equation_30 rfl rfl ?_
    refine ex_bipush (v := nI 10) dX10_equation_31 (by decide) ?_
    refine ex_icmp_geN (tgt := 44) dX10_equation_33 (by decide) (by omega) (by omega) (fun h33 => by omega) (fun h33 => ?_)
    refine ex_iload_n (i := 2) dX10_equation_36 rfl rfl ?_
    refine ex_iconst (v := nI 2) dX10_equation_37 (by decide) ?_
    refine ex_icmp_geN (tgt := 66) dX10_equation_38 (by decide) (by omega) (by omega) (fun h38 => by have := hd2.1 c10; omega) (fun h38 => ?_)
    refine ex_goto (tgt := 52) dX10_equation_41 (by decide) ?_
    exact P1
  ·
    refine ex_aload_n (i := 0) dX10_equation_0 rfl rfl ?_
    refine ex_iload_n (i := 1) dX10_equation_1 rfl rfl ?_
    refine ex_iconst (v := nI 0) dX10_equation_2 (by decide) ?_
    refine ex_aload_n (i := 0) dX10_equation_3 rfl rfl ?_
    refine ex_getI dX10_equation_4 fl_Model_145 rfl rfl (by decide) ?_
    refine ex_asI (y := nI n) e3 ?_
    refine ex_iconst (v := nI 1) dX10_equation_7 (by decide) ?_
    refine ex_isub dX10_equation_8 ?_
    refine ex_cS (ν := m_Model_in) (as := [.int (nI (a)), .int (nI (0)), .int ((nI n) - (nI (1)))]) dX10_equation_9 ln_Model_127 mf_Model_in np_Model_in rfl rfl ⟨(Nat.le_of_ble_eq_true rfl), (Nat.le_of_ble_eq_true rfl), (Nat.le_of_ble_eq_true rfl), (Nat.le_of_ble_eq_true rfl)⟩ (by decide) ?_
    refine sp_Model_in ?_
    refine ⟨_, rfl, ?_⟩
    refine ex_asN (a := 1) (by rw [eI]) ?_
    refine ex_iconst (v := nI 1) dX10_equation_12 (by decide) ?_
    refine ex_cV (ν := m_Model_good) (a := 56) (ci := 10) (as := [.int (nI (1)), .int (nI (1))]) dX10_equation_13 ln_Model_141 mf_Model_good rfl (Nat.le_of_ble_eq_true rfl) rfl rfl np_Model_good rfl rfl ⟨(Nat.le_of_ble_eq_true rfl), (Nat.le_of_ble_eq_true rfl), (Nat.le_of_ble_eq_true rfl), (Nat.le_of_ble_eq_true rfl)⟩ (by decide) ?_
    refine sp_Model_good (b := 1) (by decide) ?_
    refine ⟨_, rfl, ?_⟩
    refine ex_if_neN (tgt := 21) dX10_equation_16 (by decide) (by omega) (fun h16 => ?_) (fun h16 => by exact absurd h16 (by decide))
    refine ex_aload_n (i := 0) dX10_equation_21 rfl rfl ?_
    refine ex_iload_n (i := 1) dX10_equation_22 rfl rfl ?_
    refine ex_iload_n (i := 2) dX10_equation_23 rfl rfl ?_
    refine ex_cV (ν := m_Model_usable) (a := 56) (ci := 10) (as := [.int (nI (a)), .int (nI (cc))]) dX10_equation_24 ln_Model_156 mf_Model_usable rfl (Nat.le_of_ble_eq_true rfl) rfl rfl np_Model_usable rfl rfl ⟨(Nat.le_of_ble_eq_true rfl), (Nat.le_of_ble_eq_true rfl), (Nat.le_of_ble_eq_true rfl), (Nat.le_of_ble_eq_true rfl)⟩ (by decide) ?_
    refine sp_Model_usable (rg1 _) ha ?_
    refine ⟨_, rfl, ?_⟩
    refine ex_asN (a := 1) (by rw [uc]) ?_
    refine ex_if_eqN (tgt := 66) dX10_equation_27 (by decide) (by omega) (fun h27 => by exact absurd h27 (by decide)) (fun h27 => ?_)
    refine ex_iload_n (i := 2) dX10_equation_30 rfl rfl ?_
    refine ex_bipush (v := nI 10) dX10_equation_31 (by decide) ?_
    refine ex_icmp_geN (tgt := 44) dX10_equation_33 (by decide) (by omega) (by omega) (fun h33 => ?_) (fun h33 => by omega)
    refine ex_iload_n (i := 2) dX10_equation_44 rfl rfl ?_
    refine ex_bipush (v := nI 10) dX10_equation_45 (by decide) ?_
    refine ex_iremN dX10_equation_47 (by omega) (by decide) (by decide) ?_
    refine ex_iconst (v := nI 2) dX10_equation_48 (by decide) ?_
    refine ex_icmp_neN (tgt := 66) dX10_equation_49 (by decide) (by omega) (by omega) (fun h49 => by have := hd2.2 (by omega); omega) (fun h49 => ?_)
    exact P1
theorem sp_Model_equation_bad {r c o x y : Int32} (rg : RG i n sy) (hX1 : (¬ ∃ a, r = nI a ∧ a < n) → ∀ i1, Fm [] [45] i i1 → i1 56 45 = nI 1 → Q (.ok (some (.int (nI 0)))) (94, g, i1, q, RT t)) (hX2 : (∃ a, r = nI a ∧ a < n) → ∀ i1, Fm [] [45] i i1 → i1 56 45 = nI 2 → Q (.ok (some (.int (nI 0)))) (94, g, i1, q, RT t))
    (hbad : ∀ a, r = nI a → a < n → ¬ eqX (sy a) c o x y) :
    Wx m_Model_equation 0 [some (.ref 56), some (.int r), some (.int c), some (.int o), some (.int x), some (.int y), none, none, none] [] (94, g, i, q, RT t) (0, 0) Q := by
  have hn14 := rg.2.2.2.2.1
  have rg1 : ∀ v, RG (xU i 56 45 v) n sy := fun v => rg.fm (Fm.F (l := []) (ks := [45]) Fm.rf (by decide)) (by decide) (by decide) (by decide) (by decide)
  have e3 := rg.1
  by_cases hr : ∃ a, r = nI a ∧ a < n
  · have hX2' := hX2 hr
    obtain ⟨a, rfl, ha⟩ := hr
    have hbad := hbad a rfl ha
    have eI : inX (nI a) (nI 0) (nI n - nI 1) = 1 := inX_1 (by omega) ⟨a, rfl, ha⟩
    have E : Wx m_Model_equation 107 [some (.ref 56), none, none, none, none, none, none, none, none] [] (94, g, xU i 56 45 (nI 0), q, RT t) (0, 0) Q := by
      refine ex_iconst (v := nI 0) dX10_equation_107 (by decide) ?_
      refine ex_istore (L' := [some (.ref (56)), none, none, none, none, none, some (.int (nI (0))), none, none]) dX10_equation_108 (by decide) rfl ?_
      refine ex_aload_n (i := 0) dX10_equation_110 rfl rfl ?_
      refine ex_iload dX10_equation_111 rfl ?_
      refine ex_iconst (v := nI 2) dX10_equation_113 (by decide) ?_
      refine ex_cV (ν := m_Model_good) (a := 56) (ci := 10) (as := [.int (nI (0)), .int (nI (2))]) dX10_equation_114 ln_Model_141 mf_Model_good rfl (Nat.le_of_ble_eq_true rfl) rfl rfl np_Model_good rfl rfl ⟨(Nat.le_of_ble_eq_true rfl), (Nat.le_of_ble_eq_true rfl), (Nat.le_of_ble_eq_true rfl), (Nat.le_of_ble_eq_true rfl)⟩ (by decide) ?_
      refine sp_Model_good (b := 0) (by decide) ?_
      refine ⟨_, rfl, ?_⟩
      refine ex_if_neN (tgt := 122) dX10_equation_117 (by decide) (by omega) (fun h117 => by exact absurd h117 (by decide)) (fun h117 => ?_)
      refine ex_iconst (v := nI 0) dX10_equation_120 (by decide) ?_
      refine ex_iret dX10_equation_121 rfl rfl ?_
      exact hX2' _ ((Fm.rf.F (by decide)).F (by decide)) (cd_at2 _ _ _)
    cases hp : plX (sy a) c with
    | none =>
      have uc : usX (sy a) c = 0 := usX_0.mpr hp
      refine ex_aload_n (i := 0) dX10_equation_0 rfl rfl ?_
      refine ex_iload_n (i := 1) dX10_equation_1 rfl rfl ?_
      refine ex_iconst (v := nI 0) dX10_equation_2 (by decide) ?_
      refine ex_aload_n (i := 0) dX10_equation_3 rfl rfl ?_
      refine ex_getI dX10_equation_4 fl_Model_145 rfl rfl (by decide) ?_
      refine ex_asI (y := nI n) e3 ?_
      refine ex_iconst (v := nI 1) dX10_equation_7 (by decide) ?_
      refine ex_isub dX10_equation_8 ?_
      refine ex_cS (ν := m_Model_in) (as := [.int (nI (a)), .int (nI (0)), .int ((nI n) - (nI (1)))]) dX10_equation_9 ln_Model_127 mf_Model_in np_Model_in rfl rfl ⟨(Nat.le_of_ble_eq_true rfl), (Nat.le_of_ble_eq_true rfl), (Nat.le_of_ble_eq_true rfl), (Nat.le_of_ble_eq_true rfl)⟩ (by decide) ?_
      refine sp_Model_in ?_
      refine ⟨_, rfl, ?_⟩
      refine ex_asN (a := 1) (by rw [eI]) ?_
      refine ex_iconst (v := nI 1) dX10_equation_12 (by decide) ?_
      refine ex_cV (ν := m_Model_good) (a := 56) (ci := 10) (as := [.int (nI (1)), .int (nI (1))]) dX10_equation_13 ln_Model_141 mf_Model_good rfl (Nat.le_of_ble_eq_true rfl) rfl rfl np_Model_good rfl rfl ⟨(Nat.le_of_ble_eq_true rfl), (Nat.le_of_ble_eq_true rfl), (Nat.le_of_ble_eq_true rfl), (Nat.le_of_ble_eq_true rfl)⟩ (by decide) ?_
      refine sp_Model_good (b := 1) (by decide) ?_
      refine ⟨_, rfl, ?_⟩
      refine ex_if_neN (tgt := 21) dX10_equation_16 (by decide) (by omega) (fun h16 => ?_) (fun h16 => by exact absurd h16 (by decide))
      refine ex_aload_n (i := 0) dX10_equation_21 rfl rfl ?_
      refine ex_iload_n (i := 1) dX10_equation_22 rfl rfl ?_
      refine ex_iload_n (i := 2) dX10_equation_23 rfl rfl ?_
      refine ex_cV (ν := m_Model_usable) (a := 56) (ci := 10) (as := [.int (nI (a)), .int (c)]) dX10_equation_24 ln_Model_156 mf_Model_usable rfl (Nat.le_of_ble_eq_true rfl) rfl rfl np_Model_usable rfl rfl ⟨(Nat.le_of_ble_eq_true rfl), (Nat.le_of_ble_eq_true rfl), (Nat.le_of_ble_eq_true rfl), (Nat.le_of_ble_eq_true rfl)⟩ (by decide) ?_
      refine sp_Model_usable (rg1 _) ha ?_
      refine ⟨_, rfl, ?_⟩
      refine ex_asN (a := 0) (by rw [uc]) ?_
      refine ex_if_eqN (tgt := 66) dX10_equation_27 (by decide) (by omega) (fun h27 => ?_) (fun h27 => by exact absurd h27 (by decide))
      refine ex_iconst (v := nI 0) dX10_equation_66 (by decide) ?_
      refine ex_istore (L' := [some (.ref (56)), some (.int (nI (a))), some (.int (c)), some (.int (o)), some (.int (x)), some (.int (y)), some (.int (nI (0))), none, none]) dX10_equation_67 (by decide) rfl ?_
      refine ex_iload dX10_equation_69 rfl ?_
      refine ex_if_eqN (tgt := 107) dX10_equation_71 (by decide) (by omega) (fun h71 => ?_) (fun h71 => by exact absurd h71 (by decide))
      exact ex_less (L' := [some (.ref 56), none, none, none, none, none, none, none, none]) (by simp [xSub]) E
    | some p =>
      have uc : usX (sy a) c = 1 := by unfold usX; rw [hp]
      obtain ⟨cc, hcc, rfl⟩ : ∃ cc, cc < 2 ^ 31 ∧ c = nI cc := nI_of (fun z => by rw [plX_neg z] at hp; exact absurd hp (by simp))
      have hp2 : plS (sy a) cc = some p := by rw [← plX_nat hcc]; exact hp
      obtain ⟨p15, p3, pe, p10⟩ := plS_lt hp2
      have hl := lnS_le (sy a)
      by_cases hd : dfX (sy a) (nI cc) = 0
      · have hd2 : cc < 10 ∧ cc % 10 = 2 ∨ 10 ≤ cc ∧ ¬ cc % 10 = 2 := by
          unfold dfX at hd
          rw [if_neg (nI_pos hcc), nI_clamp hcc] at hd
          by_cases z : plS (sy a) cc = none ∨ cc < 10 ∧ cc % 10 = 2 ∨ 10 ≤ cc ∧ ¬ cc % 10 = 2
          · rcases z with z | z
            · rw [hp2] at z; exact absurd z (by simp)
            · exact z
          · rw [if_neg z] at hd; exact absurd hd (by decide)
        by_cases c10 : cc < 10
        ·
          refine ex_aload_n (i := 0) dX10_equation_0 rfl rfl ?_
          refine ex_iload_n (i := 1) dX10_equation_1 rfl rfl ?_
          refine ex_iconst (v := nI 0) dX10_equation_2 (by decide) ?_
          refine ex_aload_n (i := 0) dX10_equation_3 rfl rfl ?_
          refine ex_getI dX10_equation_4 fl_Model_145 rfl rfl (by decide) ?_
          refine ex_asI (y := nI n) e3 ?_
          refine ex_iconst (v := nI 1) dX10_equation_7 (by decide) ?_
          refine ex_isub dX10_equation_8 ?_
          refine ex_cS (ν := m_Model_in) (as := [.int (nI (a)), .int (nI (0)), .int ((nI n) - (nI (1)))]) dX10_equation_9 ln_Model_127 mf_Model_in np_Model_in rfl rfl ⟨(Nat.le_of_ble_eq_true rfl), (Nat.le_of_ble_eq_true rfl), (Nat.le_of_ble_eq_true rfl), (Nat.le_of_ble_eq_true rfl)⟩ (by decide) ?_
          refine sp_Model_in ?_
          refine ⟨_, rfl, ?_⟩
          refine ex_asN (a := 1) (by rw [eI]) ?_
          refine ex_iconst (v := nI 1) dX10_equation_12 (by decide) ?_
          refine ex_cV (ν := m_Model_good) (a := 56) (ci := 10) (as := [.int (nI (1)), .int (nI (1))]) dX10_equation_13 ln_Model_141 mf_Model_good rfl (Nat.le_of_ble_eq_true rfl) rfl rfl np_Model_good rfl rfl ⟨(Nat.le_of_ble_eq_true rfl), (Nat.le_of_ble_eq_true rfl), (Nat.le_of_ble_eq_true rfl), (Nat.le_of_ble_eq_true rfl)⟩ (by decide) ?_
          refine sp_Model_good (b := 1) (by decide) ?_
          refine ⟨_, rfl, ?_⟩
          refine ex_if_neN (tgt := 21) dX10_equation_16 (by decide) (by omega) (fun h16 => ?_) (fun h16 => by exact absurd h16 (by decide))
          refine ex_aload_n (i := 0) dX10_equation_21 rfl rfl ?_
          refine ex_iload_n (i := 1) dX10_equation_22 rfl rfl ?_
          refine ex_iload_n (i := 2) dX10_equation_23 rfl rfl ?_
          refine ex_cV (ν := m_Model_usable) (a := 56) (ci := 10) (as := [.int (nI (a)), .int (nI (cc))]) dX10_equation_24 ln_Model_156 mf_Model_usable rfl (Nat.le_of_ble_eq_true rfl) rfl rfl np_Model_usable rfl rfl ⟨(Nat.le_of_ble_eq_true rfl), (Nat.le_of_ble_eq_true rfl), (Nat.le_of_ble_eq_true rfl), (Nat.le_of_ble_eq_true rfl)⟩ (by decide) ?_
          refine sp_Model_usable (rg1 _) ha ?_
          refine ⟨_, rfl, ?_⟩
          refine ex_asN (a := 1) (by rw [uc]) ?_
          refine ex_if_eqN (tgt := 66) dX10_equation_27 (by decide) (by omega) (fun h27 => by exact absurd h27 (by decide)) (fun h27 => ?_)
          refine ex_iload_n (i := 2) dX10_equation_30 rfl rfl ?_
          refine ex_bipush (v := nI 10) dX10_equation_31 (by decide) ?_
          refine ex_icmp_geN (tgt := 44) dX10_equation_33 (by decide) (by omega) (by omega) (fun h33 => by omega) (fun h33 => ?_)
          refine ex_iload_n (i := 2) dX10_equation_36 rfl rfl ?_
          refine ex_iconst (v := nI 2) dX10_equation_37 (by decide) ?_
          refine ex_icmp_geN (tgt := 66) dX10_equation_38 (by decide) (by omega) (by omega) (fun h38 => ?_) (fun h38 => by omega)
          refine ex_iconst (v := nI 0) dX10_equation_66 (by decide) ?_
          refine ex_istore (L' := [some (.ref (56)), some (.int (nI (a))), some (.int (nI (cc))), some (.int (o)), some (.int (x)), some (.int (y)), some (.int (nI (0))), none, none]) dX10_equation_67 (by decide) rfl ?_
          refine ex_iload dX10_equation_69 rfl ?_
          refine ex_if_eqN (tgt := 107) dX10_equation_71 (by decide) (by omega) (fun h71 => ?_) (fun h71 => by exact absurd h71 (by decide))
          exact ex_less (L' := [some (.ref 56), none, none, none, none, none, none, none, none]) (by simp [xSub]) E
        ·
          refine ex_aload_n (i := 0) dX10_equation_0 rfl rfl ?_
          refine ex_iload_n (i := 1) dX10_equation_1 rfl rfl ?_
          refine ex_iconst (v := nI 0) dX10_equation_2 (by decide) ?_
          refine ex_aload_n (i := 0) dX10_equation_3 rfl rfl ?_
          refine ex_getI dX10_equation_4 fl_Model_145 rfl rfl (by decide) ?_
          refine ex_asI (y := nI n) e3 ?_
          refine ex_iconst (v := nI 1) dX10_equation_7 (by decide) ?_
          refine ex_isub dX10_equation_8 ?_
          refine ex_cS (ν := m_Model_in) (as := [.int (nI (a)), .int (nI (0)), .int ((nI n) - (nI (1)))]) dX10_equation_9 ln_Model_127 mf_Model_in np_Model_in rfl rfl ⟨(Nat.le_of_ble_eq_true rfl), (Nat.le_of_ble_eq_true rfl), (Nat.le_of_ble_eq_true rfl), (Nat.le_of_ble_eq_true rfl)⟩ (by decide) ?_
          refine sp_Model_in ?_
          refine ⟨_, rfl, ?_⟩
          refine ex_asN (a := 1) (by rw [eI]) ?_
          refine ex_iconst (v := nI 1) dX10_equation_12 (by decide) ?_
          refine ex_cV (ν := m_Model_good) (a := 56) (ci := 10) (as := [.int (nI (1)), .int (nI (1))]) dX10_equation_13 ln_Model_141 mf_Model_good rfl (Nat.le_of_ble_eq_true rfl) rfl rfl np_Model_good rfl rfl ⟨(Nat.le_of_ble_eq_true rfl), (Nat.le_of_ble_eq_true rfl), (Nat.le_of_ble_eq_true rfl), (Nat.le_of_ble_eq_true rfl)⟩ (by decide) ?_
          refine sp_Model_good (b := 1) (by decide) ?_
          refine ⟨_, rfl, ?_⟩
          refine ex_if_neN (tgt := 21) dX10_equation_16 (by decide) (by omega) (fun h16 => ?_) (fun h16 => by exact absurd h16 (by decide))
          refine ex_aload_n (i := 0) dX10_equation_21 rfl rfl ?_
          refine ex_iload_n (i := 1) dX10_equation_22 rfl rfl ?_
          refine ex_iload_n (i := 2) dX10_equation_23 rfl rfl ?_
          refine ex_cV (ν := m_Model_usable) (a := 56) (ci := 10) (as := [.int (nI (a)), .int (nI (cc))]) dX10_equation_24 ln_Model_156 mf_Model_usable rfl (Nat.le_of_ble_eq_true rfl) rfl rfl np_Model_usable rfl rfl ⟨(Nat.le_of_ble_eq_true rfl), (Nat.le_of_ble_eq_true rfl), (Nat.le_of_ble_eq_true rfl), (Nat.le_of_ble_eq_true rfl)⟩ (by decide) ?_
          refine sp_Model_usable (rg1 _) ha ?_
          refine ⟨_, rfl, ?_⟩
          refine ex_asN (a := 1) (by rw [uc]) ?_
          refine ex_if_eqN (tgt := 66) dX10_equation_27 (by decide) (by omega) (fun h27 => by exact absurd h27 (by decide)) (fun h27 => ?_)
          refine ex_iload_n (i := 2) dX10_equation_30 rfl rfl ?_
          refine ex_bipush (v := nI 10) dX10_equation_31 (by decide) ?_
          refine ex_icmp_geN (tgt := 44) dX10_equation_33 (by decide) (by omega) (by omega) (fun h33 => ?_) (fun h33 => by omega)
          refine ex_iload_n (i := 2) dX10_equation_44 rfl rfl ?_
          refine ex_bipush (v := nI 10) dX10_equation_45 (by decide) ?_
          refine ex_iremN dX10_equation_47 (by omega) (by decide) (by decide) ?_
          refine ex_iconst (v := nI 2) dX10_equation_48 (by decide) ?_
          refine ex_icmp_neN (tgt := 66) dX10_equation_49 (by decide) (by omega) (by omega) (fun h49 => ?_) (fun h49 => by omega)
          refine ex_iconst (v := nI 0) dX10_equation_66 (by decide) ?_
          refine ex_istore (L' := [some (.ref (56)), some (.int (nI (a))), some (.int (nI (cc))), some (.int (o)), some (.int (x)), some (.int (y)), some (.int (nI (0))), none, none]) dX10_equation_67 (by decide) rfl ?_
          refine ex_iload dX10_equation_69 rfl ?_
          refine ex_if_eqN (tgt := 107) dX10_equation_71 (by decide) (by omega) (fun h71 => ?_) (fun h71 => by exact absurd h71 (by decide))
          exact ex_less (L' := [some (.ref 56), none, none, none, none, none, none, none, none]) (by simp [xSub]) E
      · have hd2 : (cc < 10 → ¬ cc % 10 = 2) ∧ (10 ≤ cc → cc % 10 = 2) := by
          unfold dfX at hd
          rw [if_neg (nI_pos hcc), nI_clamp hcc] at hd
          by_cases z : plS (sy a) cc = none ∨ cc < 10 ∧ cc % 10 = 2 ∨ 10 ≤ cc ∧ ¬ cc % 10 = 2
          · rw [if_pos z] at hd; exact absurd rfl hd
          · exact ⟨fun h1 h2 => z (Or.inr (Or.inl ⟨h1, h2⟩)), fun h1 => Classical.byContradiction fun h2 => z (Or.inr (Or.inr ⟨h1, h2⟩))⟩
        have P1 : Wx m_Model_equation 52 [some (.ref 56), some (.int (nI a)), some (.int (nI cc)), some (.int o), some (.int x), some (.int y), none, none, none] [] (94, g, xU i 56 45 (nI 0), q, RT t) (0, 0) Q := by
          by_cases hk : ∃ k, o = nI k ∧ k < 7 + 1
          · have eI : inX o (nI 0) (nI 7) = 1 := inX_c1 (by decide) hk
            obtain ⟨k, rfl, hk⟩ := hk
            have hb2 : (1 ≤ k ∧ plX (sy a) x = none) ∨ (2 ≤ k ∧ plX (sy a) y = none) := by
              by_cases z1 : 1 ≤ k ∧ plX (sy a) x = none
              · exact Or.inl z1
              · by_cases z2 : 2 ≤ k ∧ plX (sy a) y = none
                · exact Or.inr z2
                · exact absurd ⟨hd, k, rfl, by omega, fun h e => z1 ⟨h, e⟩, fun h e => z2 ⟨h, e⟩⟩ hbad
            by_cases hx : plX (sy a) x = none
            · have ux : usX (sy a) x = 0 := usX_0.mpr hx
              by_cases k0 : k = 0
              · omega
              ·
                refine ex_iload_n (i := 3) dX10_equation_52 rfl rfl ?_
                refine ex_iconst (v := nI 0) dX10_equation_53 (by decide) ?_
                refine ex_bipush (v := nI 7) dX10_equation_54 (by decide) ?_
                refine ex_cS (ν := m_Model_in) (as := [.int (nI (k)), .int (nI (0)), .int (nI (7))]) dX10_equation_56 ln_Model_127 mf_Model_in np_Model_in rfl rfl ⟨(Nat.le_of_ble_eq_true rfl), (Nat.le_of_ble_eq_true rfl), (Nat.le_of_ble_eq_true rfl), (Nat.le_of_ble_eq_true rfl)⟩ (by decide) ?_
                refine sp_Model_in ?_
                refine ⟨_, rfl, ?_⟩
                refine ex_asN (a := 1) (by rw [eI]) ?_
                refine ex_if_eqN (tgt := 66) dX10_equation_59 (by decide) (by omega) (fun h59 => by exact absurd h59 (by decide)) (fun h59 => ?_)
                refine ex_iconst (v := nI 1) dX10_equation_62 (by decide) ?_
                refine ex_goto (tgt := 67) dX10_equation_63 (by decide) ?_
                refine ex_istore (L' := [some (.ref (56)), some (.int (nI (a))), some (.int (nI (cc))), some (.int (nI (k))), some (.int (x)), some (.int (y)), some (.int (nI (1))), none, none]) dX10_equation_67 (by decide) rfl ?_
                refine ex_iload dX10_equation_69 rfl ?_
                refine ex_if_eqN (tgt := 107) dX10_equation_71 (by decide) (by omega) (fun h71 => by exact absurd h71 (by decide)) (fun h71 => ?_)
                refine ex_iload_n (i := 3) dX10_equation_74 rfl rfl ?_
                refine ex_if_eqN (tgt := 88) dX10_equation_75 (by decide) (by omega) (fun h75 => by omega) (fun h75 => ?_)
                refine ex_aload_n (i := 0) dX10_equation_78 rfl rfl ?_
                refine ex_iload_n (i := 1) dX10_equation_79 rfl rfl ?_
                refine ex_iload dX10_equation_80 rfl ?_
                refine ex_cV (ν := m_Model_usable) (a := 56) (ci := 10) (as := [.int (nI (a)), .int (x)]) dX10_equation_82 ln_Model_156 mf_Model_usable rfl (Nat.le_of_ble_eq_true rfl) rfl rfl np_Model_usable rfl rfl ⟨(Nat.le_of_ble_eq_true rfl), (Nat.le_of_ble_eq_true rfl), (Nat.le_of_ble_eq_true rfl), (Nat.le_of_ble_eq_true rfl)⟩ (by decide) ?_
                refine sp_Model_usable (rg1 _) ha ?_
                refine ⟨_, rfl, ?_⟩
                refine ex_asN (a := 0) (by rw [ux]) ?_
                refine ex_if_eqN (tgt := 107) dX10_equation_85 (by decide) (by omega) (fun h85 => ?_) (fun h85 => by exact absurd h85 (by decide))
                exact ex_less (L' := [some (.ref 56), none, none, none, none, none, none, none, none]) (by simp [xSub]) E
            · have ux : usX (sy a) x = 1 := by
                have := usX_01 (sy a) x
                have h0 : ¬ usX (sy a) x = 0 := fun z => hx (usX_0.mp z)
                omega
              have hy := (hb2.resolve_left (fun z => hx z.2))
              have uy : usX (sy a) y = 0 := usX_0.mpr hy.2
              have := hy.1
              refine ex_iload_n (i := 3) dX10_equation_52 rfl rfl ?_
              refine ex_iconst (v := nI 0) dX10_equation_53 (by decide) ?_
              refine ex_bipush (v := nI 7) dX10_equation_54 (by decide) ?_
              refine ex_cS (ν := m_Model_in) (as := [.int (nI (k)), .int (nI (0)), .int (nI (7))]) dX10_equation_56 ln_Model_127 mf_Model_in np_Model_in rfl rfl ⟨(Nat.le_of_ble_eq_true rfl), (Nat.le_of_ble_eq_true rfl), (Nat.le_of_ble_eq_true rfl), (Nat.le_of_ble_eq_true rfl)⟩ (by decide) ?_
              refine sp_Model_in ?_
              refine ⟨_, rfl, ?_⟩
              refine ex_asN (a := 1) (by rw [eI]) ?_
              refine ex_if_eqN (tgt := 66) dX10_equation_59 (by decide) (by omega) (fun h59 => by exact absurd h59 (by decide)) (fun h59 => ?_)
              refine ex_iconst (v := nI 1) dX10_equation_62 (by decide) ?_
              refine ex_goto (tgt := 67) dX10_equation_63 (by decide) ?_
              refine ex_istore (L' := [some (.ref (56)), some (.int (nI (a))), some (.int (nI (cc))), some (.int (nI (k))), some (.int (x)), some (.int (y)), some (.int (nI (1))), none, none]) dX10_equation_67 (by decide) rfl ?_
              refine ex_iload dX10_equation_69 rfl ?_
              refine ex_if_eqN (tgt := 107) dX10_equation_71 (by decide) (by omega) (fun h71 => by exact absurd h71 (by decide)) (fun h71 => ?_)
              refine ex_iload_n (i := 3) dX10_equation_74 rfl rfl ?_
              refine ex_if_eqN (tgt := 88) dX10_equation_75 (by decide) (by omega) (fun h75 => by omega) (fun h75 => ?_)
              refine ex_aload_n (i := 0) dX10_equation_78 rfl rfl ?_
              refine ex_iload_n (i := 1) dX10_equation_79 rfl rfl ?_
              refine ex_iload dX10_equation_80 rfl ?_
              refine ex_cV (ν := m_Model_usable) (a := 56) (ci := 10) (as := [.int (nI (a)), .int (x)]) dX10_equation_82 ln_Model_156 mf_Model_usable rfl (Nat.le_of_ble_eq_true rfl) rfl rfl np_Model_usable rfl rfl ⟨(Nat.le_of_ble_eq_true rfl), (Nat.le_of_ble_eq_true rfl), (Nat.le_of_ble_eq_true rfl), (Nat.le_of_ble_eq_true rfl)⟩ (by decide) ?_
              refine sp_Model_usable (rg1 _) ha ?_
              refine ⟨_, rfl, ?_⟩
              refine ex_asN (a := 1) (by rw [ux]) ?_
              refine ex_if_eqN (tgt := 107) dX10_equation_85 (by decide) (by omega) (fun h85 => by exact absurd h85 (by decide)) (fun h85 => ?_)
              refine ex_iload_n (i := 3) dX10_equation_88 rfl rfl ?_
              refine ex_iconst (v := nI 2) dX10_equation_89 (by decide) ?_
              refine ex_icmp_ltN (tgt := 103) dX10_equation_90 (by decide) (by omega) (by omega) (fun h90 => by omega) (fun h90 => ?_)
              refine ex_aload_n (i := 0) dX10_equation_93 rfl rfl ?_
              refine ex_iload_n (i := 1) dX10_equation_94 rfl rfl ?_
              refine ex_iload dX10_equation_95 rfl ?_
              refine ex_cV (ν := m_Model_usable) (a := 56) (ci := 10) (as := [.int (nI (a)), .int (y)]) dX10_equation_97 ln_Model_156 mf_Model_usable rfl (Nat.le_of_ble_eq_true rfl) rfl rfl np_Model_usable rfl rfl ⟨(Nat.le_of_ble_eq_true rfl), (Nat.le_of_ble_eq_true rfl), (Nat.le_of_ble_eq_true rfl), (Nat.le_of_ble_eq_true rfl)⟩ (by decide) ?_
              refine sp_Model_usable (rg1 _) ha ?_
              refine ⟨_, rfl, ?_⟩
              refine ex_asN (a := 0) (by rw [uy]) ?_
              refine ex_if_eqN (tgt := 107) dX10_equation_100 (by decide) (by omega) (fun h100 => ?_) (fun h100 => by exact absurd h100 (by decide))
              exact ex_less (L' := [some (.ref 56), none, none, none, none, none, none, none, none]) (by simp [xSub]) E
          · have eI : inX o (nI 0) (nI 7) = 0 := inX_c0 (by decide) hk
            refine ex_iload_n (i := 3) dX10_equation_52 rfl rfl ?_
            refine ex_iconst (v := nI 0) dX10_equation_53 (by decide) ?_
            refine ex_bipush (v := nI 7) dX10_equation_54 (by decide) ?_
            refine ex_cS (ν := m_Model_in) (as := [.int (o), .int (nI (0)), .int (nI (7))]) dX10_equation_56 ln_Model_127 mf_Model_in np_Model_in rfl rfl ⟨(Nat.le_of_ble_eq_true rfl), (Nat.le_of_ble_eq_true rfl), (Nat.le_of_ble_eq_true rfl), (Nat.le_of_ble_eq_true rfl)⟩ (by decide) ?_
            refine sp_Model_in ?_
            refine ⟨_, rfl, ?_⟩
            refine ex_asN (a := 0) (by rw [eI]) ?_
            refine ex_if_eqN (tgt := 66) dX10_equation_59 (by decide) (by omega) (fun h59 => ?_) (fun h59 => by exact absurd h59 (by decide))
            refine ex_iconst (v := nI 0) dX10_equation_66 (by decide) ?_
            refine ex_istore (L' := [some (.ref (56)), some (.int (nI (a))), some (.int (nI (cc))), some (.int (o)), some (.int (x)), some (.int (y)), some (.int (nI (0))), none, none]) dX10_equation_67 (by decide) rfl ?_
            refine ex_iload dX10_equation_69 rfl ?_
            refine ex_if_eqN (tgt := 107) dX10_equation_71 (by decide) (by omega) (fun h71 => ?_) (fun h71 => by exact absurd h71 (by decide))
            exact ex_less (L' := [some (.ref 56), none, none, none, none, none, none, none, none]) (by simp [xSub]) E
        by_cases c10 : cc < 10
        ·
          refine ex_aload_n (i := 0) dX10_equation_0 rfl rfl ?_
          refine ex_iload_n (i := 1) dX10_equation_1 rfl rfl ?_
          refine ex_iconst (v := nI 0) dX10_equation_2 (by decide) ?_
          refine ex_aload_n (i := 0) dX10_equation_3 rfl rfl ?_
          refine ex_getI dX10_equation_4 fl_Model_145 rfl rfl (by decide) ?_
          refine ex_asI (y := nI n) e3 ?_
          refine ex_iconst (v := nI 1) dX10_equation_7 (by decide) ?_
          refine ex_isub dX10_equation_8 ?_
          refine ex_cS (ν := m_Model_in) (as := [.int (nI (a)), .int (nI (0)), .int ((nI n) - (nI (1)))]) dX10_equation_9 ln_Model_127 mf_Model_in np_Model_in rfl rfl ⟨(Nat.le_of_ble_eq_true rfl), (Nat.le_of_ble_eq_true rfl), (Nat.le_of_ble_eq_true rfl), (Nat.le_of_ble_eq_true rfl)⟩ (by decide) ?_
          refine sp_Model_in ?_
          refine ⟨_, rfl, ?_⟩
          refine ex_asN (a := 1) (by rw [eI]) ?_
          refine ex_iconst (v := nI 1) dX10_equation_12 (by decide) ?_
          refine ex_cV (ν := m_Model_good) (a := 56) (ci := 10) (as := [.int (nI (1)), .int (nI (1))]) dX10_equation_13 ln_Model_141 mf_Model_good rfl (Nat.le_of_ble_eq_true rfl) rfl rfl np_Model_good rfl rfl ⟨(Nat.le_of_ble_eq_true rfl), (Nat.le_of_ble_eq_true rfl), (Nat.le_of_ble_eq_true rfl), (Nat.le_of_ble_eq_true rfl)⟩ (by decide) ?_
          refine sp_Model_good (b := 1) (by decide) ?_
          refine ⟨_, rfl, ?_⟩
          refine ex_if_neN (tgt := 21) dX10_equation_16 (by decide) (by omega) (fun h16 => ?_) (fun h16 => by exact absurd h16 (by decide))
          refine ex_aload_n (i := 0) dX10_equation_21 rfl rfl ?_
          refine ex_iload_n (i := 1) dX10_equation_22 rfl rfl ?_
          refine ex_iload_n (i := 2) dX10_equation_23 rfl rfl ?_
          refine ex_cV (ν := m_Model_usable) (a := 56) (ci := 10) (as := [.int (nI (a)), .int (nI (cc))]) dX10_equation_24 ln_Model_156 mf_Model_usable rfl (Nat.le_of_ble_eq_true rfl) rfl rfl np_Model_usable rfl rfl ⟨(Nat.le_of_ble_eq_true rfl), (Nat.le_of_ble_eq_true rfl), (Nat.le_of_ble_eq_true rfl), (Nat.le_of_ble_eq_true rfl)⟩ (by decide) ?_
          refine sp_Model_usable (rg1 _) ha ?_
          refine ⟨_, rfl, ?_⟩
          refine ex_asN (a := 1) (by rw [uc]) ?_
          refine ex_if_eqN (tgt := 66) dX10_equation_27 (by decide) (by omega) (fun h27 => by exact absurd h27 (by decide)) (fun h27 => ?_)
          refine ex_iload_n (i := 2) dX10_equation_30 rfl rfl ?_
          refine ex_bipush (v := nI 10) dX10_equation_31 (by decide) ?_
          refine ex_icmp_geN (tgt := 44) dX10_equation_33 (by decide) (by omega) (by omega) (fun h33 => by omega) (fun h33 => ?_)
          refine ex_iload_n (i := 2) dX10_equation_36 rfl rfl ?_
          refine ex_iconst (v := nI 2) dX10_equation_37 (by decide) ?_
          refine ex_icmp_geN (tgt := 66) dX10_equation_38 (by decide) (by omega) (by omega) (fun h38 => by have := hd2.1 c10; omega) (fun h38 => ?_)
          refine ex_goto (tgt := 52) dX10_equation_41 (by decide) ?_
          exact P1
        ·
          refine ex_aload_n (i := 0) dX10_equation_0 rfl rfl ?_
          refine ex_iload_n (i := 1) dX10_equation_1 rfl rfl ?_
          refine ex_iconst (v := nI 0) dX10_equation_2 (by decide) ?_
          refine ex_aload_n (i := 0) dX10_equation_3 rfl rfl ?_
          refine ex_getI dX10_equation_4 fl_Model_145 rfl rfl (by decide) ?_
          refine ex_asI (y := nI n) e3 ?_
          refine ex_iconst (v := nI 1) dX10_equation_7 (by decide) ?_
          refine ex_isub dX10_equation_8 ?_
          refine ex_cS (ν := m_Model_in) (as := [.int (nI (a)), .int (nI (0)), .int ((nI n) - (nI (1)))]) dX10_equation_9 ln_Model_127 mf_Model_in np_Model_in rfl rfl ⟨(Nat.le_of_ble_eq_true rfl), (Nat.le_of_ble_eq_true rfl), (Nat.le_of_ble_eq_true rfl), (Nat.le_of_ble_eq_true rfl)⟩ (by decide) ?_
          refine sp_Model_in ?_
          refine ⟨_, rfl, ?_⟩
          refine ex_asN (a := 1) (by rw [eI]) ?_
          refine ex_iconst (v := nI 1) dX10_equation_12 (by decide) ?_
          refine ex_cV (ν := m_Model_good) (a := 56) (ci := 10) (as := [.int (nI (1)), .int (nI (1))]) dX10_equation_13 ln_Model_141 mf_Model_good rfl (Nat.le_of_ble_eq_true rfl) rfl rfl np_Model_good rfl rfl ⟨(Nat.le_of_ble_eq_true rfl), (Nat.le_of_ble_eq_true rfl), (Nat.le_of_ble_eq_true rfl), (Nat.le_of_ble_eq_true rfl)⟩ (by decide) ?_
          refine sp_Model_good (b := 1) (by decide) ?_
          refine ⟨_, rfl, ?_⟩
          refine ex_if_neN (tgt := 21) dX10_equation_16 (by decide) (by omega) (fun h16 => ?_) (fun h16 => by exact absurd h16 (by decide))
          refine ex_aload_n (i := 0) dX10_equation_21 rfl rfl ?_
          refine ex_iload_n (i := 1) dX10_equation_22 rfl rfl ?_
          refine ex_iload_n (i := 2) dX10_equation_23 rfl rfl ?_
          refine ex_cV (ν := m_Model_usable) (a := 56) (ci := 10) (as := [.int (nI (a)), .int (nI (cc))]) dX10_equation_24 ln_Model_156 mf_Model_usable rfl (Nat.le_of_ble_eq_true rfl) rfl rfl np_Model_usable rfl rfl ⟨(Nat.le_of_ble_eq_true rfl), (Nat.le_of_ble_eq_true rfl), (Nat.le_of_ble_eq_true rfl), (Nat.le_of_ble_eq_true rfl)⟩ (by decide) ?_
          refine sp_Model_usable (rg1 _) ha ?_
          refine ⟨_, rfl, ?_⟩
          refine ex_asN (a := 1) (by rw [uc]) ?_
          refine ex_if_eqN (tgt := 66) dX10_equation_27 (by decide) (by omega) (fun h27 => by exact absurd h27 (by decide)) (fun h27 => ?_)
          refine ex_iload_n (i := 2) dX10_equation_30 rfl rfl ?_
          refine ex_bipush (v := nI 10) dX10_equation_31 (by decide) ?_
          refine ex_icmp_geN (tgt := 44) dX10_equation_33 (by decide) (by omega) (by omega) (fun h33 => ?_) (fun h33 => by omega)
          refine ex_iload_n (i := 2) dX10_equation_44 rfl rfl ?_
          refine ex_bipush (v := nI 10) dX10_equation_45 (by decide) ?_
          refine ex_iremN dX10_equation_47 (by omega) (by decide) (by decide) ?_
          refine ex_iconst (v := nI 2) dX10_equation_48 (by decide) ?_
          refine ex_icmp_neN (tgt := 66) dX10_equation_49 (by decide) (by omega) (by omega) (fun h49 => by have := hd2.2 (by omega); omega) (fun h49 => ?_)
          exact P1
  · have eI : inX r (nI 0) (nI n - nI 1) = 0 := inX_0 (by omega) hr
    refine ex_aload_n (i := 0) dX10_equation_0 rfl rfl ?_
    refine ex_iload_n (i := 1) dX10_equation_1 rfl rfl ?_
    refine ex_iconst (v := nI 0) dX10_equation_2 (by decide) ?_
    refine ex_aload_n (i := 0) dX10_equation_3 rfl rfl ?_
    refine ex_getI dX10_equation_4 fl_Model_145 rfl rfl (by decide) ?_
    refine ex_asI (y := nI n) e3 ?_
    refine ex_iconst (v := nI 1) dX10_equation_7 (by decide) ?_
    refine ex_isub dX10_equation_8 ?_
    refine ex_cS (ν := m_Model_in) (as := [.int (r), .int (nI (0)), .int ((nI n) - (nI (1)))]) dX10_equation_9 ln_Model_127 mf_Model_in np_Model_in rfl rfl ⟨(Nat.le_of_ble_eq_true rfl), (Nat.le_of_ble_eq_true rfl), (Nat.le_of_ble_eq_true rfl), (Nat.le_of_ble_eq_true rfl)⟩ (by decide) ?_
    refine sp_Model_in ?_
    refine ⟨_, rfl, ?_⟩
    refine ex_asN (a := 0) (by rw [eI]) ?_
    refine ex_iconst (v := nI 1) dX10_equation_12 (by decide) ?_
    refine ex_cV (ν := m_Model_good) (a := 56) (ci := 10) (as := [.int (nI (0)), .int (nI (1))]) dX10_equation_13 ln_Model_141 mf_Model_good rfl (Nat.le_of_ble_eq_true rfl) rfl rfl np_Model_good rfl rfl ⟨(Nat.le_of_ble_eq_true rfl), (Nat.le_of_ble_eq_true rfl), (Nat.le_of_ble_eq_true rfl), (Nat.le_of_ble_eq_true rfl)⟩ (by decide) ?_
    refine sp_Model_good (b := 0) (by decide) ?_
    refine ⟨_, rfl, ?_⟩
    refine ex_if_neN (tgt := 21) dX10_equation_16 (by decide) (by omega) (fun h16 => by exact absurd h16 (by decide)) (fun h16 => ?_)
    refine ex_iconst (v := nI 0) dX10_equation_19 (by decide) ?_
    refine ex_iret dX10_equation_20 rfl rfl ?_
    exact hX1 hr _ (Fm.rf.F (by decide)) (cd_at _ _)
end S63
