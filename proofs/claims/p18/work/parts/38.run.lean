/-! ===== Parser.run against a machine of numbers ===== -/
def tkA (nt : Nat) (TT : Nat → Nat) (nx : Nat) : Nat := if nx < nt then TT nx else 0
/-- what holds at the end (R) of a run of the parser: outcome, nodes made, their facts, their tokens' numbers -/
def LrP (D : Nat → Nat → Int32) (G : Nat → Nat → Nat) (n : Nat) (sy : Nat → Nat → Nat) (nt : Nat) (TT : Nat → Nat) (R : Int32 → Nat → (Nat → Int32) → (Nat → Int32) → Prop) : Nat → Nat → Nat → Nat → (Nat → Nat) → (Nat → Nat) → (Nat → Int32) → (Nat → Int32) → Prop
  | 0, nx, h, md, ss, _, nd, tk => if D (ss (h - 1)) (tkA nt TT nx) = nI 1000 then R (-1) md nd tk else if D (ss (h - 1)) (tkA nt TT nx) = nI 0 then R (nI nx) md nd tk else R (-2) md nd tk
  | f + 1, nx, h, md, ss, sn, nd, tk => if D (ss (h - 1)) (tkA nt TT nx) = nI 1000 then R (-1) md nd tk else if D (ss (h - 1)) (tkA nt TT nx) = nI 0 then R (nI nx) md nd tk else
      (∃ s, D (ss (h - 1)) (tkA nt TT nx) = nI s ∧ 0 < s ∧ s < 50 ∧ nx < nt ∧ LrP D G n sy nt TT R f (nx + 1) (h + 1) (md + 1) (upN ss h s) (upN sn h md) (rnN nd md (nI (tkA nt TT nx)) (-1)) (upd tk md (nI nx))) ∨
      (∃ r hb, D (ss (h - 1)) (tkA nt TT nx) = -1 - nI r ∧ r < n ∧ h = hb + lnR sy r ∧ 1 ≤ hb ∧ G (ss (hb - 1)) (sy r 0) < 50 ∧ LrP D G n sy nt TT R f nx (hb + 1) (md + 1) (upN ss hb (G (ss (hb - 1)) (sy r 0))) (upN sn hb md) (chN sn hb md (lnR sy r) 1 (rnN nd md (nI (sy r 0)) (nI r))) (upd tk md (-1)))
theorem rd_1 {r : Nat} (h : r < 14) : (-1 : Int32) - (-1 - nI r) = nI r ∧ (-1 - nI r : Int32) ≤ 0 := by
  have h2 : ∀ r : Fin 14, (-1 : Int32) - (-1 - nI r.val) = nI r.val ∧ (-1 - nI r.val : Int32) ≤ 0 := by decide +kernel
  exact h2 ⟨r, h⟩
/-- the values of token nodes -/
def tvQ (V : Nat) (i : Nat → Nat → Int32) (q : Nat → Nat → Int64) (nt md : Nat) (nd tk : Nat → Int32) : Prop := ∀ j, j < md → nd (j * 8 + 1) < 0 → ∃ b, b < nt ∧ tk j = nI b ∧ q V (j * 3) = (i 36 b).toInt64 ∧ q V (j * 3 + 1) = (nI b).toInt64 ∧ q V (j * 3 + 2) = 0
theorem rnN_1 {nd : Nat → Int32} {md j : Nat} {x y : Int32} : rnN nd md x y (j * 8 + 1) = if j = md then y else nd (j * 8 + 1) := by
  unfold rnN upd
  rw [if_neg (by omega), if_neg (by omega)]
  by_cases e : j = md
  · subst e; rw [if_pos rfl, if_pos rfl]
  · rw [if_neg (by omega), if_neg (by omega), if_neg e]
theorem chN_1 {sn : Nat → Nat} {hb md j : Nat} : ∀ {d k : Nat} {nd : Nat → Int32}, 1 ≤ k → k + d ≤ 5 → chN sn hb md d k nd (j * 8 + 1) = nd (j * 8 + 1)
  | 0, _, _, _, _ => rfl
  | d + 1, k, nd, h1, h5 => by
    show chN sn hb md d (k + 1) (scN nd md k (sn (hb + k - 1))) (j * 8 + 1) = _
    rw [chN_1 (by omega) (by omega)]
    unfold scN upd
    rw [if_neg (by omega), if_neg (by omega), if_neg (by omega)]
theorem toInt64_0 : (nI 0).toInt64 = 0 := by decide
section S38
variable {ζ g : Nat} {i : Nat → Nat → Int32} {q : Nat → Nat → Int64} {t : Bool} {Q : xRes → xMem → Prop} {n : Nat} {sy : Nat → Nat → Nat} {D : Nat → Nat → Int32} {G : Nat → Nat → Nat} {nt : Nat} {TT : Nat → Nat}
theorem lp_Parser_run_46 {R : Int32 → Nat → (Nat → Int32) → (Nat → Int32) → Prop} (sc : SC i) (gs : GS i n sy) (h6 : i 32 6 = nI nt) (hnt : nt ≤ 40) (hTT : ∀ j, j < nt → i 34 j = nI (TT j) ∧ 1 ≤ TT j ∧ TT j ≤ 6) (hD : ∀ s x, s < 50 → x < 7 → i 26 (s * 7 + x) = D s x) (hG : ∀ s x, s < 50 → 8 ≤ x → x < 14 → i 24 (s * 14 + x) = nI (G s x))
    (hQ : (∀ o md nd tk i1 q1, R o md nd tk → Fr [32, 38, 40, 46, 48] i i1 → i1 32 6 = i 32 6 → i1 46 2 = nI md → md ≤ 150 → i1 48 = nd → (∀ c, c ≠ 50 → q1 c = q c) → tvQ 50 i q1 nt md nd tk → Q (.ok (some (.int o))) (56 + ζ, g, i1, q1, RT t))) :
    ∀ f nx h md ss sn nd tk i1 q1, f + md = 150 → nx ≤ nt → Fr [32, 38, 40, 46, 48] i i1 → i1 32 6 = i 32 6 → PS 46 48 i1 h md ss sn nd → (∀ c, c ≠ 50 → q1 c = q c) → tvQ 50 i q1 nt md nd tk → LrP D G n sy nt TT R f nx h md ss sn nd tk →
      Wx m_Parser_run 19 [some (.ref 32), some (.ref 46), some (.int (nI nx)), some (.int (nI md)), none, none] [] (56 + ζ, g, i1, q1, RT t) (0, 0) Q := by
  intro f
  induction f with
  | zero =>
    intro nx h md ss sn nd tk i1 q1 hf hnx hfr e6 hp hqf htv hL
    obtain ⟨p1, p2, p3, p4, p5, p6⟩ := hp
    have sc1 : SC i1 := SC_Fr (l := [32, 38, 40, 46, 48]) rfl hfr sc
    have hs := p5 (h - 1) (by omega)
    have hx7 : tkA nt TT nx < 7 := by unfold tkA; split; · have := (hTT nx (by assumption)).2; omega
                                      · omega
    have hd : i1 26 (ss (h - 1) * 7 + tkA nt TT nx) = D (ss (h - 1)) (tkA nt TT nx) := by rw [hfr 26 (by decide)]; exact hD _ _ hs.2 hx7
    unfold LrP at hL
    have hA : Wx m_Parser_run 48 [some (.ref 32), some (.ref 46), some (.int (nI nx)), some (.int (nI md)), some (.int (nI (tkA nt TT nx))), none] [] (56 + ζ, g, i1, q1, RT t) (0, 0) Q := by
      by_cases c1 : D (ss (h - 1)) (tkA nt TT nx) = nI 1000
      · rw [if_pos c1] at hL
        refine ex_aload_n (i := 0) dX4_run_48 rfl rfl ?_
        refine ex_getR (v := .ref (16)) dX4_run_49 fl_Parser_15 rfl rfl (l56 (by decide)) rfl ?_
        refine ex_aload_n (i := 0) dX4_run_52 rfl rfl ?_
        refine ex_cV (ν := m_Parser_topState) (a := 32) (ci := 4) (as := []) dX4_run_53 ln_Parser_60 mf_Parser_topState rfl (l56 (by decide)) rfl rfl np_Parser_topState rfl rfl ⟨(Nat.le_of_ble_eq_true rfl), (Nat.le_of_ble_eq_true rfl), (Nat.le_of_ble_eq_true rfl), (Nat.le_of_ble_eq_true rfl)⟩ (by decide) ?_
        refine sp_Parser_topState (h := h) (by omega) p1 ?_
        refine ⟨_, rfl, ?_⟩
        refine ex_asN (a := ss (h - 1)) hs.1 ?_
        refine ex_iload dX4_run_56 rfl ?_
        refine ex_cV (ν := m_States_deedAt) (a := 16) (ci := 7) (as := [.int (nI (ss (h - 1))), .int (nI (tkA nt TT nx))]) dX4_run_58 ln_Parser_64 mf_States_deedAt rfl (l56 (by decide)) rfl rfl np_States_deedAt rfl rfl ⟨(Nat.le_of_ble_eq_true rfl), (Nat.le_of_ble_eq_true rfl), (Nat.le_of_ble_eq_true rfl), (Nat.le_of_ble_eq_true rfl)⟩ (by decide) ?_
        refine sp_States_deedAt sc1 (by first | exact hs.2 | exact hx7) (by first | exact hs.2 | exact hx7) ?_
        refine ⟨_, rfl, ?_⟩
        refine ex_asI (y := D (ss (h - 1)) (tkA nt TT nx)) hd ?_
        refine ex_topi (fun vd hvd => ?_)
        refine ex_istore (L' := [some (.ref (32)), some (.ref (46)), some (.int (nI (nx))), some (.int (nI (md))), some (.int (nI (tkA nt TT nx))), some (.int (vd))]) dX4_run_61 (by decide) rfl ?_
        refine ex_iload dX4_run_63 rfl ?_
        refine ex_sipush (v := nI 1000) dX4_run_65 (by decide) ?_
        refine ex_icmp_ne (tgt := 73) dX4_run_68 (by decide) (fun h68 => by exact absurd (hvd.trans c1) h68) (fun h68 => ?_)
        refine ex_iconst (v := -1) dX4_run_71 (by decide) ?_
        refine ex_iret dX4_run_72 rfl rfl ?_
        exact hQ _ _ _ _ _ _ hL hfr e6 p2 p4.2.2 p3 hqf htv
      · rw [if_neg c1] at hL
        by_cases c2 : D (ss (h - 1)) (tkA nt TT nx) = nI 0
        · rw [if_pos c2] at hL
          refine ex_aload_n (i := 0) dX4_run_48 rfl rfl ?_
          refine ex_getR (v := .ref (16)) dX4_run_49 fl_Parser_15 rfl rfl (l56 (by decide)) rfl ?_
          refine ex_aload_n (i := 0) dX4_run_52 rfl rfl ?_
          refine ex_cV (ν := m_Parser_topState) (a := 32) (ci := 4) (as := []) dX4_run_53 ln_Parser_60 mf_Parser_topState rfl (l56 (by decide)) rfl rfl np_Parser_topState rfl rfl ⟨(Nat.le_of_ble_eq_true rfl), (Nat.le_of_ble_eq_true rfl), (Nat.le_of_ble_eq_true rfl), (Nat.le_of_ble_eq_true rfl)⟩ (by decide) ?_
          refine sp_Parser_topState (h := h) (by omega) p1 ?_
          refine ⟨_, rfl, ?_⟩
          refine ex_asN (a := ss (h - 1)) hs.1 ?_
          refine ex_iload dX4_run_56 rfl ?_
          refine ex_cV (ν := m_States_deedAt) (a := 16) (ci := 7) (as := [.int (nI (ss (h - 1))), .int (nI (tkA nt TT nx))]) dX4_run_58 ln_Parser_64 mf_States_deedAt rfl (l56 (by decide)) rfl rfl np_States_deedAt rfl rfl ⟨(Nat.le_of_ble_eq_true rfl), (Nat.le_of_ble_eq_true rfl), (Nat.le_of_ble_eq_true rfl), (Nat.le_of_ble_eq_true rfl)⟩ (by decide) ?_
          refine sp_States_deedAt sc1 (by first | exact hs.2 | exact hx7) (by first | exact hs.2 | exact hx7) ?_
          refine ⟨_, rfl, ?_⟩
          refine ex_asI (y := D (ss (h - 1)) (tkA nt TT nx)) hd ?_
          refine ex_topi (fun vd hvd => ?_)
          refine ex_istore (L' := [some (.ref (32)), some (.ref (46)), some (.int (nI (nx))), some (.int (nI (md))), some (.int (nI (tkA nt TT nx))), some (.int (vd))]) dX4_run_61 (by decide) rfl ?_
          refine ex_iload dX4_run_63 rfl ?_
          refine ex_sipush (v := nI 1000) dX4_run_65 (by decide) ?_
          refine ex_icmp_ne (tgt := 73) dX4_run_68 (by decide) (fun h68 => ?_) (fun h68 => by exact absurd (hvd.symm.trans h68) c1)
          refine ex_iload dX4_run_73 rfl ?_
          refine ex_if_ne (tgt := 80) dX4_run_75 (by decide) (fun h75 => by exact absurd (hvd.trans c2) h75) (fun h75 => ?_)
          refine ex_iload_n (i := 2) dX4_run_78 rfl rfl ?_
          refine ex_iret dX4_run_79 rfl rfl ?_
          exact hQ _ _ _ _ _ _ hL hfr e6 p2 p4.2.2 p3 hqf htv
        · rw [if_neg c2] at hL
          refine ex_aload_n (i := 0) dX4_run_48 rfl rfl ?_
          refine ex_getR (v := .ref (16)) dX4_run_49 fl_Parser_15 rfl rfl (l56 (by decide)) rfl ?_
          refine ex_aload_n (i := 0) dX4_run_52 rfl rfl ?_
          refine ex_cV (ν := m_Parser_topState) (a := 32) (ci := 4) (as := []) dX4_run_53 ln_Parser_60 mf_Parser_topState rfl (l56 (by decide)) rfl rfl np_Parser_topState rfl rfl ⟨(Nat.le_of_ble_eq_true rfl), (Nat.le_of_ble_eq_true rfl), (Nat.le_of_ble_eq_true rfl), (Nat.le_of_ble_eq_true rfl)⟩ (by decide) ?_
          refine sp_Parser_topState (h := h) (by omega) p1 ?_
          refine ⟨_, rfl, ?_⟩
          refine ex_asN (a := ss (h - 1)) hs.1 ?_
          refine ex_iload dX4_run_56 rfl ?_
          refine ex_cV (ν := m_States_deedAt) (a := 16) (ci := 7) (as := [.int (nI (ss (h - 1))), .int (nI (tkA nt TT nx))]) dX4_run_58 ln_Parser_64 mf_States_deedAt rfl (l56 (by decide)) rfl rfl np_States_deedAt rfl rfl ⟨(Nat.le_of_ble_eq_true rfl), (Nat.le_of_ble_eq_true rfl), (Nat.le_of_ble_eq_true rfl), (Nat.le_of_ble_eq_true rfl)⟩ (by decide) ?_
          refine sp_States_deedAt sc1 (by first | exact hs.2 | exact hx7) (by first | exact hs.2 | exact hx7) ?_
          refine ⟨_, rfl, ?_⟩
          refine ex_asI (y := D (ss (h - 1)) (tkA nt TT nx)) hd ?_
          refine ex_topi (fun vd hvd => ?_)
          refine ex_istore (L' := [some (.ref (32)), some (.ref (46)), some (.int (nI (nx))), some (.int (nI (md))), some (.int (nI (tkA nt TT nx))), some (.int (vd))]) dX4_run_61 (by decide) rfl ?_
          refine ex_iload dX4_run_63 rfl ?_
          refine ex_sipush (v := nI 1000) dX4_run_65 (by decide) ?_
          refine ex_icmp_ne (tgt := 73) dX4_run_68 (by decide) (fun h68 => ?_) (fun h68 => by exact absurd (hvd.symm.trans h68) c1)
          refine ex_iload dX4_run_73 rfl ?_
          refine ex_if_ne (tgt := 80) dX4_run_75 (by decide) (fun h75 => ?_) (fun h75 => by exact absurd (hvd.symm.trans h75) c2)
          refine ex_iload_n (i := 3) dX4_run_80 rfl rfl ?_
          refine ex_sipush (v := nI 150) dX4_run_81 (by decide) ?_
          refine ex_icmp_neN (tgt := 90) dX4_run_84 (by decide) (by omega) (by omega) (fun h84 => by omega) (fun h84 => ?_)
          refine ex_bipush (v := -2) dX4_run_87 (by decide) ?_
          refine ex_iret dX4_run_89 rfl rfl ?_
          exact hQ _ _ _ _ _ _ hL hfr e6 p2 p4.2.2 p3 hqf htv
    by_cases hx : nx < nt
    · have e : tkA nt TT nx = TT nx := if_pos hx
      rw [e] at hA
      refine ex_iload_n (i := 3) dX4_run_19 rfl rfl ?_
      refine ex_sipush (v := nI 150) dX4_run_20 (by decide) ?_
      refine ex_icmp_gtN (tgt := 137) dX4_run_23 (by decide) (by omega) (by omega) (fun h23 => by omega) (fun h23 => ?_)
      refine ex_iload_n (i := 2) dX4_run_26 rfl rfl ?_
      refine ex_aload_n (i := 0) dX4_run_27 rfl rfl ?_
      refine ex_getI dX4_run_28 fl_Parser_37 rfl rfl (l56 (by decide)) ?_
      refine ex_asN (a := nt) (e6.trans h6) ?_
      refine ex_icmp_geN (tgt := 45) dX4_run_31 (by decide) (by omega) (by omega) (fun h31 => by omega) (fun h31 => ?_)
      refine ex_aload_n (i := 0) dX4_run_34 rfl rfl ?_
      refine ex_getR (v := .ref (33)) dX4_run_35 fl_Parser_24 rfl rfl (l56 (by decide)) rfl ?_
      refine ex_iload_n (i := 2) dX4_run_38 rfl rfl ?_
      refine ex_cV (ν := m_Row_get) (a := 33) (ci := 6) (as := [.int (nI (nx))]) dX4_run_39 ln_Parser_56 mf_Row_get rfl (l56 (by decide)) rfl rfl np_Row_get rfl rfl ⟨(Nat.le_of_ble_eq_true rfl), (Nat.le_of_ble_eq_true rfl), (Nat.le_of_ble_eq_true rfl), (Nat.le_of_ble_eq_true rfl)⟩ (by decide) ?_
      refine sp_Row_get (r := 33) (c := 34) rfl rfl rfl (l56 (by decide)) (l56 (by decide)) (by omega) ?_
      refine ⟨_, rfl, ?_⟩
      refine ex_asN (a := TT nx) (by rw [hfr 34 (by decide)]; exact (hTT nx hx).1) ?_
      refine ex_goto (tgt := 46) dX4_run_42 (by decide) ?_
      refine ex_istore (L' := [some (.ref (32)), some (.ref (46)), some (.int (nI (nx))), some (.int (nI (md))), some (.int (nI (TT nx))), none]) dX4_run_46 (by decide) rfl ?_
      exact hA
    · have e : tkA nt TT nx = 0 := if_neg hx
      rw [e] at hA
      refine ex_iload_n (i := 3) dX4_run_19 rfl rfl ?_
      refine ex_sipush (v := nI 150) dX4_run_20 (by decide) ?_
      refine ex_icmp_gtN (tgt := 137) dX4_run_23 (by decide) (by omega) (by omega) (fun h23 => by omega) (fun h23 => ?_)
      refine ex_iload_n (i := 2) dX4_run_26 rfl rfl ?_
      refine ex_aload_n (i := 0) dX4_run_27 rfl rfl ?_
      refine ex_getI dX4_run_28 fl_Parser_37 rfl rfl (l56 (by decide)) ?_
      refine ex_asN (a := nt) (e6.trans h6) ?_
      refine ex_icmp_geN (tgt := 45) dX4_run_31 (by decide) (by omega) (by omega) (fun h31 => ?_) (fun h31 => by omega)
      refine ex_iconst (v := nI 0) dX4_run_45 (by decide) ?_
      refine ex_istore (L' := [some (.ref (32)), some (.ref (46)), some (.int (nI (nx))), some (.int (nI (md))), some (.int (nI (0))), none]) dX4_run_46 (by decide) rfl ?_
      exact hA
  | succ f ih =>
    intro nx h md ss sn nd tk i1 q1 hf hnx hfr e6 hp hqf htv hL
    have hp0 := hp
    obtain ⟨p1, p2, p3, p4, p5, p6⟩ := hp
    have sc1 : SC i1 := SC_Fr (l := [32, 38, 40, 46, 48]) rfl hfr sc
    have gs1 : GS i1 n sy := gs.fr hfr (by decide) (by decide)
    have hs := p5 (h - 1) (by omega)
    have hx7 : tkA nt TT nx < 7 := by unfold tkA; split; · have := (hTT nx (by assumption)).2; omega
                                      · omega
    have hd : i1 26 (ss (h - 1) * 7 + tkA nt TT nx) = D (ss (h - 1)) (tkA nt TT nx) := by rw [hfr 26 (by decide)]; exact hD _ _ hs.2 hx7
    unfold LrP at hL
    have hA : Wx m_Parser_run 48 [some (.ref 32), some (.ref 46), some (.int (nI nx)), some (.int (nI md)), some (.int (nI (tkA nt TT nx))), none] [] (56 + ζ, g, i1, q1, RT t) (0, 0) Q := by
      by_cases c1 : D (ss (h - 1)) (tkA nt TT nx) = nI 1000
      · rw [if_pos c1] at hL
        refine ex_aload_n (i := 0) dX4_run_48 rfl rfl ?_
        refine ex_getR (v := .ref (16)) dX4_run_49 fl_Parser_15 rfl rfl (l56 (by decide)) rfl ?_
        refine ex_aload_n (i := 0) dX4_run_52 rfl rfl ?_
        refine ex_cV (ν := m_Parser_topState) (a := 32) (ci := 4) (as := []) dX4_run_53 ln_Parser_60 mf_Parser_topState rfl (l56 (by decide)) rfl rfl np_Parser_topState rfl rfl ⟨(Nat.le_of_ble_eq_true rfl), (Nat.le_of_ble_eq_true rfl), (Nat.le_of_ble_eq_true rfl), (Nat.le_of_ble_eq_true rfl)⟩ (by decide) ?_
        refine sp_Parser_topState (h := h) (by omega) p1 ?_
        refine ⟨_, rfl, ?_⟩
        refine ex_asN (a := ss (h - 1)) hs.1 ?_
        refine ex_iload dX4_run_56 rfl ?_
        refine ex_cV (ν := m_States_deedAt) (a := 16) (ci := 7) (as := [.int (nI (ss (h - 1))), .int (nI (tkA nt TT nx))]) dX4_run_58 ln_Parser_64 mf_States_deedAt rfl (l56 (by decide)) rfl rfl np_States_deedAt rfl rfl ⟨(Nat.le_of_ble_eq_true rfl), (Nat.le_of_ble_eq_true rfl), (Nat.le_of_ble_eq_true rfl), (Nat.le_of_ble_eq_true rfl)⟩ (by decide) ?_
        refine sp_States_deedAt sc1 (by first | exact hs.2 | exact hx7) (by first | exact hs.2 | exact hx7) ?_
        refine ⟨_, rfl, ?_⟩
        refine ex_asI (y := D (ss (h - 1)) (tkA nt TT nx)) hd ?_
        refine ex_topi (fun vd hvd => ?_)
        refine ex_istore (L' := [some (.ref (32)), some (.ref (46)), some (.int (nI (nx))), some (.int (nI (md))), some (.int (nI (tkA nt TT nx))), some (.int (vd))]) dX4_run_61 (by decide) rfl ?_
        refine ex_iload dX4_run_63 rfl ?_
        refine ex_sipush (v := nI 1000) dX4_run_65 (by decide) ?_
        refine ex_icmp_ne (tgt := 73) dX4_run_68 (by decide) (fun h68 => by exact absurd (hvd.trans c1) h68) (fun h68 => ?_)
        refine ex_iconst (v := -1) dX4_run_71 (by decide) ?_
        refine ex_iret dX4_run_72 rfl rfl ?_
        exact hQ _ _ _ _ _ _ hL hfr e6 p2 p4.2.2 p3 hqf htv
      · rw [if_neg c1] at hL
        by_cases c2 : D (ss (h - 1)) (tkA nt TT nx) = nI 0
        · rw [if_pos c2] at hL
          refine ex_aload_n (i := 0) dX4_run_48 rfl rfl ?_
          refine ex_getR (v := .ref (16)) dX4_run_49 fl_Parser_15 rfl rfl (l56 (by decide)) rfl ?_
          refine ex_aload_n (i := 0) dX4_run_52 rfl rfl ?_
          refine ex_cV (ν := m_Parser_topState) (a := 32) (ci := 4) (as := []) dX4_run_53 ln_Parser_60 mf_Parser_topState rfl (l56 (by decide)) rfl rfl np_Parser_topState rfl rfl ⟨(Nat.le_of_ble_eq_true rfl), (Nat.le_of_ble_eq_true rfl), (Nat.le_of_ble_eq_true rfl), (Nat.le_of_ble_eq_true rfl)⟩ (by decide) ?_
          refine sp_Parser_topState (h := h) (by omega) p1 ?_
          refine ⟨_, rfl, ?_⟩
          refine ex_asN (a := ss (h - 1)) hs.1 ?_
          refine ex_iload dX4_run_56 rfl ?_
          refine ex_cV (ν := m_States_deedAt) (a := 16) (ci := 7) (as := [.int (nI (ss (h - 1))), .int (nI (tkA nt TT nx))]) dX4_run_58 ln_Parser_64 mf_States_deedAt rfl (l56 (by decide)) rfl rfl np_States_deedAt rfl rfl ⟨(Nat.le_of_ble_eq_true rfl), (Nat.le_of_ble_eq_true rfl), (Nat.le_of_ble_eq_true rfl), (Nat.le_of_ble_eq_true rfl)⟩ (by decide) ?_
          refine sp_States_deedAt sc1 (by first | exact hs.2 | exact hx7) (by first | exact hs.2 | exact hx7) ?_
          refine ⟨_, rfl, ?_⟩
          refine ex_asI (y := D (ss (h - 1)) (tkA nt TT nx)) hd ?_
          refine ex_topi (fun vd hvd => ?_)
          refine ex_istore (L' := [some (.ref (32)), some (.ref (46)), some (.int (nI (nx))), some (.int (nI (md))), some (.int (nI (tkA nt TT nx))), some (.int (vd))]) dX4_run_61 (by decide) rfl ?_
          refine ex_iload dX4_run_63 rfl ?_
          refine ex_sipush (v := nI 1000) dX4_run_65 (by decide) ?_
          refine ex_icmp_ne (tgt := 73) dX4_run_68 (by decide) (fun h68 => ?_) (fun h68 => by exact absurd (hvd.symm.trans h68) c1)
          refine ex_iload dX4_run_73 rfl ?_
          refine ex_if_ne (tgt := 80) dX4_run_75 (by decide) (fun h75 => by exact absurd (hvd.trans c2) h75) (fun h75 => ?_)
          refine ex_iload_n (i := 2) dX4_run_78 rfl rfl ?_
          refine ex_iret dX4_run_79 rfl rfl ?_
          exact hQ _ _ _ _ _ _ hL hfr e6 p2 p4.2.2 p3 hqf htv
        · rw [if_neg c2] at hL
          rcases hL with ⟨s, ds, s0, s50, hx, hL⟩ | ⟨r, hb, ds, hr, hh, hb1, hG50, hL⟩
          · have e : tkA nt TT nx = TT nx := if_pos hx
            refine ex_aload_n (i := 0) dX4_run_48 rfl rfl ?_
            refine ex_getR (v := .ref (16)) dX4_run_49 fl_Parser_15 rfl rfl (l56 (by decide)) rfl ?_
            refine ex_aload_n (i := 0) dX4_run_52 rfl rfl ?_
            refine ex_cV (ν := m_Parser_topState) (a := 32) (ci := 4) (as := []) dX4_run_53 ln_Parser_60 mf_Parser_topState rfl (l56 (by decide)) rfl rfl np_Parser_topState rfl rfl ⟨(Nat.le_of_ble_eq_true rfl), (Nat.le_of_ble_eq_true rfl), (Nat.le_of_ble_eq_true rfl), (Nat.le_of_ble_eq_true rfl)⟩ (by decide) ?_
            refine sp_Parser_topState (h := h) (by omega) p1 ?_
            refine ⟨_, rfl, ?_⟩
            refine ex_asN (a := ss (h - 1)) hs.1 ?_
            refine ex_iload dX4_run_56 rfl ?_
            refine ex_cV (ν := m_States_deedAt) (a := 16) (ci := 7) (as := [.int (nI (ss (h - 1))), .int (nI (tkA nt TT nx))]) dX4_run_58 ln_Parser_64 mf_States_deedAt rfl (l56 (by decide)) rfl rfl np_States_deedAt rfl rfl ⟨(Nat.le_of_ble_eq_true rfl), (Nat.le_of_ble_eq_true rfl), (Nat.le_of_ble_eq_true rfl), (Nat.le_of_ble_eq_true rfl)⟩ (by decide) ?_
            refine sp_States_deedAt sc1 (by first | exact hs.2 | exact hx7) (by first | exact hs.2 | exact hx7) ?_
            refine ⟨_, rfl, ?_⟩
            refine ex_asI (y := D (ss (h - 1)) (tkA nt TT nx)) hd ?_
            refine ex_topi (fun vd hvd => ?_)
            refine ex_istore (L' := [some (.ref (32)), some (.ref (46)), some (.int (nI (nx))), some (.int (nI (md))), some (.int (nI (tkA nt TT nx))), some (.int (vd))]) dX4_run_61 (by decide) rfl ?_
            refine ex_iload dX4_run_63 rfl ?_
            refine ex_sipush (v := nI 1000) dX4_run_65 (by decide) ?_
            refine ex_icmp_ne (tgt := 73) dX4_run_68 (by decide) (fun h68 => ?_) (fun h68 => by exact absurd (hvd.symm.trans h68) c1)
            refine ex_iload dX4_run_73 rfl ?_
            refine ex_if_ne (tgt := 80) dX4_run_75 (by decide) (fun h75 => ?_) (fun h75 => by exact absurd (hvd.symm.trans h75) c2)
            refine ex_iload_n (i := 3) dX4_run_80 rfl rfl ?_
            refine ex_sipush (v := nI 150) dX4_run_81 (by decide) ?_
            refine ex_icmp_neN (tgt := 90) dX4_run_84 (by decide) (by omega) (by omega) (fun h84 => ?_) (fun h84 => by omega)
            refine ex_iload dX4_run_90 rfl ?_
            refine ex_if_le (tgt := 122) dX4_run_92 (by decide) (fun h92 => by exact absurd (by rw [← ds, ← hvd]; exact h92) (nI_nle s0 (Nat.lt_trans s50 (by decide)))) (fun h92 => ?_)
            refine ex_aload_n (i := 0) dX4_run_95 rfl rfl ?_
            refine ex_iload dX4_run_96 rfl ?_
            refine ex_aload_n (i := 1) dX4_run_98 rfl rfl ?_
            refine ex_iload dX4_run_99 rfl ?_
            refine ex_aload_n (i := 0) dX4_run_101 rfl rfl ?_
            refine ex_getR (v := .ref (35)) dX4_run_102 fl_Parser_28 rfl rfl (l56 (by decide)) rfl ?_
            refine ex_iload_n (i := 2) dX4_run_105 rfl rfl ?_
            refine ex_cV (ν := m_Row_get) (a := 35) (ci := 6) (as := [.int (nI (nx))]) dX4_run_106 ln_Parser_56 mf_Row_get rfl (l56 (by decide)) rfl rfl np_Row_get rfl rfl ⟨(Nat.le_of_ble_eq_true rfl), (Nat.le_of_ble_eq_true rfl), (Nat.le_of_ble_eq_true rfl), (Nat.le_of_ble_eq_true rfl)⟩ (by decide) ?_
            refine sp_Row_get (r := 35) (c := 36) rfl rfl rfl (l56 (by decide)) (l56 (by decide)) (by omega) ?_
            refine ⟨_, rfl, ?_⟩
            refine ex_asI (y := i1 36 nx) rfl ?_
            refine ex_iload_n (i := 2) dX4_run_109 rfl rfl ?_
            refine ex_cV (ν := m_Tree_addTokenNode) (a := 46) (ci := 8) (as := [.int (nI (tkA nt TT nx)), .int (i1 36 nx), .int (nI (nx))]) dX4_run_110 ln_Parser_70 mf_Tree_addTokenNode rfl (l56 (by decide)) rfl rfl np_Tree_addTokenNode rfl rfl ⟨(Nat.le_of_ble_eq_true rfl), (Nat.le_of_ble_eq_true rfl), (Nat.le_of_ble_eq_true rfl), (Nat.le_of_ble_eq_true rfl)⟩ (by decide) ?_
            refine sp_Tree_addTokenNode_46 sc1 (by omega) (by omega) p2 ?_
            refine ⟨_, rfl, ?_⟩
            refine ex_cV (ν := m_Parser_push) (a := 32) (ci := 4) (as := [.int (vd), .int (nI (md))]) dX4_run_113 ln_Parser_53 mf_Parser_push rfl (l56 (by decide)) rfl rfl np_Parser_push rfl rfl ⟨(Nat.le_of_ble_eq_true rfl), (Nat.le_of_ble_eq_true rfl), (Nat.le_of_ble_eq_true rfl), (Nat.le_of_ble_eq_true rfl)⟩ (by decide) ?_
            refine sp_Parser_push (h := h) (by omega) ?_ ?_
            · rw [xU_ne _ _ _ (show (32 : Nat) ≠ 46 by decide), xU_ne _ _ _ (show (32 : Nat) ≠ 48 by decide), xU_ne _ _ _ (show (32 : Nat) ≠ 48 by decide), xU_ne _ _ _ (show (32 : Nat) ≠ 48 by decide), xU_ne _ _ _ (show (32 : Nat) ≠ 48 by decide)]; exact p1
            refine ⟨_, rfl, ?_⟩
            refine ex_iincN (L' := [some (.ref (32)), some (.ref (46)), some (.int (nI (nx + 1))), some (.int (nI (md))), some (.int (nI (tkA nt TT nx))), some (.int (vd))]) dX4_run_116 rfl rfl (by decide) rfl ?_
            refine ex_goto (tgt := 131) dX4_run_119 (by decide) ?_
            refine ex_iincN (L' := [some (.ref (32)), some (.ref (46)), some (.int (nI (nx + 1))), some (.int (nI (md + 1))), some (.int (nI (tkA nt TT nx))), some (.int (vd))]) dX4_run_131 rfl rfl (by decide) rfl ?_
            refine ex_goto (tgt := 19) dX4_run_134 (by decide) ?_
            refine ex_less (L' := [some (.ref 32), some (.ref 46), some (.int (nI (nx + 1))), some (.int (nI (md + 1))), none, none]) (by simp [xSub]) (ih (nx + 1) (h + 1) (md + 1) (upN ss h s) (upN sn h md) _ (upd tk md (nI nx)) _ _ (by omega) hx ?_ ?_ ⟨?_, ?_, ?_, by omega, ?_, ?_⟩ ?_ ?_ hL)
            · exact (((((((hfr.U (by decide)).U (by decide)).U (by decide)).U (by decide)).U (by decide)).U (by decide)).U (by decide)).U (by decide)
            · simp only [xU_ne _ _ _ (show (32 : Nat) ≠ 40 by decide), xU_ne _ _ _ (show (32 : Nat) ≠ 38 by decide), xU_ne _ _ _ (show (32 : Nat) ≠ 46 by decide), xU_ne _ _ _ (show (32 : Nat) ≠ 48 by decide), xU_at]
              simp [upd]; exact e6
            · rw [xU_at]; simp [upd]
            · simp only [xU_ne _ _ _ (show (46 : Nat) ≠ 40 by decide), xU_ne _ _ _ (show (46 : Nat) ≠ 38 by decide), xU_ne _ _ _ (show (46 : Nat) ≠ 32 by decide), xU_at]
              simp [upd]
            · simp only [xU_ne _ _ _ (show (48 : Nat) ≠ 40 by decide), xU_ne _ _ _ (show (48 : Nat) ≠ 38 by decide), xU_ne _ _ _ (show (48 : Nat) ≠ 32 by decide), xU_ne _ _ _ (show (48 : Nat) ≠ 46 by decide), xU_at, p3]
              rfl
            · intro j hj
              simp only [xU_ne _ _ _ (show (38 : Nat) ≠ 40 by decide), xU_ne _ _ _ (show (38 : Nat) ≠ 32 by decide), xU_ne _ _ _ (show (38 : Nat) ≠ 46 by decide), xU_ne _ _ _ (show (38 : Nat) ≠ 48 by decide), xU_at]
              unfold upd upN
              by_cases e : j = h
              · rw [if_pos e, if_pos e]; exact ⟨hvd.trans ds, s50⟩
              · rw [if_neg e, if_neg e]; exact p5 j (by omega)
            · intro j hj1 hj
              simp only [xU_ne _ _ _ (show (40 : Nat) ≠ 38 by decide), xU_ne _ _ _ (show (40 : Nat) ≠ 32 by decide), xU_ne _ _ _ (show (40 : Nat) ≠ 46 by decide), xU_ne _ _ _ (show (40 : Nat) ≠ 48 by decide), xU_at]
              unfold upd upN
              by_cases e : j = h
              · rw [if_pos e, if_pos e]; exact ⟨rfl, by omega⟩
              · rw [if_neg e, if_neg e]; exact ⟨(p6 j hj1 (by omega)).1, by have := (p6 j hj1 (by omega)).2; omega⟩
            · intro c hc
              rw [xUL_ne _ _ _ hc, xUL_ne _ _ _ hc, xUL_ne _ _ _ hc]; exact hqf c hc
            · intro j hj hneg
              rw [rnN_1] at hneg
              simp only [xUL_at]
              unfold vp_updL
              by_cases e : j = md
              · subst e
                refine ⟨nx, hx, by simp [upd], ?_, ?_, ?_⟩
                · rw [if_neg (by omega), if_neg (by omega), if_pos rfl, hfr 36 (by decide)]
                · rw [if_neg (by omega), if_pos rfl]
                · rw [if_pos rfl]
              · rw [if_neg e] at hneg
                obtain ⟨b, b1, b2, b3, b4, b5⟩ := htv j (by omega) hneg
                refine ⟨b, b1, by simp only [upd, if_neg e]; exact b2, ?_, ?_, ?_⟩
                · rw [if_neg (by omega), if_neg (by omega), if_neg (by omega)]; exact b3
                · rw [if_neg (by omega), if_neg (by omega), if_neg (by omega)]; exact b4
                · rw [if_neg (by omega), if_neg (by omega), if_neg (by omega)]; exact b5
          · have hrd := rd_1 (r := r) (by have := gs.2.2.1; omega)
            subst hh
            have hlf := gs.2.2.2.2.1 r hr
            have hsb := p5 (hb - 1) (by omega)
            refine ex_aload_n (i := 0) dX4_run_48 rfl rfl ?_
            refine ex_getR (v := .ref (16)) dX4_run_49 fl_Parser_15 rfl rfl (l56 (by decide)) rfl ?_
            refine ex_aload_n (i := 0) dX4_run_52 rfl rfl ?_
            refine ex_cV (ν := m_Parser_topState) (a := 32) (ci := 4) (as := []) dX4_run_53 ln_Parser_60 mf_Parser_topState rfl (l56 (by decide)) rfl rfl np_Parser_topState rfl rfl ⟨(Nat.le_of_ble_eq_true rfl), (Nat.le_of_ble_eq_true rfl), (Nat.le_of_ble_eq_true rfl), (Nat.le_of_ble_eq_true rfl)⟩ (by decide) ?_
            refine sp_Parser_topState (h := hb + lnR sy r) (by omega) p1 ?_
            refine ⟨_, rfl, ?_⟩
            refine ex_asN (a := ss (hb + lnR sy r - 1)) hs.1 ?_
            refine ex_iload dX4_run_56 rfl ?_
            refine ex_cV (ν := m_States_deedAt) (a := 16) (ci := 7) (as := [.int (nI (ss (hb + lnR sy r - 1))), .int (nI (tkA nt TT nx))]) dX4_run_58 ln_Parser_64 mf_States_deedAt rfl (l56 (by decide)) rfl rfl np_States_deedAt rfl rfl ⟨(Nat.le_of_ble_eq_true rfl), (Nat.le_of_ble_eq_true rfl), (Nat.le_of_ble_eq_true rfl), (Nat.le_of_ble_eq_true rfl)⟩ (by decide) ?_
            refine sp_States_deedAt sc1 (by first | exact hs.2 | exact hx7) (by first | exact hs.2 | exact hx7) ?_
            refine ⟨_, rfl, ?_⟩
            refine ex_asI (y := D (ss (hb + lnR sy r - 1)) (tkA nt TT nx)) hd ?_
            refine ex_topi (fun vd hvd => ?_)
            refine ex_istore (L' := [some (.ref (32)), some (.ref (46)), some (.int (nI (nx))), some (.int (nI (md))), some (.int (nI (tkA nt TT nx))), some (.int (vd))]) dX4_run_61 (by decide) rfl ?_
            refine ex_iload dX4_run_63 rfl ?_
            refine ex_sipush (v := nI 1000) dX4_run_65 (by decide) ?_
            refine ex_icmp_ne (tgt := 73) dX4_run_68 (by decide) (fun h68 => ?_) (fun h68 => by exact absurd (hvd.symm.trans h68) c1)
            refine ex_iload dX4_run_73 rfl ?_
            refine ex_if_ne (tgt := 80) dX4_run_75 (by decide) (fun h75 => ?_) (fun h75 => by exact absurd (hvd.symm.trans h75) c2)
            refine ex_iload_n (i := 3) dX4_run_80 rfl rfl ?_
            refine ex_sipush (v := nI 150) dX4_run_81 (by decide) ?_
            refine ex_icmp_neN (tgt := 90) dX4_run_84 (by decide) (by omega) (by omega) (fun h84 => ?_) (fun h84 => by omega)
            refine ex_iload dX4_run_90 rfl ?_
            refine ex_if_le (tgt := 122) dX4_run_92 (by decide) (fun h92 => ?_) (fun h92 => by exact absurd (by rw [hvd, ds]; exact hrd.2) h92)
            refine ex_aload_n (i := 0) dX4_run_122 rfl rfl ?_
            refine ex_aload_n (i := 1) dX4_run_123 rfl rfl ?_
            refine ex_iconst (v := -1) dX4_run_124 (by decide) ?_
            refine ex_iload dX4_run_125 rfl ?_
            refine ex_isub dX4_run_127 ?_
            refine ex_asN (a := r) (by rw [hvd, ds]; exact hrd.1) ?_
            refine ex_cV (ν := m_Parser_reduce) (a := 32) (ci := 4) (as := [.ref (46), .int (nI (r))]) dX4_run_128 ln_Parser_74 mf_Parser_reduce rfl (l56 (by decide)) rfl rfl np_Parser_reduce rfl rfl ⟨(Nat.le_of_ble_eq_true rfl), (Nat.le_of_ble_eq_true rfl), (Nat.le_of_ble_eq_true rfl), (Nat.le_of_ble_eq_true rfl)⟩ (by decide) ?_
            refine sp_Parser_reduce_46 (G := G (ss (hb - 1)) (sy r 0)) sc1 gs1 hr hp0 hb1 (by omega) ?_ hG50 (fun i3 hf3 h63 hp3 => ?_)
            · rw [hfr 24 (by decide)]; exact hG _ _ hsb.2 (by omega) (by omega)
            refine ⟨_, rfl, ?_⟩
            refine ex_iincN (L' := [some (.ref (32)), some (.ref (46)), some (.int (nI (nx))), some (.int (nI (md + 1))), some (.int (nI (tkA nt TT nx))), some (.int (vd))]) dX4_run_131 rfl rfl (by decide) rfl ?_
            refine ex_goto (tgt := 19) dX4_run_134 (by decide) ?_
            refine ex_less (L' := [some (.ref 32), some (.ref 46), some (.int (nI nx)), some (.int (nI (md + 1))), none, none]) (by simp [xSub]) (ih nx (hb + 1) (md + 1) _ _ _ (upd tk md (-1)) _ _ (by omega) hnx (hfr.tr hf3) (h63.trans e6) hp3 hqf ?_ hL)
            intro j hj hneg
            rw [chN_1 (by decide) (by have : lnR sy r ≤ 4 := lnS_le _; omega), rnN_1] at hneg
            by_cases e : j = md
            · rw [if_pos e] at hneg
              exact absurd hneg (nI_pos (by have := gs.2.2.1; omega))
            · rw [if_neg e] at hneg
              obtain ⟨b, b1, b2, b3⟩ := htv j (by omega) hneg
              exact ⟨b, b1, by simp only [upd, if_neg e]; exact b2, b3⟩
    by_cases hx : nx < nt
    · have e : tkA nt TT nx = TT nx := if_pos hx
      rw [e] at hA
      refine ex_iload_n (i := 3) dX4_run_19 rfl rfl ?_
      refine ex_sipush (v := nI 150) dX4_run_20 (by decide) ?_
      refine ex_icmp_gtN (tgt := 137) dX4_run_23 (by decide) (by omega) (by omega) (fun h23 => by omega) (fun h23 => ?_)
      refine ex_iload_n (i := 2) dX4_run_26 rfl rfl ?_
      refine ex_aload_n (i := 0) dX4_run_27 rfl rfl ?_
      refine ex_getI dX4_run_28 fl_Parser_37 rfl rfl (l56 (by decide)) ?_
      refine ex_asN (a := nt) (e6.trans h6) ?_
      refine ex_icmp_geN (tgt := 45) dX4_run_31 (by decide) (by omega) (by omega) (fun h31 => by omega) (fun h31 => ?_)
      refine ex_aload_n (i := 0) dX4_run_34 rfl rfl ?_
      refine ex_getR (v := .ref (33)) dX4_run_35 fl_Parser_24 rfl rfl (l56 (by decide)) rfl ?_
      refine ex_iload_n (i := 2) dX4_run_38 rfl rfl ?_
      refine ex_cV (ν := m_Row_get) (a := 33) (ci := 6) (as := [.int (nI (nx))]) dX4_run_39 ln_Parser_56 mf_Row_get rfl (l56 (by decide)) rfl rfl np_Row_get rfl rfl ⟨(Nat.le_of_ble_eq_true rfl), (Nat.le_of_ble_eq_true rfl), (Nat.le_of_ble_eq_true rfl), (Nat.le_of_ble_eq_true rfl)⟩ (by decide) ?_
      refine sp_Row_get (r := 33) (c := 34) rfl rfl rfl (l56 (by decide)) (l56 (by decide)) (by omega) ?_
      refine ⟨_, rfl, ?_⟩
      refine ex_asN (a := TT nx) (by rw [hfr 34 (by decide)]; exact (hTT nx hx).1) ?_
      refine ex_goto (tgt := 46) dX4_run_42 (by decide) ?_
      refine ex_istore (L' := [some (.ref (32)), some (.ref (46)), some (.int (nI (nx))), some (.int (nI (md))), some (.int (nI (TT nx))), none]) dX4_run_46 (by decide) rfl ?_
      exact hA
    · have e : tkA nt TT nx = 0 := if_neg hx
      rw [e] at hA
      refine ex_iload_n (i := 3) dX4_run_19 rfl rfl ?_
      refine ex_sipush (v := nI 150) dX4_run_20 (by decide) ?_
      refine ex_icmp_gtN (tgt := 137) dX4_run_23 (by decide) (by omega) (by omega) (fun h23 => by omega) (fun h23 => ?_)
      refine ex_iload_n (i := 2) dX4_run_26 rfl rfl ?_
      refine ex_aload_n (i := 0) dX4_run_27 rfl rfl ?_
      refine ex_getI dX4_run_28 fl_Parser_37 rfl rfl (l56 (by decide)) ?_
      refine ex_asN (a := nt) (e6.trans h6) ?_
      refine ex_icmp_geN (tgt := 45) dX4_run_31 (by decide) (by omega) (by omega) (fun h31 => ?_) (fun h31 => by omega)
      refine ex_iconst (v := nI 0) dX4_run_45 (by decide) ?_
      refine ex_istore (L' := [some (.ref (32)), some (.ref (46)), some (.int (nI (nx))), some (.int (nI (md))), some (.int (nI (0))), none]) dX4_run_46 (by decide) rfl ?_
      exact hA
theorem sp_Parser_run_46 {R : Int32 → Nat → (Nat → Int32) → (Nat → Int32) → Prop} (sc : SC i) (gs : GS i n sy) (h6 : i 32 6 = nI nt) (hnt : nt ≤ 40) (hTT : ∀ j, j < nt → i 34 j = nI (TT j) ∧ 1 ≤ TT j ∧ TT j ≤ 6) (hD : ∀ s x, s < 50 → x < 7 → i 26 (s * 7 + x) = D s x) (hG : ∀ s x, s < 50 → 8 ≤ x → x < 14 → i 24 (s * 14 + x) = nI (G s x)) {ss sn : Nat → Nat} {tk : Nat → Int32} (hL : LrP D G n sy nt TT R 150 0 1 0 (upN ss 0 0) sn (i 48) tk)
    (hQ : (∀ o md nd tk i1 q1, R o md nd tk → Fr [32, 38, 40, 46, 48] i i1 → i1 32 6 = i 32 6 → i1 46 2 = nI md → md ≤ 150 → i1 48 = nd → (∀ c, c ≠ 50 → q1 c = q c) → tvQ 50 i q1 nt md nd tk → Q (.ok (some (.int o))) (56 + ζ, g, i1, q1, RT t))) : Wx m_Parser_run 0 [some (.ref 32), some (.ref 46), none, none, none, none] [] (56 + ζ, g, i, q, RT t) (0, 0) Q := by
  have hfr : Fr [32, 38, 40, 46, 48] i (xU (xU (xU (xU (xU i 46 2 (nI 0)) 32 7 (nI 0)) 38 0 (nI 0)) 40 0 (-1)) 32 7 (nI 1)) := (((((Fr.rf (i := i)).U (by decide)).U (by decide)).U (by decide)).U (by decide)).U (by decide)
  refine ex_aload_n (i := 1) dX4_run_0 rfl rfl ?_
  refine ex_cV (ν := m_Tree_begin) (a := 46) (ci := 8) (as := []) dX4_run_1 ln_Parser_48 mf_Tree_begin rfl (l56 (by decide)) rfl rfl np_Tree_begin rfl rfl ⟨(Nat.le_of_ble_eq_true rfl), (Nat.le_of_ble_eq_true rfl), (Nat.le_of_ble_eq_true rfl), (Nat.le_of_ble_eq_true rfl)⟩ (by decide) ?_
  refine sp_Tree_begin_46 ?_
  refine ⟨_, rfl, ?_⟩
  refine ex_aload_n (i := 0) dX4_run_4 rfl rfl ?_
  refine ex_iconst (v := nI 0) dX4_run_5 (by decide) ?_
  refine ex_putI dX4_run_6 fl_Parser_41 cf_4 rfl (Or.inl rfl) rfl rfl rfl (l56 (by decide)) ?_
  refine ex_aload_n (i := 0) dX4_run_9 rfl rfl ?_
  refine ex_iconst (v := nI 0) dX4_run_10 (by decide) ?_
  refine ex_iconst (v := -1) dX4_run_11 (by decide) ?_
  refine ex_cV (ν := m_Parser_push) (a := 32) (ci := 4) (as := [.int (nI (0)), .int ((-1))]) dX4_run_12 ln_Parser_53 mf_Parser_push rfl (l56 (by decide)) rfl rfl np_Parser_push rfl rfl ⟨(Nat.le_of_ble_eq_true rfl), (Nat.le_of_ble_eq_true rfl), (Nat.le_of_ble_eq_true rfl), (Nat.le_of_ble_eq_true rfl)⟩ (by decide) ?_
  refine sp_Parser_push (h := 0) (by decide) (by rw [xU_at]; simp [upd]) ?_
  refine ⟨_, rfl, ?_⟩
  refine ex_iconst (v := nI 0) dX4_run_15 (by decide) ?_
  refine ex_istore_n (L' := [some (.ref (32)), some (.ref (46)), some (.int (nI (0))), none, none, none]) dX4_run_16 (i := 2) rfl (by decide) rfl ?_
  refine ex_iconst (v := nI 0) dX4_run_17 (by decide) ?_
  refine ex_istore_n (L' := [some (.ref (32)), some (.ref (46)), some (.int (nI (0))), some (.int (nI (0))), none, none]) dX4_run_18 (i := 3) rfl (by decide) rfl ?_
  refine lp_Parser_run_46 sc gs h6 hnt hTT hD hG hQ 150 0 1 0 (upN ss 0 0) sn _ tk _ _ (by decide) (Nat.zero_le _) hfr ?_ ⟨?_, ?_, ?_, by decide, ?_, fun j h1 h2 => by omega⟩ (fun _ _ => rfl) (fun j hj => by omega) hL
  · simp only [xU_ne _ _ _ (show (32 : Nat) ≠ 40 by decide), xU_ne _ _ _ (show (32 : Nat) ≠ 38 by decide), xU_ne _ _ _ (show (32 : Nat) ≠ 46 by decide), xU_at]
    simp [upd]
  · rw [xU_at]; simp [upd]
  · simp only [xU_ne _ _ _ (show (46 : Nat) ≠ 40 by decide), xU_ne _ _ _ (show (46 : Nat) ≠ 38 by decide), xU_ne _ _ _ (show (46 : Nat) ≠ 32 by decide), xU_at]
    simp [upd]
  · simp only [xU_ne _ _ _ (show (48 : Nat) ≠ 40 by decide), xU_ne _ _ _ (show (48 : Nat) ≠ 38 by decide), xU_ne _ _ _ (show (48 : Nat) ≠ 32 by decide), xU_ne _ _ _ (show (48 : Nat) ≠ 46 by decide)]
  · intro j hj
    have e : j = 0 := by omega
    subst e
    simp only [xU_ne _ _ _ (show (38 : Nat) ≠ 40 by decide), xU_ne _ _ _ (show (38 : Nat) ≠ 32 by decide), xU_at]
    simp [upd, upN]
theorem lp_Parser_run_51 {R : Int32 → Nat → (Nat → Int32) → (Nat → Int32) → Prop} (sc : SC i) (gs : GS i n sy) (h6 : i 32 6 = nI nt) (hnt : nt ≤ 40) (hTT : ∀ j, j < nt → i 34 j = nI (TT j) ∧ 1 ≤ TT j ∧ TT j ≤ 6) (hD : ∀ s x, s < 50 → x < 7 → i 26 (s * 7 + x) = D s x) (hG : ∀ s x, s < 50 → 8 ≤ x → x < 14 → i 24 (s * 14 + x) = nI (G s x))
    (hQ : (∀ o md nd tk i1 q1, R o md nd tk → Fr [32, 38, 40, 51, 53] i i1 → i1 32 6 = i 32 6 → i1 51 2 = nI md → md ≤ 150 → i1 53 = nd → (∀ c, c ≠ 55 → q1 c = q c) → tvQ 55 i q1 nt md nd tk → Q (.ok (some (.int o))) (56 + ζ, g, i1, q1, RT t))) :
    ∀ f nx h md ss sn nd tk i1 q1, f + md = 150 → nx ≤ nt → Fr [32, 38, 40, 51, 53] i i1 → i1 32 6 = i 32 6 → PS 51 53 i1 h md ss sn nd → (∀ c, c ≠ 55 → q1 c = q c) → tvQ 55 i q1 nt md nd tk → LrP D G n sy nt TT R f nx h md ss sn nd tk →
      Wx m_Parser_run 19 [some (.ref 32), some (.ref 51), some (.int (nI nx)), some (.int (nI md)), none, none] [] (56 + ζ, g, i1, q1, RT t) (0, 0) Q := by
  intro f
  induction f with
  | zero =>
    intro nx h md ss sn nd tk i1 q1 hf hnx hfr e6 hp hqf htv hL
    obtain ⟨p1, p2, p3, p4, p5, p6⟩ := hp
    have sc1 : SC i1 := SC_Fr (l := [32, 38, 40, 51, 53]) rfl hfr sc
    have hs := p5 (h - 1) (by omega)
    have hx7 : tkA nt TT nx < 7 := by unfold tkA; split; · have := (hTT nx (by assumption)).2; omega
                                      · omega
    have hd : i1 26 (ss (h - 1) * 7 + tkA nt TT nx) = D (ss (h - 1)) (tkA nt TT nx) := by rw [hfr 26 (by decide)]; exact hD _ _ hs.2 hx7
    unfold LrP at hL
    have hA : Wx m_Parser_run 48 [some (.ref 32), some (.ref 51), some (.int (nI nx)), some (.int (nI md)), some (.int (nI (tkA nt TT nx))), none] [] (56 + ζ, g, i1, q1, RT t) (0, 0) Q := by
      by_cases c1 : D (ss (h - 1)) (tkA nt TT nx) = nI 1000
      · rw [if_pos c1] at hL
        refine ex_aload_n (i := 0) dX4_run_48 rfl rfl ?_
        refine ex_getR (v := .ref (16)) dX4_run_49 fl_Parser_15 rfl rfl (l56 (by decide)) rfl ?_
        refine ex_aload_n (i := 0) dX4_run_52 rfl rfl ?_
        refine ex_cV (ν := m_Parser_topState) (a := 32) (ci := 4) (as := []) dX4_run_53 ln_Parser_60 mf_Parser_topState rfl (l56 (by decide)) rfl rfl np_Parser_topState rfl rfl ⟨(Nat.le_of_ble_eq_true rfl), (Nat.le_of_ble_eq_true rfl), (Nat.le_of_ble_eq_true rfl), (Nat.le_of_ble_eq_true rfl)⟩ (by decide) ?_
        refine sp_Parser_topState (h := h) (by omega) p1 ?_
        refine ⟨_, rfl, ?_⟩
        refine ex_asN (a := ss (h - 1)) hs.1 ?_
        refine ex_iload dX4_run_56 rfl ?_
        refine ex_cV (ν := m_States_deedAt) (a := 16) (ci := 7) (as := [.int (nI (ss (h - 1))), .int (nI (tkA nt TT nx))]) dX4_run_58 ln_Parser_64 mf_States_deedAt rfl (l56 (by decide)) rfl rfl np_States_deedAt rfl rfl ⟨(Nat.le_of_ble_eq_true rfl), (Nat.le_of_ble_eq_true rfl), (Nat.le_of_ble_eq_true rfl), (Nat.le_of_ble_eq_true rfl)⟩ (by decide) ?_
        refine sp_States_deedAt sc1 (by first | exact hs.2 | exact hx7) (by first | exact hs.2 | exact hx7) ?_
        refine ⟨_, rfl, ?_⟩
        refine ex_asI (y := D (ss (h - 1)) (tkA nt TT nx)) hd ?_
        refine ex_topi (fun vd hvd => ?_)
        refine ex_istore (L' := [some (.ref (32)), some (.ref (51)), some (.int (nI (nx))), some (.int (nI (md))), some (.int (nI (tkA nt TT nx))), some (.int (vd))]) dX4_run_61 (by decide) rfl ?_
        refine ex_iload dX4_run_63 rfl ?_
        refine ex_sipush (v := nI 1000) dX4_run_65 (by decide) ?_
        refine ex_icmp_ne (tgt := 73) dX4_run_68 (by decide) (fun h68 => by exact absurd (hvd.trans c1) h68) (fun h68 => ?_)
        refine ex_iconst (v := -1) dX4_run_71 (by decide) ?_
        refine ex_iret dX4_run_72 rfl rfl ?_
        exact hQ _ _ _ _ _ _ hL hfr e6 p2 p4.2.2 p3 hqf htv
      · rw [if_neg c1] at hL
        by_cases c2 : D (ss (h - 1)) (tkA nt TT nx) = nI 0
        · rw [if_pos c2] at hL
          refine ex_aload_n (i := 0) dX4_run_48 rfl rfl ?_
          refine ex_getR (v := .ref (16)) dX4_run_49 fl_Parser_15 rfl rfl (l56 (by decide)) rfl ?_
          refine ex_aload_n (i := 0) dX4_run_52 rfl rfl ?_
          refine ex_cV (ν := m_Parser_topState) (a := 32) (ci := 4) (as := []) dX4_run_53 ln_Parser_60 mf_Parser_topState rfl (l56 (by decide)) rfl rfl np_Parser_topState rfl rfl ⟨(Nat.le_of_ble_eq_true rfl), (Nat.le_of_ble_eq_true rfl), (Nat.le_of_ble_eq_true rfl), (Nat.le_of_ble_eq_true rfl)⟩ (by decide) ?_
          refine sp_Parser_topState (h := h) (by omega) p1 ?_
          refine ⟨_, rfl, ?_⟩
          refine ex_asN (a := ss (h - 1)) hs.1 ?_
          refine ex_iload dX4_run_56 rfl ?_
          refine ex_cV (ν := m_States_deedAt) (a := 16) (ci := 7) (as := [.int (nI (ss (h - 1))), .int (nI (tkA nt TT nx))]) dX4_run_58 ln_Parser_64 mf_States_deedAt rfl (l56 (by decide)) rfl rfl np_States_deedAt rfl rfl ⟨(Nat.le_of_ble_eq_true rfl), (Nat.le_of_ble_eq_true rfl), (Nat.le_of_ble_eq_true rfl), (Nat.le_of_ble_eq_true rfl)⟩ (by decide) ?_
          refine sp_States_deedAt sc1 (by first | exact hs.2 | exact hx7) (by first | exact hs.2 | exact hx7) ?_
          refine ⟨_, rfl, ?_⟩
          refine ex_asI (y := D (ss (h - 1)) (tkA nt TT nx)) hd ?_
          refine ex_topi (fun vd hvd => ?_)
          refine ex_istore (L' := [some (.ref (32)), some (.ref (51)), some (.int (nI (nx))), some (.int (nI (md))), some (.int (nI (tkA nt TT nx))), some (.int (vd))]) dX4_run_61 (by decide) rfl ?_
          refine ex_iload dX4_run_63 rfl ?_
          refine ex_sipush (v := nI 1000) dX4_run_65 (by decide) ?_
          refine ex_icmp_ne (tgt := 73) dX4_run_68 (by decide) (fun h68 => ?_) (fun h68 => by exact absurd (hvd.symm.trans h68) c1)
          refine ex_iload dX4_run_73 rfl ?_
          refine ex_if_ne (tgt := 80) dX4_run_75 (by decide) (fun h75 => by exact absurd (hvd.trans c2) h75) (fun h75 => ?_)
          refine ex_iload_n (i := 2) dX4_run_78 rfl rfl ?_
          refine ex_iret dX4_run_79 rfl rfl ?_
          exact hQ _ _ _ _ _ _ hL hfr e6 p2 p4.2.2 p3 hqf htv
        · rw [if_neg c2] at hL
          refine ex_aload_n (i := 0) dX4_run_48 rfl rfl ?_
          refine ex_getR (v := .ref (16)) dX4_run_49 fl_Parser_15 rfl rfl (l56 (by decide)) rfl ?_
          refine ex_aload_n (i := 0) dX4_run_52 rfl rfl ?_
          refine ex_cV (ν := m_Parser_topState) (a := 32) (ci := 4) (as := []) dX4_run_53 ln_Parser_60 mf_Parser_topState rfl (l56 (by decide)) rfl rfl np_Parser_topState rfl rfl ⟨(Nat.le_of_ble_eq_true rfl), (Nat.le_of_ble_eq_true rfl), (Nat.le_of_ble_eq_true rfl), (Nat.le_of_ble_eq_true rfl)⟩ (by decide) ?_
          refine sp_Parser_topState (h := h) (by omega) p1 ?_
          refine ⟨_, rfl, ?_⟩
          refine ex_asN (a := ss (h - 1)) hs.1 ?_
          refine ex_iload dX4_run_56 rfl ?_
          refine ex_cV (ν := m_States_deedAt) (a := 16) (ci := 7) (as := [.int (nI (ss (h - 1))), .int (nI (tkA nt TT nx))]) dX4_run_58 ln_Parser_64 mf_States_deedAt rfl (l56 (by decide)) rfl rfl np_States_deedAt rfl rfl ⟨(Nat.le_of_ble_eq_true rfl), (Nat.le_of_ble_eq_true rfl), (Nat.le_of_ble_eq_true rfl), (Nat.le_of_ble_eq_true rfl)⟩ (by decide) ?_
          refine sp_States_deedAt sc1 (by first | exact hs.2 | exact hx7) (by first | exact hs.2 | exact hx7) ?_
          refine ⟨_, rfl, ?_⟩
          refine ex_asI (y := D (ss (h - 1)) (tkA nt TT nx)) hd ?_
          refine ex_topi (fun vd hvd => ?_)
          refine ex_istore (L' := [some (.ref (32)), some (.ref (51)), some (.int (nI (nx))), some (.int (nI (md))), some (.int (nI (tkA nt TT nx))), some (.int (vd))]) dX4_run_61 (by decide) rfl ?_
          refine ex_iload dX4_run_63 rfl ?_
          refine ex_sipush (v := nI 1000) dX4_run_65 (by decide) ?_
          refine ex_icmp_ne (tgt := 73) dX4_run_68 (by decide) (fun h68 => ?_) (fun h68 => by exact absurd (hvd.symm.trans h68) c1)
          refine ex_iload dX4_run_73 rfl ?_
          refine ex_if_ne (tgt := 80) dX4_run_75 (by decide) (fun h75 => ?_) (fun h75 => by exact absurd (hvd.symm.trans h75) c2)
          refine ex_iload_n (i := 3) dX4_run_80 rfl rfl ?_
          refine ex_sipush (v := nI 150) dX4_run_81 (by decide) ?_
          refine ex_icmp_neN (tgt := 90) dX4_run_84 (by decide) (by omega) (by omega) (fun h84 => by omega) (fun h84 => ?_)
          refine ex_bipush (v := -2) dX4_run_87 (by decide) ?_
          refine ex_iret dX4_run_89 rfl rfl ?_
          exact hQ _ _ _ _ _ _ hL hfr e6 p2 p4.2.2 p3 hqf htv
    by_cases hx : nx < nt
    · have e : tkA nt TT nx = TT nx := if_pos hx
      rw [e] at hA
      refine ex_iload_n (i := 3) dX4_run_19 rfl rfl ?_
      refine ex_sipush (v := nI 150) dX4_run_20 (by decide) ?_
      refine ex_icmp_gtN (tgt := 137) dX4_run_23 (by decide) (by omega) (by omega) (fun h23 => by omega) (fun h23 => ?_)
      refine ex_iload_n (i := 2) dX4_run_26 rfl rfl ?_
      refine ex_aload_n (i := 0) dX4_run_27 rfl rfl ?_
      refine ex_getI dX4_run_28 fl_Parser_37 rfl rfl (l56 (by decide)) ?_
      refine ex_asN (a := nt) (e6.trans h6) ?_
      refine ex_icmp_geN (tgt := 45) dX4_run_31 (by decide) (by omega) (by omega) (fun h31 => by omega) (fun h31 => ?_)
      refine ex_aload_n (i := 0) dX4_run_34 rfl rfl ?_
      refine ex_getR (v := .ref (33)) dX4_run_35 fl_Parser_24 rfl rfl (l56 (by decide)) rfl ?_
      refine ex_iload_n (i := 2) dX4_run_38 rfl rfl ?_
      refine ex_cV (ν := m_Row_get) (a := 33) (ci := 6) (as := [.int (nI (nx))]) dX4_run_39 ln_Parser_56 mf_Row_get rfl (l56 (by decide)) rfl rfl np_Row_get rfl rfl ⟨(Nat.le_of_ble_eq_true rfl), (Nat.le_of_ble_eq_true rfl), (Nat.le_of_ble_eq_true rfl), (Nat.le_of_ble_eq_true rfl)⟩ (by decide) ?_
      refine sp_Row_get (r := 33) (c := 34) rfl rfl rfl (l56 (by decide)) (l56 (by decide)) (by omega) ?_
      refine ⟨_, rfl, ?_⟩
      refine ex_asN (a := TT nx) (by rw [hfr 34 (by decide)]; exact (hTT nx hx).1) ?_
      refine ex_goto (tgt := 46) dX4_run_42 (by decide) ?_
      refine ex_istore (L' := [some (.ref (32)), some (.ref (51)), some (.int (nI (nx))), some (.int (nI (md))), some (.int (nI (TT nx))), none]) dX4_run_46 (by decide) rfl ?_
      exact hA
    · have e : tkA nt TT nx = 0 := if_neg hx
      rw [e] at hA
      refine ex_iload_n (i := 3) dX4_run_19 rfl rfl ?_
      refine ex_sipush (v := nI 150) dX4_run_20 (by decide) ?_
      refine ex_icmp_gtN (tgt := 137) dX4_run_23 (by decide) (by omega) (by omega) (fun h23 => by omega) (fun h23 => ?_)
      refine ex_iload_n (i := 2) dX4_run_26 rfl rfl ?_
      refine ex_aload_n (i := 0) dX4_run_27 rfl rfl ?_
      refine ex_getI dX4_run_28 fl_Parser_37 rfl rfl (l56 (by decide)) ?_
      refine ex_asN (a := nt) (e6.trans h6) ?_
      refine ex_icmp_geN (tgt := 45) dX4_run_31 (by decide) (by omega) (by omega) (fun h31 => ?_) (fun h31 => by omega)
      refine ex_iconst (v := nI 0) dX4_run_45 (by decide) ?_
      refine ex_istore (L' := [some (.ref (32)), some (.ref (51)), some (.int (nI (nx))), some (.int (nI (md))), some (.int (nI (0))), none]) dX4_run_46 (by decide) rfl ?_
      exact hA
  | succ f ih =>
    intro nx h md ss sn nd tk i1 q1 hf hnx hfr e6 hp hqf htv hL
    have hp0 := hp
    obtain ⟨p1, p2, p3, p4, p5, p6⟩ := hp
    have sc1 : SC i1 := SC_Fr (l := [32, 38, 40, 51, 53]) rfl hfr sc
    have gs1 : GS i1 n sy := gs.fr hfr (by decide) (by decide)
    have hs := p5 (h - 1) (by omega)
    have hx7 : tkA nt TT nx < 7 := by unfold tkA; split; · have := (hTT nx (by assumption)).2; omega
                                      · omega
    have hd : i1 26 (ss (h - 1) * 7 + tkA nt TT nx) = D (ss (h - 1)) (tkA nt TT nx) := by rw [hfr 26 (by decide)]; exact hD _ _ hs.2 hx7
    unfold LrP at hL
    have hA : Wx m_Parser_run 48 [some (.ref 32), some (.ref 51), some (.int (nI nx)), some (.int (nI md)), some (.int (nI (tkA nt TT nx))), none] [] (56 + ζ, g, i1, q1, RT t) (0, 0) Q := by
      by_cases c1 : D (ss (h - 1)) (tkA nt TT nx) = nI 1000
      · rw [if_pos c1] at hL
        refine ex_aload_n (i := 0) dX4_run_48 rfl rfl ?_
        refine ex_getR (v := .ref (16)) dX4_run_49 fl_Parser_15 rfl rfl (l56 (by decide)) rfl ?_
        refine ex_aload_n (i := 0) dX4_run_52 rfl rfl ?_
        refine ex_cV (ν := m_Parser_topState) (a := 32) (ci := 4) (as := []) dX4_run_53 ln_Parser_60 mf_Parser_topState rfl (l56 (by decide)) rfl rfl np_Parser_topState rfl rfl ⟨(Nat.le_of_ble_eq_true rfl), (Nat.le_of_ble_eq_true rfl), (Nat.le_of_ble_eq_true rfl), (Nat.le_of_ble_eq_true rfl)⟩ (by decide) ?_
        refine sp_Parser_topState (h := h) (by omega) p1 ?_
        refine ⟨_, rfl, ?_⟩
        refine ex_asN (a := ss (h - 1)) hs.1 ?_
        refine ex_iload dX4_run_56 rfl ?_
        refine ex_cV (ν := m_States_deedAt) (a := 16) (ci := 7) (as := [.int (nI (ss (h - 1))), .int (nI (tkA nt TT nx))]) dX4_run_58 ln_Parser_64 mf_States_deedAt rfl (l56 (by decide)) rfl rfl np_States_deedAt rfl rfl ⟨(Nat.le_of_ble_eq_true rfl), (Nat.le_of_ble_eq_true rfl), (Nat.le_of_ble_eq_true rfl), (Nat.le_of_ble_eq_true rfl)⟩ (by decide) ?_
        refine sp_States_deedAt sc1 (by first | exact hs.2 | exact hx7) (by first | exact hs.2 | exact hx7) ?_
        refine ⟨_, rfl, ?_⟩
        refine ex_asI (y := D (ss (h - 1)) (tkA nt TT nx)) hd ?_
        refine ex_topi (fun vd hvd => ?_)
        refine ex_istore (L' := [some (.ref (32)), some (.ref (51)), some (.int (nI (nx))), some (.int (nI (md))), some (.int (nI (tkA nt TT nx))), some (.int (vd))]) dX4_run_61 (by decide) rfl ?_
        refine ex_iload dX4_run_63 rfl ?_
        refine ex_sipush (v := nI 1000) dX4_run_65 (by decide) ?_
        refine ex_icmp_ne (tgt := 73) dX4_run_68 (by decide) (fun h68 => by exact absurd (hvd.trans c1) h68) (fun h68 => ?_)
        refine ex_iconst (v := -1) dX4_run_71 (by decide) ?_
        refine ex_iret dX4_run_72 rfl rfl ?_
        exact hQ _ _ _ _ _ _ hL hfr e6 p2 p4.2.2 p3 hqf htv
      · rw [if_neg c1] at hL
        by_cases c2 : D (ss (h - 1)) (tkA nt TT nx) = nI 0
        · rw [if_pos c2] at hL
          refine ex_aload_n (i := 0) dX4_run_48 rfl rfl ?_
          refine ex_getR (v := .ref (16)) dX4_run_49 fl_Parser_15 rfl rfl (l56 (by decide)) rfl ?_
          refine ex_aload_n (i := 0) dX4_run_52 rfl rfl ?_
          refine ex_cV (ν := m_Parser_topState) (a := 32) (ci := 4) (as := []) dX4_run_53 ln_Parser_60 mf_Parser_topState rfl (l56 (by decide)) rfl rfl np_Parser_topState rfl rfl ⟨(Nat.le_of_ble_eq_true rfl), (Nat.le_of_ble_eq_true rfl), (Nat.le_of_ble_eq_true rfl), (Nat.le_of_ble_eq_true rfl)⟩ (by decide) ?_
          refine sp_Parser_topState (h := h) (by omega) p1 ?_
          refine ⟨_, rfl, ?_⟩
          refine ex_asN (a := ss (h - 1)) hs.1 ?_
          refine ex_iload dX4_run_56 rfl ?_
          refine ex_cV (ν := m_States_deedAt) (a := 16) (ci := 7) (as := [.int (nI (ss (h - 1))), .int (nI (tkA nt TT nx))]) dX4_run_58 ln_Parser_64 mf_States_deedAt rfl (l56 (by decide)) rfl rfl np_States_deedAt rfl rfl ⟨(Nat.le_of_ble_eq_true rfl), (Nat.le_of_ble_eq_true rfl), (Nat.le_of_ble_eq_true rfl), (Nat.le_of_ble_eq_true rfl)⟩ (by decide) ?_
          refine sp_States_deedAt sc1 (by first | exact hs.2 | exact hx7) (by first | exact hs.2 | exact hx7) ?_
          refine ⟨_, rfl, ?_⟩
          refine ex_asI (y := D (ss (h - 1)) (tkA nt TT nx)) hd ?_
          refine ex_topi (fun vd hvd => ?_)
          refine ex_istore (L' := [some (.ref (32)), some (.ref (51)), some (.int (nI (nx))), some (.int (nI (md))), some (.int (nI (tkA nt TT nx))), some (.int (vd))]) dX4_run_61 (by decide) rfl ?_
          refine ex_iload dX4_run_63 rfl ?_
          refine ex_sipush (v := nI 1000) dX4_run_65 (by decide) ?_
          refine ex_icmp_ne (tgt := 73) dX4_run_68 (by decide) (fun h68 => ?_) (fun h68 => by exact absurd (hvd.symm.trans h68) c1)
          refine ex_iload dX4_run_73 rfl ?_
          refine ex_if_ne (tgt := 80) dX4_run_75 (by decide) (fun h75 => by exact absurd (hvd.trans c2) h75) (fun h75 => ?_)
          refine ex_iload_n (i := 2) dX4_run_78 rfl rfl ?_
          refine ex_iret dX4_run_79 rfl rfl ?_
          exact hQ _ _ _ _ _ _ hL hfr e6 p2 p4.2.2 p3 hqf htv
        · rw [if_neg c2] at hL
          rcases hL with ⟨s, ds, s0, s50, hx, hL⟩ | ⟨r, hb, ds, hr, hh, hb1, hG50, hL⟩
          · have e : tkA nt TT nx = TT nx := if_pos hx
            refine ex_aload_n (i := 0) dX4_run_48 rfl rfl ?_
            refine ex_getR (v := .ref (16)) dX4_run_49 fl_Parser_15 rfl rfl (l56 (by decide)) rfl ?_
            refine ex_aload_n (i := 0) dX4_run_52 rfl rfl ?_
            refine ex_cV (ν := m_Parser_topState) (a := 32) (ci := 4) (as := []) dX4_run_53 ln_Parser_60 mf_Parser_topState rfl (l56 (by decide)) rfl rfl np_Parser_topState rfl rfl ⟨(Nat.le_of_ble_eq_true rfl), (Nat.le_of_ble_eq_true rfl), (Nat.le_of_ble_eq_true rfl), (Nat.le_of_ble_eq_true rfl)⟩ (by decide) ?_
            refine sp_Parser_topState (h := h) (by omega) p1 ?_
            refine ⟨_, rfl, ?_⟩
            refine ex_asN (a := ss (h - 1)) hs.1 ?_
            refine ex_iload dX4_run_56 rfl ?_
            refine ex_cV (ν := m_States_deedAt) (a := 16) (ci := 7) (as := [.int (nI (ss (h - 1))), .int (nI (tkA nt TT nx))]) dX4_run_58 ln_Parser_64 mf_States_deedAt rfl (l56 (by decide)) rfl rfl np_States_deedAt rfl rfl ⟨(Nat.le_of_ble_eq_true rfl), (Nat.le_of_ble_eq_true rfl), (Nat.le_of_ble_eq_true rfl), (Nat.le_of_ble_eq_true rfl)⟩ (by decide) ?_
            refine sp_States_deedAt sc1 (by first | exact hs.2 | exact hx7) (by first | exact hs.2 | exact hx7) ?_
            refine ⟨_, rfl, ?_⟩
            refine ex_asI (y := D (ss (h - 1)) (tkA nt TT nx)) hd ?_
            refine ex_topi (fun vd hvd => ?_)
            refine ex_istore (L' := [some (.ref (32)), some (.ref (51)), some (.int (nI (nx))), some (.int (nI (md))), some (.int (nI (tkA nt TT nx))), some (.int (vd))]) dX4_run_61 (by decide) rfl ?_
            refine ex_iload dX4_run_63 rfl ?_
            refine ex_sipush (v := nI 1000) dX4_run_65 (by decide) ?_
            refine ex_icmp_ne (tgt := 73) dX4_run_68 (by decide) (fun h68 => ?_) (fun h68 => by exact absurd (hvd.symm.trans h68) c1)
            refine ex_iload dX4_run_73 rfl ?_
            refine ex_if_ne (tgt := 80) dX4_run_75 (by decide) (fun h75 => ?_) (fun h75 => by exact absurd (hvd.symm.trans h75) c2)
            refine ex_iload_n (i := 3) dX4_run_80 rfl rfl ?_
            refine ex_sipush (v := nI 150) dX4_run_81 (by decide) ?_
            refine ex_icmp_neN (tgt := 90) dX4_run_84 (by decide) (by omega) (by omega) (fun h84 => ?_) (fun h84 => by omega)
            refine ex_iload dX4_run_90 rfl ?_
            refine ex_if_le (tgt := 122) dX4_run_92 (by decide) (fun h92 => by exact absurd (by rw [← ds, ← hvd]; exact h92) (nI_nle s0 (Nat.lt_trans s50 (by decide)))) (fun h92 => ?_)
            refine ex_aload_n (i := 0) dX4_run_95 rfl rfl ?_
            refine ex_iload dX4_run_96 rfl ?_
            refine ex_aload_n (i := 1) dX4_run_98 rfl rfl ?_
            refine ex_iload dX4_run_99 rfl ?_
            refine ex_aload_n (i := 0) dX4_run_101 rfl rfl ?_
            refine ex_getR (v := .ref (35)) dX4_run_102 fl_Parser_28 rfl rfl (l56 (by decide)) rfl ?_
            refine ex_iload_n (i := 2) dX4_run_105 rfl rfl ?_
            refine ex_cV (ν := m_Row_get) (a := 35) (ci := 6) (as := [.int (nI (nx))]) dX4_run_106 ln_Parser_56 mf_Row_get rfl (l56 (by decide)) rfl rfl np_Row_get rfl rfl ⟨(Nat.le_of_ble_eq_true rfl), (Nat.le_of_ble_eq_true rfl), (Nat.le_of_ble_eq_true rfl), (Nat.le_of_ble_eq_true rfl)⟩ (by decide) ?_
            refine sp_Row_get (r := 35) (c := 36) rfl rfl rfl (l56 (by decide)) (l56 (by decide)) (by omega) ?_
            refine ⟨_, rfl, ?_⟩
            refine ex_asI (y := i1 36 nx) rfl ?_
            refine ex_iload_n (i := 2) dX4_run_109 rfl rfl ?_
            refine ex_cV (ν := m_Tree_addTokenNode) (a := 51) (ci := 8) (as := [.int (nI (tkA nt TT nx)), .int (i1 36 nx), .int (nI (nx))]) dX4_run_110 ln_Parser_70 mf_Tree_addTokenNode rfl (l56 (by decide)) rfl rfl np_Tree_addTokenNode rfl rfl ⟨(Nat.le_of_ble_eq_true rfl), (Nat.le_of_ble_eq_true rfl), (Nat.le_of_ble_eq_true rfl), (Nat.le_of_ble_eq_true rfl)⟩ (by decide) ?_
            refine sp_Tree_addTokenNode_51 sc1 (by omega) (by omega) p2 ?_
            refine ⟨_, rfl, ?_⟩
            refine ex_cV (ν := m_Parser_push) (a := 32) (ci := 4) (as := [.int (vd), .int (nI (md))]) dX4_run_113 ln_Parser_53 mf_Parser_push rfl (l56 (by decide)) rfl rfl np_Parser_push rfl rfl ⟨(Nat.le_of_ble_eq_true rfl), (Nat.le_of_ble_eq_true rfl), (Nat.le_of_ble_eq_true rfl), (Nat.le_of_ble_eq_true rfl)⟩ (by decide) ?_
            refine sp_Parser_push (h := h) (by omega) ?_ ?_
            · rw [xU_ne _ _ _ (show (32 : Nat) ≠ 51 by decide), xU_ne _ _ _ (show (32 : Nat) ≠ 53 by decide), xU_ne _ _ _ (show (32 : Nat) ≠ 53 by decide), xU_ne _ _ _ (show (32 : Nat) ≠ 53 by decide), xU_ne _ _ _ (show (32 : Nat) ≠ 53 by decide)]; exact p1
            refine ⟨_, rfl, ?_⟩
            refine ex_iincN (L' := [some (.ref (32)), some (.ref (51)), some (.int (nI (nx + 1))), some (.int (nI (md))), some (.int (nI (tkA nt TT nx))), some (.int (vd))]) dX4_run_116 rfl rfl (by decide) rfl ?_
            refine ex_goto (tgt := 131) dX4_run_119 (by decide) ?_
            refine ex_iincN (L' := [some (.ref (32)), some (.ref (51)), some (.int (nI (nx + 1))), some (.int (nI (md + 1))), some (.int (nI (tkA nt TT nx))), some (.int (vd))]) dX4_run_131 rfl rfl (by decide) rfl ?_
            refine ex_goto (tgt := 19) dX4_run_134 (by decide) ?_
            refine ex_less (L' := [some (.ref 32), some (.ref 51), some (.int (nI (nx + 1))), some (.int (nI (md + 1))), none, none]) (by simp [xSub]) (ih (nx + 1) (h + 1) (md + 1) (upN ss h s) (upN sn h md) _ (upd tk md (nI nx)) _ _ (by omega) hx ?_ ?_ ⟨?_, ?_, ?_, by omega, ?_, ?_⟩ ?_ ?_ hL)
            · exact (((((((hfr.U (by decide)).U (by decide)).U (by decide)).U (by decide)).U (by decide)).U (by decide)).U (by decide)).U (by decide)
            · simp only [xU_ne _ _ _ (show (32 : Nat) ≠ 40 by decide), xU_ne _ _ _ (show (32 : Nat) ≠ 38 by decide), xU_ne _ _ _ (show (32 : Nat) ≠ 51 by decide), xU_ne _ _ _ (show (32 : Nat) ≠ 53 by decide), xU_at]
              simp [upd]; exact e6
            · rw [xU_at]; simp [upd]
            · simp only [xU_ne _ _ _ (show (51 : Nat) ≠ 40 by decide), xU_ne _ _ _ (show (51 : Nat) ≠ 38 by decide), xU_ne _ _ _ (show (51 : Nat) ≠ 32 by decide), xU_at]
              simp [upd]
            · simp only [xU_ne _ _ _ (show (53 : Nat) ≠ 40 by decide), xU_ne _ _ _ (show (53 : Nat) ≠ 38 by decide), xU_ne _ _ _ (show (53 : Nat) ≠ 32 by decide), xU_ne _ _ _ (show (53 : Nat) ≠ 51 by decide), xU_at, p3]
              rfl
            · intro j hj
              simp only [xU_ne _ _ _ (show (38 : Nat) ≠ 40 by decide), xU_ne _ _ _ (show (38 : Nat) ≠ 32 by decide), xU_ne _ _ _ (show (38 : Nat) ≠ 51 by decide), xU_ne _ _ _ (show (38 : Nat) ≠ 53 by decide), xU_at]
              unfold upd upN
              by_cases e : j = h
              · rw [if_pos e, if_pos e]; exact ⟨hvd.trans ds, s50⟩
              · rw [if_neg e, if_neg e]; exact p5 j (by omega)
            · intro j hj1 hj
              simp only [xU_ne _ _ _ (show (40 : Nat) ≠ 38 by decide), xU_ne _ _ _ (show (40 : Nat) ≠ 32 by decide), xU_ne _ _ _ (show (40 : Nat) ≠ 51 by decide), xU_ne _ _ _ (show (40 : Nat) ≠ 53 by decide), xU_at]
              unfold upd upN
              by_cases e : j = h
              · rw [if_pos e, if_pos e]; exact ⟨rfl, by omega⟩
              · rw [if_neg e, if_neg e]; exact ⟨(p6 j hj1 (by omega)).1, by have := (p6 j hj1 (by omega)).2; omega⟩
            · intro c hc
              rw [xUL_ne _ _ _ hc, xUL_ne _ _ _ hc, xUL_ne _ _ _ hc]; exact hqf c hc
            · intro j hj hneg
              rw [rnN_1] at hneg
              simp only [xUL_at]
              unfold vp_updL
              by_cases e : j = md
              · subst e
                refine ⟨nx, hx, by simp [upd], ?_, ?_, ?_⟩
                · rw [if_neg (by omega), if_neg (by omega), if_pos rfl, hfr 36 (by decide)]
                · rw [if_neg (by omega), if_pos rfl]
                · rw [if_pos rfl]
              · rw [if_neg e] at hneg
                obtain ⟨b, b1, b2, b3, b4, b5⟩ := htv j (by omega) hneg
                refine ⟨b, b1, by simp only [upd, if_neg e]; exact b2, ?_, ?_, ?_⟩
                · rw [if_neg (by omega), if_neg (by omega), if_neg (by omega)]; exact b3
                · rw [if_neg (by omega), if_neg (by omega), if_neg (by omega)]; exact b4
                · rw [if_neg (by omega), if_neg (by omega), if_neg (by omega)]; exact b5
          · have hrd := rd_1 (r := r) (by have := gs.2.2.1; omega)
            subst hh
            have hlf := gs.2.2.2.2.1 r hr
            have hsb := p5 (hb - 1) (by omega)
            refine ex_aload_n (i := 0) dX4_run_48 rfl rfl ?_
            refine ex_getR (v := .ref (16)) dX4_run_49 fl_Parser_15 rfl rfl (l56 (by decide)) rfl ?_
            refine ex_aload_n (i := 0) dX4_run_52 rfl rfl ?_
            refine ex_cV (ν := m_Parser_topState) (a := 32) (ci := 4) (as := []) dX4_run_53 ln_Parser_60 mf_Parser_topState rfl (l56 (by decide)) rfl rfl np_Parser_topState rfl rfl ⟨(Nat.le_of_ble_eq_true rfl), (Nat.le_of_ble_eq_true rfl), (Nat.le_of_ble_eq_true rfl), (Nat.le_of_ble_eq_true rfl)⟩ (by decide) ?_
            refine sp_Parser_topState (h := hb + lnR sy r) (by omega) p1 ?_
            refine ⟨_, rfl, ?_⟩
            refine ex_asN (a := ss (hb + lnR sy r - 1)) hs.1 ?_
            refine ex_iload dX4_run_56 rfl ?_
            refine ex_cV (ν := m_States_deedAt) (a := 16) (ci := 7) (as := [.int (nI (ss (hb + lnR sy r - 1))), .int (nI (tkA nt TT nx))]) dX4_run_58 ln_Parser_64 mf_States_deedAt rfl (l56 (by decide)) rfl rfl np_States_deedAt rfl rfl ⟨(Nat.le_of_ble_eq_true rfl), (Nat.le_of_ble_eq_true rfl), (Nat.le_of_ble_eq_true rfl), (Nat.le_of_ble_eq_true rfl)⟩ (by decide) ?_
            refine sp_States_deedAt sc1 (by first | exact hs.2 | exact hx7) (by first | exact hs.2 | exact hx7) ?_
            refine ⟨_, rfl, ?_⟩
            refine ex_asI (y := D (ss (hb + lnR sy r - 1)) (tkA nt TT nx)) hd ?_
            refine ex_topi (fun vd hvd => ?_)
            refine ex_istore (L' := [some (.ref (32)), some (.ref (51)), some (.int (nI (nx))), some (.int (nI (md))), some (.int (nI (tkA nt TT nx))), some (.int (vd))]) dX4_run_61 (by decide) rfl ?_
            refine ex_iload dX4_run_63 rfl ?_
            refine ex_sipush (v := nI 1000) dX4_run_65 (by decide) ?_
            refine ex_icmp_ne (tgt := 73) dX4_run_68 (by decide) (fun h68 => ?_) (fun h68 => by exact absurd (hvd.symm.trans h68) c1)
            refine ex_iload dX4_run_73 rfl ?_
            refine ex_if_ne (tgt := 80) dX4_run_75 (by decide) (fun h75 => ?_) (fun h75 => by exact absurd (hvd.symm.trans h75) c2)
            refine ex_iload_n (i := 3) dX4_run_80 rfl rfl ?_
            refine ex_sipush (v := nI 150) dX4_run_81 (by decide) ?_
            refine ex_icmp_neN (tgt := 90) dX4_run_84 (by decide) (by omega) (by omega) (fun h84 => ?_) (fun h84 => by omega)
            refine ex_iload dX4_run_90 rfl ?_
            refine ex_if_le (tgt := 122) dX4_run_92 (by decide) (fun h92 => ?_) (fun h92 => by exact absurd (by rw [hvd, ds]; exact hrd.2) h92)
            refine ex_aload_n (i := 0) dX4_run_122 rfl rfl ?_
            refine ex_aload_n (i := 1) dX4_run_123 rfl rfl ?_
            refine ex_iconst (v := -1) dX4_run_124 (by decide) ?_
            refine ex_iload dX4_run_125 rfl ?_
            refine ex_isub dX4_run_127 ?_
            refine ex_asN (a := r) (by rw [hvd, ds]; exact hrd.1) ?_
            refine ex_cV (ν := m_Parser_reduce) (a := 32) (ci := 4) (as := [.ref (51), .int (nI (r))]) dX4_run_128 ln_Parser_74 mf_Parser_reduce rfl (l56 (by decide)) rfl rfl np_Parser_reduce rfl rfl ⟨(Nat.le_of_ble_eq_true rfl), (Nat.le_of_ble_eq_true rfl), (Nat.le_of_ble_eq_true rfl), (Nat.le_of_ble_eq_true rfl)⟩ (by decide) ?_
            refine sp_Parser_reduce_51 (G := G (ss (hb - 1)) (sy r 0)) sc1 gs1 hr hp0 hb1 (by omega) ?_ hG50 (fun i3 hf3 h63 hp3 => ?_)
            · rw [hfr 24 (by decide)]; exact hG _ _ hsb.2 (by omega) (by omega)
            refine ⟨_, rfl, ?_⟩
            refine ex_iincN (L' := [some (.ref (32)), some (.ref (51)), some (.int (nI (nx))), some (.int (nI (md + 1))), some (.int (nI (tkA nt TT nx))), some (.int (vd))]) dX4_run_131 rfl rfl (by decide) rfl ?_
            refine ex_goto (tgt := 19) dX4_run_134 (by decide) ?_
            refine ex_less (L' := [some (.ref 32), some (.ref 51), some (.int (nI nx)), some (.int (nI (md + 1))), none, none]) (by simp [xSub]) (ih nx (hb + 1) (md + 1) _ _ _ (upd tk md (-1)) _ _ (by omega) hnx (hfr.tr hf3) (h63.trans e6) hp3 hqf ?_ hL)
            intro j hj hneg
            rw [chN_1 (by decide) (by have : lnR sy r ≤ 4 := lnS_le _; omega), rnN_1] at hneg
            by_cases e : j = md
            · rw [if_pos e] at hneg
              exact absurd hneg (nI_pos (by have := gs.2.2.1; omega))
            · rw [if_neg e] at hneg
              obtain ⟨b, b1, b2, b3⟩ := htv j (by omega) hneg
              exact ⟨b, b1, by simp only [upd, if_neg e]; exact b2, b3⟩
    by_cases hx : nx < nt
    · have e : tkA nt TT nx = TT nx := if_pos hx
      rw [e] at hA
      refine ex_iload_n (i := 3) dX4_run_19 rfl rfl ?_
      refine ex_sipush (v := nI 150) dX4_run_20 (by decide) ?_
      refine ex_icmp_gtN (tgt := 137) dX4_run_23 (by decide) (by omega) (by omega) (fun h23 => by omega) (fun h23 => ?_)
      refine ex_iload_n (i := 2) dX4_run_26 rfl rfl ?_
      refine ex_aload_n (i := 0) dX4_run_27 rfl rfl ?_
      refine ex_getI dX4_run_28 fl_Parser_37 rfl rfl (l56 (by decide)) ?_
      refine ex_asN (a := nt) (e6.trans h6) ?_
      refine ex_icmp_geN (tgt := 45) dX4_run_31 (by decide) (by omega) (by omega) (fun h31 => by omega) (fun h31 => ?_)
      refine ex_aload_n (i := 0) dX4_run_34 rfl rfl ?_
      refine ex_getR (v := .ref (33)) dX4_run_35 fl_Parser_24 rfl rfl (l56 (by decide)) rfl ?_
      refine ex_iload_n (i := 2) dX4_run_38 rfl rfl ?_
      refine ex_cV (ν := m_Row_get) (a := 33) (ci := 6) (as := [.int (nI (nx))]) dX4_run_39 ln_Parser_56 mf_Row_get rfl (l56 (by decide)) rfl rfl np_Row_get rfl rfl ⟨(Nat.le_of_ble_eq_true rfl), (Nat.le_of_ble_eq_true rfl), (Nat.le_of_ble_eq_true rfl), (Nat.le_of_ble_eq_true rfl)⟩ (by decide) ?_
      refine sp_Row_get (r := 33) (c := 34) rfl rfl rfl (l56 (by decide)) (l56 (by decide)) (by omega) ?_
      refine ⟨_, rfl, ?_⟩
      refine ex_asN (a := TT nx) (by rw [hfr 34 (by decide)]; exact (hTT nx hx).1) ?_
      refine ex_goto (tgt := 46) dX4_run_42 (by decide) ?_
      refine ex_istore (L' := [some (.ref (32)), some (.ref (51)), some (.int (nI (nx))), some (.int (nI (md))), some (.int (nI (TT nx))), none]) dX4_run_46 (by decide) rfl ?_
      exact hA
    · have e : tkA nt TT nx = 0 := if_neg hx
      rw [e] at hA
      refine ex_iload_n (i := 3) dX4_run_19 rfl rfl ?_
      refine ex_sipush (v := nI 150) dX4_run_20 (by decide) ?_
      refine ex_icmp_gtN (tgt := 137) dX4_run_23 (by decide) (by omega) (by omega) (fun h23 => by omega) (fun h23 => ?_)
      refine ex_iload_n (i := 2) dX4_run_26 rfl rfl ?_
      refine ex_aload_n (i := 0) dX4_run_27 rfl rfl ?_
      refine ex_getI dX4_run_28 fl_Parser_37 rfl rfl (l56 (by decide)) ?_
      refine ex_asN (a := nt) (e6.trans h6) ?_
      refine ex_icmp_geN (tgt := 45) dX4_run_31 (by decide) (by omega) (by omega) (fun h31 => ?_) (fun h31 => by omega)
      refine ex_iconst (v := nI 0) dX4_run_45 (by decide) ?_
      refine ex_istore (L' := [some (.ref (32)), some (.ref (51)), some (.int (nI (nx))), some (.int (nI (md))), some (.int (nI (0))), none]) dX4_run_46 (by decide) rfl ?_
      exact hA
theorem sp_Parser_run_51 {R : Int32 → Nat → (Nat → Int32) → (Nat → Int32) → Prop} (sc : SC i) (gs : GS i n sy) (h6 : i 32 6 = nI nt) (hnt : nt ≤ 40) (hTT : ∀ j, j < nt → i 34 j = nI (TT j) ∧ 1 ≤ TT j ∧ TT j ≤ 6) (hD : ∀ s x, s < 50 → x < 7 → i 26 (s * 7 + x) = D s x) (hG : ∀ s x, s < 50 → 8 ≤ x → x < 14 → i 24 (s * 14 + x) = nI (G s x)) {ss sn : Nat → Nat} {tk : Nat → Int32} (hL : LrP D G n sy nt TT R 150 0 1 0 (upN ss 0 0) sn (i 53) tk)
    (hQ : (∀ o md nd tk i1 q1, R o md nd tk → Fr [32, 38, 40, 51, 53] i i1 → i1 32 6 = i 32 6 → i1 51 2 = nI md → md ≤ 150 → i1 53 = nd → (∀ c, c ≠ 55 → q1 c = q c) → tvQ 55 i q1 nt md nd tk → Q (.ok (some (.int o))) (56 + ζ, g, i1, q1, RT t))) : Wx m_Parser_run 0 [some (.ref 32), some (.ref 51), none, none, none, none] [] (56 + ζ, g, i, q, RT t) (0, 0) Q := by
  have hfr : Fr [32, 38, 40, 51, 53] i (xU (xU (xU (xU (xU i 51 2 (nI 0)) 32 7 (nI 0)) 38 0 (nI 0)) 40 0 (-1)) 32 7 (nI 1)) := (((((Fr.rf (i := i)).U (by decide)).U (by decide)).U (by decide)).U (by decide)).U (by decide)
  refine ex_aload_n (i := 1) dX4_run_0 rfl rfl ?_
  refine ex_cV (ν := m_Tree_begin) (a := 51) (ci := 8) (as := []) dX4_run_1 ln_Parser_48 mf_Tree_begin rfl (l56 (by decide)) rfl rfl np_Tree_begin rfl rfl ⟨(Nat.le_of_ble_eq_true rfl), (Nat.le_of_ble_eq_true rfl), (Nat.le_of_ble_eq_true rfl), (Nat.le_of_ble_eq_true rfl)⟩ (by decide) ?_
  refine sp_Tree_begin_51 ?_
  refine ⟨_, rfl, ?_⟩
  refine ex_aload_n (i := 0) dX4_run_4 rfl rfl ?_
  refine ex_iconst (v := nI 0) dX4_run_5 (by decide) ?_
  refine ex_putI dX4_run_6 fl_Parser_41 cf_4 rfl (Or.inl rfl) rfl rfl rfl (l56 (by decide)) ?_
  refine ex_aload_n (i := 0) dX4_run_9 rfl rfl ?_
  refine ex_iconst (v := nI 0) dX4_run_10 (by decide) ?_
  refine ex_iconst (v := -1) dX4_run_11 (by decide) ?_
  refine ex_cV (ν := m_Parser_push) (a := 32) (ci := 4) (as := [.int (nI (0)), .int ((-1))]) dX4_run_12 ln_Parser_53 mf_Parser_push rfl (l56 (by decide)) rfl rfl np_Parser_push rfl rfl ⟨(Nat.le_of_ble_eq_true rfl), (Nat.le_of_ble_eq_true rfl), (Nat.le_of_ble_eq_true rfl), (Nat.le_of_ble_eq_true rfl)⟩ (by decide) ?_
  refine sp_Parser_push (h := 0) (by decide) (by rw [xU_at]; simp [upd]) ?_
  refine ⟨_, rfl, ?_⟩
  refine ex_iconst (v := nI 0) dX4_run_15 (by decide) ?_
  refine ex_istore_n (L' := [some (.ref (32)), some (.ref (51)), some (.int (nI (0))), none, none, none]) dX4_run_16 (i := 2) rfl (by decide) rfl ?_
  refine ex_iconst (v := nI 0) dX4_run_17 (by decide) ?_
  refine ex_istore_n (L' := [some (.ref (32)), some (.ref (51)), some (.int (nI (0))), some (.int (nI (0))), none, none]) dX4_run_18 (i := 3) rfl (by decide) rfl ?_
  refine lp_Parser_run_51 sc gs h6 hnt hTT hD hG hQ 150 0 1 0 (upN ss 0 0) sn _ tk _ _ (by decide) (Nat.zero_le _) hfr ?_ ⟨?_, ?_, ?_, by decide, ?_, fun j h1 h2 => by omega⟩ (fun _ _ => rfl) (fun j hj => by omega) hL
  · simp only [xU_ne _ _ _ (show (32 : Nat) ≠ 40 by decide), xU_ne _ _ _ (show (32 : Nat) ≠ 38 by decide), xU_ne _ _ _ (show (32 : Nat) ≠ 51 by decide), xU_at]
    simp [upd]
  · rw [xU_at]; simp [upd]
  · simp only [xU_ne _ _ _ (show (51 : Nat) ≠ 40 by decide), xU_ne _ _ _ (show (51 : Nat) ≠ 38 by decide), xU_ne _ _ _ (show (51 : Nat) ≠ 32 by decide), xU_at]
    simp [upd]
  · simp only [xU_ne _ _ _ (show (53 : Nat) ≠ 40 by decide), xU_ne _ _ _ (show (53 : Nat) ≠ 38 by decide), xU_ne _ _ _ (show (53 : Nat) ≠ 32 by decide), xU_ne _ _ _ (show (53 : Nat) ≠ 51 by decide)]
  · intro j hj
    have e : j = 0 := by omega
    subst e
    simp only [xU_ne _ _ _ (show (38 : Nat) ≠ 40 by decide), xU_ne _ _ _ (show (38 : Nat) ≠ 32 by decide), xU_at]
    simp [upd, upN]
end S38
