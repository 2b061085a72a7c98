/-! ===== Parser: tokens, the stack, a reduction ===== -/
def rnN (nd : Nat → Int32) (md : Nat) (x y : Int32) : Nat → Int32 := upd (upd (upd (upd nd (md * 8 + 0) x) (md * 8 + 1) y) (md * 8 + 2) (-1)) (md * 8 + 3) (nI 0)
def scN (nd : Nat → Int32) (a k c : Nat) : Nat → Int32 := upd (upd (upd nd (a * 8 + (4 + k - 1)) (nI c)) (c * 8 + 2) (nI a)) (c * 8 + 3) (nI k)
/-- node md takes children k, k + 1, .. from the stack -/
def chN (sn : Nat → Nat) (hb md : Nat) : Nat → Nat → (Nat → Int32) → (Nat → Int32)
  | 0, _, nd => nd
  | d + 1, k, nd => chN sn hb md d (k + 1) (scN nd md k (sn (hb + k - 1)))
/-- the parser in the midst of its work -/
def PS (T F : Nat) (i : Nat → Nat → Int32) (h md : Nat) (ss sn : Nat → Nat) (nd : Nat → Int32) : Prop :=
  i 32 7 = nI h ∧ i T 2 = nI md ∧ i F = nd ∧ (1 ≤ h ∧ h ≤ md + 1 ∧ md ≤ 150) ∧ (∀ j, j < h → i 38 j = nI (ss j) ∧ ss j < 50) ∧ (∀ j, 1 ≤ j → j < h → i 40 j = nI (sn j) ∧ sn j < md)
section S37
variable {ζ g : Nat} {i : Nat → Nat → Int32} {q : Nat → Nat → Int64} {t : Bool} {Q : xRes → xMem → Prop} {n : Nat} {sy : Nat → Nat → Nat}
theorem sp_Parser_dropTokens (hQ : Q (.ok none) (56 + ζ, g, xU i 32 6 (nI 0), q, RT t)) : Wx m_Parser_dropTokens 0 [some (.ref 32)] [] (56 + ζ, g, i, q, RT t) (0, 0) Q := by
  refine ex_aload_n (i := 0) dX4_dropTokens_0 rfl rfl ?_
  refine ex_iconst (v := nI 0) dX4_dropTokens_1 (by decide) ?_
  refine ex_putI dX4_dropTokens_2 fl_Parser_37 cf_4 rfl (Or.inl rfl) rfl rfl rfl (l56 (by decide)) ?_
  refine ex_ret dX4_dropTokens_5 rfl ?_
  exact hQ
theorem sp_Parser_addToken {a : Nat} {x y : Int32} (ha : a < 40) (h6 : i 32 6 = nI a) (hQ : Q (.ok (some (.int (nI (a + 1))))) (56 + ζ, g, xU (xU (xU i 34 a x) 36 a y) 32 6 (nI (a + 1)), q, RT t)) : Wx m_Parser_addToken 0 [some (.ref 32), some (.int x), some (.int y)] [] (56 + ζ, g, i, q, RT t) (0, 0) Q := by
  refine ex_aload_n (i := 0) dX4_addToken_0 rfl rfl ?_
  refine ex_getR (v := .ref (33)) dX4_addToken_1 fl_Parser_24 rfl rfl (l56 (by decide)) rfl ?_
  refine ex_aload_n (i := 0) dX4_addToken_4 rfl rfl ?_
  refine ex_getI dX4_addToken_5 fl_Parser_37 rfl rfl (l56 (by decide)) ?_
  refine ex_asN (a := a) h6 ?_
  refine ex_iload_n (i := 1) dX4_addToken_8 rfl rfl ?_
  refine ex_cV (ν := m_Row_set) (a := 33) (ci := 6) (as := [.int (nI (a)), .int (x)]) dX4_addToken_9 ln_Parser_44 mf_Row_set rfl (l56 (by decide)) rfl rfl np_Row_set rfl rfl ⟨(Nat.le_of_ble_eq_true rfl), (Nat.le_of_ble_eq_true rfl), (Nat.le_of_ble_eq_true rfl), (Nat.le_of_ble_eq_true rfl)⟩ (by decide) ?_
  refine sp_Row_set (r := 33) (c := 34) rfl rfl rfl (l56 (by decide)) (l56 (by decide)) (by omega) ?_
  refine ⟨_, rfl, ?_⟩
  refine ex_aload_n (i := 0) dX4_addToken_12 rfl rfl ?_
  refine ex_getR (v := .ref (35)) dX4_addToken_13 fl_Parser_28 rfl rfl (l56 (by decide)) rfl ?_
  refine ex_aload_n (i := 0) dX4_addToken_16 rfl rfl ?_
  refine ex_getI dX4_addToken_17 fl_Parser_37 rfl rfl (l56 (by decide)) ?_
  refine ex_asN (a := a) h6 ?_
  refine ex_iload_n (i := 2) dX4_addToken_20 rfl rfl ?_
  refine ex_cV (ν := m_Row_set) (a := 35) (ci := 6) (as := [.int (nI (a)), .int (y)]) dX4_addToken_21 ln_Parser_44 mf_Row_set rfl (l56 (by decide)) rfl rfl np_Row_set rfl rfl ⟨(Nat.le_of_ble_eq_true rfl), (Nat.le_of_ble_eq_true rfl), (Nat.le_of_ble_eq_true rfl), (Nat.le_of_ble_eq_true rfl)⟩ (by decide) ?_
  refine sp_Row_set (r := 35) (c := 36) rfl rfl rfl (l56 (by decide)) (l56 (by decide)) (by omega) ?_
  refine ⟨_, rfl, ?_⟩
  refine ex_aload_n (i := 0) dX4_addToken_24 rfl rfl ?_
  refine ex_dup dX4_addToken_25 rfl ?_
  refine ex_getI dX4_addToken_26 fl_Parser_37 rfl rfl (l56 (by decide)) ?_
  refine ex_asN (a := a) h6 ?_
  refine ex_iconst (v := nI 1) dX4_addToken_29 (by decide) ?_
  refine ex_iaddN dX4_addToken_30 ?_
  refine ex_putI dX4_addToken_31 fl_Parser_37 cf_4 rfl (Or.inl rfl) rfl rfl rfl (l56 (by decide)) ?_
  refine ex_aload_n (i := 0) dX4_addToken_34 rfl rfl ?_
  refine ex_getI dX4_addToken_35 fl_Parser_37 rfl rfl (l56 (by decide)) ?_
  refine ex_asN (a := a + 1) (by first | rfl | simp [xU, upd]) ?_
  refine ex_iret dX4_addToken_38 rfl rfl ?_
  exact hQ
theorem sp_Parser_topState {h : Nat} (hh : 1 ≤ h ∧ h ≤ 151) (h7 : i 32 7 = nI h) (hQ : Q (.ok (some (.int (i 38 (h - 1))))) (56 + ζ, g, i, q, RT t)) : Wx m_Parser_topState 0 [some (.ref 32)] [] (56 + ζ, g, i, q, RT t) (0, 0) Q := by
  refine ex_aload_n (i := 0) dX4_topState_0 rfl rfl ?_
  refine ex_getR (v := .ref (37)) dX4_topState_1 fl_Parser_31 rfl rfl (l56 (by decide)) rfl ?_
  refine ex_aload_n (i := 0) dX4_topState_4 rfl rfl ?_
  refine ex_getI dX4_topState_5 fl_Parser_41 rfl rfl (l56 (by decide)) ?_
  refine ex_asN (a := h) h7 ?_
  refine ex_iconst (v := nI 1) dX4_topState_8 (by decide) ?_
  refine ex_isubN dX4_topState_9 (by omega) ?_
  refine ex_cV (ν := m_Row_get) (a := 37) (ci := 6) (as := [.int (nI (h - 1))]) dX4_topState_10 ln_Parser_56 mf_Row_get rfl (l56 (by decide)) rfl rfl np_Row_get rfl rfl ⟨(Nat.le_of_ble_eq_true rfl), (Nat.le_of_ble_eq_true rfl), (Nat.le_of_ble_eq_true rfl), (Nat.le_of_ble_eq_true rfl)⟩ (by decide) ?_
  refine sp_Row_get (r := 37) (c := 38) rfl rfl rfl (l56 (by decide)) (l56 (by decide)) (by omega) ?_
  refine ⟨_, rfl, ?_⟩
  refine ex_iret dX4_topState_13 rfl rfl ?_
  exact hQ
theorem sp_Parser_push {h : Nat} {x y : Int32} (hh : h < 151) (h7 : i 32 7 = nI h) (hQ : Q (.ok none) (56 + ζ, g, xU (xU (xU i 38 h x) 40 h y) 32 7 (nI (h + 1)), q, RT t)) : Wx m_Parser_push 0 [some (.ref 32), some (.int x), some (.int y)] [] (56 + ζ, g, i, q, RT t) (0, 0) Q := by
  refine ex_aload_n (i := 0) dX4_push_0 rfl rfl ?_
  refine ex_getR (v := .ref (37)) dX4_push_1 fl_Parser_31 rfl rfl (l56 (by decide)) rfl ?_
  refine ex_aload_n (i := 0) dX4_push_4 rfl rfl ?_
  refine ex_getI dX4_push_5 fl_Parser_41 rfl rfl (l56 (by decide)) ?_
  refine ex_asN (a := h) h7 ?_
  refine ex_iload_n (i := 1) dX4_push_8 rfl rfl ?_
  refine ex_cV (ν := m_Row_set) (a := 37) (ci := 6) (as := [.int (nI (h)), .int (x)]) dX4_push_9 ln_Parser_44 mf_Row_set rfl (l56 (by decide)) rfl rfl np_Row_set rfl rfl ⟨(Nat.le_of_ble_eq_true rfl), (Nat.le_of_ble_eq_true rfl), (Nat.le_of_ble_eq_true rfl), (Nat.le_of_ble_eq_true rfl)⟩ (by decide) ?_
  refine sp_Row_set (r := 37) (c := 38) rfl rfl rfl (l56 (by decide)) (l56 (by decide)) (by omega) ?_
  refine ⟨_, rfl, ?_⟩
  refine ex_aload_n (i := 0) dX4_push_12 rfl rfl ?_
  refine ex_getR (v := .ref (39)) dX4_push_13 fl_Parser_34 rfl rfl (l56 (by decide)) rfl ?_
  refine ex_aload_n (i := 0) dX4_push_16 rfl rfl ?_
  refine ex_getI dX4_push_17 fl_Parser_41 rfl rfl (l56 (by decide)) ?_
  refine ex_asN (a := h) h7 ?_
  refine ex_iload_n (i := 2) dX4_push_20 rfl rfl ?_
  refine ex_cV (ν := m_Row_set) (a := 39) (ci := 6) (as := [.int (nI (h)), .int (y)]) dX4_push_21 ln_Parser_44 mf_Row_set rfl (l56 (by decide)) rfl rfl np_Row_set rfl rfl ⟨(Nat.le_of_ble_eq_true rfl), (Nat.le_of_ble_eq_true rfl), (Nat.le_of_ble_eq_true rfl), (Nat.le_of_ble_eq_true rfl)⟩ (by decide) ?_
  refine sp_Row_set (r := 39) (c := 40) rfl rfl rfl (l56 (by decide)) (l56 (by decide)) (by omega) ?_
  refine ⟨_, rfl, ?_⟩
  refine ex_aload_n (i := 0) dX4_push_24 rfl rfl ?_
  refine ex_dup dX4_push_25 rfl ?_
  refine ex_getI dX4_push_26 fl_Parser_41 rfl rfl (l56 (by decide)) ?_
  refine ex_asN (a := h) h7 ?_
  refine ex_iconst (v := nI 1) dX4_push_29 (by decide) ?_
  refine ex_iaddN dX4_push_30 ?_
  refine ex_putI dX4_push_31 fl_Parser_41 cf_4 rfl (Or.inl rfl) rfl rfl rfl (l56 (by decide)) ?_
  refine ex_ret dX4_push_34 rfl ?_
  exact hQ
theorem lp_Parser_reduce_46 {r lf ln md hb : Nat} {sn : Nat → Nat} (sc : SC i) (hh : 1 ≤ hb ∧ hb + ln ≤ 151) (hl : ln ≤ 4) (hm : md < 150) (h7 : i 32 7 = nI hb) (hs : ∀ j, hb ≤ j → j < hb + ln → i 40 j = nI (sn j) ∧ sn j < md)
    (hQ : ∀ i1, Fr [48] i i1 → i1 48 = chN sn hb md ln 1 (i 48) → Wx m_Parser_reduce 78 [some (.ref 32), some (.ref 46), some (.int (nI r)), some (.int (nI lf)), some (.int (nI ln)), some (.int (nI md)), none] [] (56 + ζ, g, i1, q, RT t) (0, 0) Q) :
    ∀ d k i1, k + d = ln + 1 → 1 ≤ k → Fr [48] i i1 → chN sn hb md d k (i1 48) = chN sn hb md ln 1 (i 48) → Wx m_Parser_reduce 41 [some (.ref 32), some (.ref 46), some (.int (nI r)), some (.int (nI lf)), some (.int (nI ln)), some (.int (nI md)), some (.int (nI k))] [] (56 + ζ, g, i1, q, RT t) (0, 0) Q := by
  intro d
  induction d with
  | zero =>
    intro k i1 hk h1 hf he
    refine ex_iload dX4_reduce_41 rfl ?_
    refine ex_iload dX4_reduce_43 rfl ?_
    refine ex_icmp_gtN (tgt := 78) dX4_reduce_45 (by decide) (by omega) (by omega) (fun h45 => ?_) (fun h45 => by omega)
    exact ex_less (L' := [some (.ref 32), some (.ref 46), some (.int (nI r)), some (.int (nI lf)), some (.int (nI ln)), some (.int (nI md)), none]) (by simp [xSub]) (hQ i1 hf he)
  | succ d ih =>
    intro k i1 hk h1 hf he
    have sc1 : SC i1 := SC_Fr (l := [48]) rfl hf sc
    have h71 : i1 32 7 = nI hb := by rw [hf 32 (by decide)]; exact h7
    have hs1 := hs (hb + k - 1) (by omega) (by omega)
    have hs2 : i1 40 (hb + k - 1) = nI (sn (hb + k - 1)) := by rw [hf 40 (by decide)]; exact hs1.1
    refine ex_iload dX4_reduce_41 rfl ?_
    refine ex_iload dX4_reduce_43 rfl ?_
    refine ex_icmp_gtN (tgt := 78) dX4_reduce_45 (by decide) (by omega) (by omega) (fun h45 => by omega) (fun h45 => ?_)
    refine ex_aload_n (i := 1) dX4_reduce_48 rfl rfl ?_
    refine ex_iload dX4_reduce_49 rfl ?_
    refine ex_iload dX4_reduce_51 rfl ?_
    refine ex_aload_n (i := 0) dX4_reduce_53 rfl rfl ?_
    refine ex_getR (v := .ref (39)) dX4_reduce_54 fl_Parser_34 rfl rfl (l56 (by decide)) rfl ?_
    refine ex_aload_n (i := 0) dX4_reduce_57 rfl rfl ?_
    refine ex_getI dX4_reduce_58 fl_Parser_41 rfl rfl (l56 (by decide)) ?_
    refine ex_asN (a := hb) h71 ?_
    refine ex_iload dX4_reduce_61 rfl ?_
    refine ex_iaddN dX4_reduce_63 ?_
    refine ex_iconst (v := nI 1) dX4_reduce_64 (by decide) ?_
    refine ex_isubN dX4_reduce_65 (by omega) ?_
    refine ex_cV (ν := m_Row_get) (a := 39) (ci := 6) (as := [.int (nI ((hb + k) - 1))]) dX4_reduce_66 ln_Parser_56 mf_Row_get rfl (l56 (by decide)) rfl rfl np_Row_get rfl rfl ⟨(Nat.le_of_ble_eq_true rfl), (Nat.le_of_ble_eq_true rfl), (Nat.le_of_ble_eq_true rfl), (Nat.le_of_ble_eq_true rfl)⟩ (by decide) ?_
    refine sp_Row_get (r := 39) (c := 40) rfl rfl rfl (l56 (by decide)) (l56 (by decide)) (by omega) ?_
    refine ⟨_, rfl, ?_⟩
    refine ex_asN (a := sn (hb + k - 1)) hs2 ?_
    refine ex_cV (ν := m_Tree_setChild) (a := 46) (ci := 8) (as := [.int (nI (md)), .int (nI (k)), .int (nI (sn (hb + k - 1)))]) dX4_reduce_69 ln_Parser_89 mf_Tree_setChild rfl (l56 (by decide)) rfl rfl np_Tree_setChild rfl rfl ⟨(Nat.le_of_ble_eq_true rfl), (Nat.le_of_ble_eq_true rfl), (Nat.le_of_ble_eq_true rfl), (Nat.le_of_ble_eq_true rfl)⟩ (by decide) ?_
    refine sp_Tree_setChild_46 (k := k) sc1 hm (Nat.lt_trans hs1.2 hm) ⟨h1, by omega⟩ ?_
    refine ⟨_, rfl, ?_⟩
    refine ex_iincN (L' := [some (.ref (32)), some (.ref (46)), some (.int (nI (r))), some (.int (nI (lf))), some (.int (nI (ln))), some (.int (nI (md))), some (.int (nI (k + 1)))]) dX4_reduce_72 rfl rfl (by decide) rfl ?_
    refine ex_goto (tgt := 41) dX4_reduce_75 (by decide) ?_
    refine ih (k + 1) _ (by omega) (by omega) (((hf.U (by decide)).U (by decide)).U (by decide)) ?_
    simp only [xU_at]
    exact he
theorem lq_Parser_reduce_46 {r lf ln md hb G : Nat} {ss sn : Nat → Nat} {nd : Nat → Int32} {i0 : Nat → Nat → Int32} (sc : SC i) (p4 : 1 ≤ hb + ln ∧ hb + ln ≤ md + 1 ∧ md ≤ 150) (p5 : ∀ j, j < hb + ln → i0 38 j = nI (ss j) ∧ ss j < 50) (p6 : ∀ j, 1 ≤ j → j < hb + ln → i0 40 j = nI (sn j) ∧ sn j < md) (h1 : 1 ≤ hb) (hm : md < 150) (hl : ln ≤ 4) (hs2 : ss (hb - 1) < 50) (hlf : lf ≤ 13) (hG : i 24 (ss (hb - 1) * 14 + lf) = nI G) (hG2 : G < 50)
    (e7 : i 32 7 = nI hb) (e38 : i 38 = i0 38) (e40 : i 40 = i0 40) (eT : i 46 2 = nI (md + 1)) (eF : i 48 = nd)
    (hQ : ∀ i1, Fr [32, 38, 40] i i1 → i1 32 6 = i 32 6 → PS 46 48 i1 (hb + 1) (md + 1) (upN ss hb G) (upN sn hb md) nd → Q (.ok none) (56 + ζ, g, i1, q, RT t)) :
    Wx m_Parser_reduce 78 [some (.ref 32), some (.ref 46), some (.int (nI r)), some (.int (nI lf)), some (.int (nI ln)), some (.int (nI md)), none] [] (56 + ζ, g, i, q, RT t) (0, 0) Q := by
  have e38' : i 38 (hb - 1) = nI (ss (hb - 1)) := by rw [e38]; exact (p5 (hb - 1) (by omega)).1
  refine ex_aload_n (i := 0) dX4_reduce_78 rfl rfl ?_
  refine ex_aload_n (i := 0) dX4_reduce_79 rfl rfl ?_
  refine ex_getR (v := .ref (16)) dX4_reduce_80 fl_Parser_15 rfl rfl (l56 (by decide)) rfl ?_
  refine ex_aload_n (i := 0) dX4_reduce_83 rfl rfl ?_
  refine ex_cV (ν := m_Parser_topState) (a := 32) (ci := 4) (as := []) dX4_reduce_84 ln_Parser_60 mf_Parser_topState rfl (l56 (by decide)) rfl rfl np_Parser_topState rfl rfl ⟨(Nat.le_of_ble_eq_true rfl), (Nat.le_of_ble_eq_true rfl), (Nat.le_of_ble_eq_true rfl), (Nat.le_of_ble_eq_true rfl)⟩ (by decide) ?_
  refine sp_Parser_topState (h := hb) (by omega) e7 ?_
  refine ⟨_, rfl, ?_⟩
  refine ex_asN (a := ss (hb - 1)) e38' ?_
  refine ex_iload_n (i := 3) dX4_reduce_87 rfl rfl ?_
  -- target
  refine ex_cV (ν := m_States_target) (a := 16) (ci := 7) (as := [.int (nI (ss (hb - 1))), .int (nI (lf))]) dX4_reduce_88 ln_Parser_93 mf_States_target rfl (l56 (by decide)) rfl rfl np_States_target rfl rfl ⟨(Nat.le_of_ble_eq_true rfl), (Nat.le_of_ble_eq_true rfl), (Nat.le_of_ble_eq_true rfl), (Nat.le_of_ble_eq_true rfl)⟩ (by decide) ?_
  refine sp_States_target sc (by omega) (by omega) ?_
  refine ⟨_, rfl, ?_⟩
  refine ex_iload dX4_reduce_91 rfl ?_
  refine ex_cV (ν := m_Parser_push) (a := 32) (ci := 4) (as := [.int (i (24) ((ss (hb - 1)) * 14 + lf)), .int (nI (md))]) dX4_reduce_93 ln_Parser_53 mf_Parser_push rfl (l56 (by decide)) rfl rfl np_Parser_push rfl rfl ⟨(Nat.le_of_ble_eq_true rfl), (Nat.le_of_ble_eq_true rfl), (Nat.le_of_ble_eq_true rfl), (Nat.le_of_ble_eq_true rfl)⟩ (by decide) ?_
  refine sp_Parser_push (h := hb) (by omega) e7 ?_
  refine ⟨_, rfl, ?_⟩
  refine ex_ret dX4_reduce_96 rfl ?_
  refine hQ _ (((Fr.rf.U (by decide)).U (by decide)).U (by decide)) ?_ ⟨?_, ?_, ?_, by omega, ?_, ?_⟩
  · rw [xU_at]; simp [upd, xU]
  · rw [xU_at]; simp [upd]
  · rw [xU_ne _ _ _ (show (46 : Nat) ≠ 32 by decide), xU_ne _ _ _ (show (46 : Nat) ≠ 40 by decide), xU_ne _ _ _ (show (46 : Nat) ≠ 38 by decide)]; exact eT
  · rw [xU_ne _ _ _ (show (48 : Nat) ≠ 32 by decide), xU_ne _ _ _ (show (48 : Nat) ≠ 40 by decide), xU_ne _ _ _ (show (48 : Nat) ≠ 38 by decide)]; exact eF
  · intro j hj
    rw [xU_ne _ _ _ (show (38 : Nat) ≠ 32 by decide), xU_ne _ _ _ (show (38 : Nat) ≠ 40 by decide), xU_at]
    unfold upd upN
    by_cases e : j = hb
    · rw [if_pos e, if_pos e]; exact ⟨hG, hG2⟩
    · rw [if_neg e, if_neg e, e38]; exact p5 j (by omega)
  · intro j hj1 hj
    rw [xU_ne _ _ _ (show (40 : Nat) ≠ 32 by decide), xU_at, xU_ne _ _ _ (show (40 : Nat) ≠ 38 by decide)]
    unfold upd upN
    by_cases e : j = hb
    · rw [if_pos e, if_pos e]; exact ⟨rfl, by omega⟩
    · rw [if_neg e, if_neg e, e40]; exact ⟨(p6 j hj1 (by omega)).1, by have := (p6 j hj1 (by omega)).2; omega⟩
theorem sp_Parser_reduce_46 {r md hb G : Nat} {ss sn : Nat → Nat} {nd : Nat → Int32} (sc : SC i) (gs : GS i n sy) (hr : r < n) (hp : PS 46 48 i (hb + lnR sy r) md ss sn nd) (h1 : 1 ≤ hb) (hm : md < 150) (hG : i 24 (ss (hb - 1) * 14 + sy r 0) = nI G) (hG2 : G < 50)
    (hQ : ∀ i1, Fr [32, 38, 40, 46, 48] i i1 → i1 32 6 = i 32 6 → PS 46 48 i1 (hb + 1) (md + 1) (upN ss hb G) (upN sn hb md) (chN sn hb md (lnR sy r) 1 (rnN nd md (nI (sy r 0)) (nI r))) → Q (.ok none) (56 + ζ, g, i1, q, RT t)) :
    Wx m_Parser_reduce 0 [some (.ref 32), some (.ref 46), some (.int (nI r)), none, none, none, none] [] (56 + ζ, g, i, q, RT t) (0, 0) Q := by
  obtain ⟨p1, p2, p3, p4, p5, p6⟩ := hp
  have hl : lnR sy r ≤ 4 := lnS_le _
  have hn := gs.2.2.1
  have hlf := gs.2.2.le (r := r) (k := 0) (by omega) (by decide)
  have hs1 : i 38 (hb - 1) = nI (ss (hb - 1)) := (p5 (hb - 1) (by omega)).1
  have hs2 : ss (hb - 1) < 50 := (p5 (hb - 1) (by omega)).2
  refine ex_aload_n (i := 0) dX4_reduce_0 rfl rfl ?_
  refine ex_getR (v := .ref (1)) dX4_reduce_1 fl_Parser_9 rfl rfl (l56 (by decide)) rfl ?_
  refine ex_iload_n (i := 2) dX4_reduce_4 rfl rfl ?_
  refine ex_cV (ν := m_Grammar_leftOf) (a := 1) (ci := 1) (as := [.int (nI (r))]) dX4_reduce_5 ln_Parser_78 mf_Grammar_leftOf rfl (l56 (by decide)) rfl rfl np_Grammar_leftOf rfl rfl ⟨(Nat.le_of_ble_eq_true rfl), (Nat.le_of_ble_eq_true rfl), (Nat.le_of_ble_eq_true rfl), (Nat.le_of_ble_eq_true rfl)⟩ (by decide) ?_
  refine sp_Grammar_leftOf sc (by omega) ?_
  refine ⟨_, rfl, ?_⟩
  refine ex_asN (a := sy r 0) (gs.2.1 r 0 (by omega) (by decide)) ?_
  refine ex_istore_n (L' := [some (.ref (32)), some (.ref (46)), some (.int (nI (r))), some (.int (nI (sy r 0))), none, none, none]) dX4_reduce_8 (i := 3) rfl (by decide) rfl ?_
  refine ex_aload_n (i := 0) dX4_reduce_9 rfl rfl ?_
  refine ex_getR (v := .ref (1)) dX4_reduce_10 fl_Parser_9 rfl rfl (l56 (by decide)) rfl ?_
  refine ex_iload_n (i := 2) dX4_reduce_13 rfl rfl ?_
  refine ex_cV (ν := m_Grammar_lengthOf) (a := 1) (ci := 1) (as := [.int (nI (r))]) dX4_reduce_14 ln_Parser_83 mf_Grammar_lengthOf rfl (l56 (by decide)) rfl rfl np_Grammar_lengthOf rfl rfl ⟨(Nat.le_of_ble_eq_true rfl), (Nat.le_of_ble_eq_true rfl), (Nat.le_of_ble_eq_true rfl), (Nat.le_of_ble_eq_true rfl)⟩ (by decide) ?_
  refine sp_Grammar_lengthOf (f := sy r) sc (by omega) (fun k hk => gs.2.1 r k (by omega) hk) (fun k hk => Nat.lt_of_le_of_lt (gs.2.2.le (by omega) hk) (by decide)) ?_
  refine ⟨_, rfl, ?_⟩
  refine ex_istore (L' := [some (.ref (32)), some (.ref (46)), some (.int (nI (r))), some (.int (nI (sy r 0))), some (.int (nI (lnR sy r))), none, none]) dX4_reduce_17 (by decide) rfl ?_
  refine ex_aload_n (i := 1) dX4_reduce_19 rfl rfl ?_
  refine ex_iload_n (i := 3) dX4_reduce_20 rfl rfl ?_
  refine ex_iload_n (i := 2) dX4_reduce_21 rfl rfl ?_
  refine ex_cV (ν := m_Tree_addRuleNode) (a := 46) (ci := 8) (as := [.int (nI (sy r 0)), .int (nI (r))]) dX4_reduce_22 ln_Parser_86 mf_Tree_addRuleNode rfl (l56 (by decide)) rfl rfl np_Tree_addRuleNode rfl rfl ⟨(Nat.le_of_ble_eq_true rfl), (Nat.le_of_ble_eq_true rfl), (Nat.le_of_ble_eq_true rfl), (Nat.le_of_ble_eq_true rfl)⟩ (by decide) ?_
  refine sp_Tree_addRuleNode_46 sc hm p2 ?_
  refine ⟨_, rfl, ?_⟩
  refine ex_istore (L' := [some (.ref (32)), some (.ref (46)), some (.int (nI (r))), some (.int (nI (sy r 0))), some (.int (nI (lnR sy r))), some (.int (nI (md))), none]) dX4_reduce_25 (by decide) rfl ?_
  refine ex_aload_n (i := 0) dX4_reduce_27 rfl rfl ?_
  refine ex_dup dX4_reduce_28 rfl ?_
  refine ex_getI dX4_reduce_29 fl_Parser_41 rfl rfl (l56 (by decide)) ?_
  refine ex_asN (a := hb + lnR sy r) (by first | exact p1 | (simp [xU, upd]; exact p1)) ?_
  refine ex_iload dX4_reduce_32 rfl ?_
  refine ex_isubN dX4_reduce_34 (by omega) ?_
  refine ex_asN (a := hb) (by rw [show hb + lnR sy r - lnR sy r = hb by omega]) ?_
  refine ex_putI dX4_reduce_35 fl_Parser_41 cf_4 rfl (Or.inl rfl) rfl rfl rfl (l56 (by decide)) ?_
  refine ex_iconst (v := nI 1) dX4_reduce_38 (by decide) ?_
  refine ex_istore (L' := [some (.ref (32)), some (.ref (46)), some (.int (nI (r))), some (.int (nI (sy r 0))), some (.int (nI (lnR sy r))), some (.int (nI (md))), some (.int (nI (1)))]) dX4_reduce_39 (by decide) rfl ?_
  have hfr : Fr [32, 46, 48] i (xU (xU (xU (xU (xU (xU i 48 (md * 8 + 0) (nI (sy r 0))) 48 (md * 8 + 1) (nI r)) 48 (md * 8 + 2) (-1)) 48 (md * 8 + 3) (nI 0)) 46 2 (nI (md + 1))) 32 7 (nI hb)) := ((((((Fr.rf (i := i)).U (by decide)).U (by decide)).U (by decide)).U (by decide)).U (by decide)).U (by decide)
  refine lp_Parser_reduce_46 (sn := sn) (hb := hb) (SC_Fr (l := [32, 46, 48]) rfl hfr sc) (by omega) hl hm (by rw [xU_at]; simp [upd]) (fun j hj hj2 => by rw [hfr 40 (by decide)]; exact p6 j (by omega) (by omega)) (fun i1 hf1 he1 => ?_) (lnR sy r) 1 _ (by omega) (by decide) Fr.rf rfl
  have e24 : i1 24 = i 24 := by rw [hf1 24 (by decide)]; exact hfr 24 (by decide)
  have e38 : i1 38 = i 38 := by rw [hf1 38 (by decide)]; exact hfr 38 (by decide)
  have e40 : i1 40 = i 40 := by rw [hf1 40 (by decide)]; exact hfr 40 (by decide)
  have e7 : i1 32 7 = nI hb := by rw [hf1 32 (by decide), xU_at]; simp [upd]
  have e6 : i1 32 6 = i 32 6 := by rw [hf1 32 (by decide), xU_at]; simp [upd, xU]
  have sc2 : SC i1 := SC_Fr (l := [48]) rfl hf1 (SC_Fr (l := [32, 46, 48]) rfl hfr sc)
  have eT : i1 46 2 = nI (md + 1) := by rw [hf1 46 (by decide), xU_ne _ _ _ (show (46 : Nat) ≠ 32 by decide), xU_at]; simp [upd]
  have eF : i1 48 = chN sn hb md (lnR sy r) 1 (rnN nd md (nI (sy r 0)) (nI r)) := by
    rw [he1]
    simp only [xU_ne _ _ _ (show (48 : Nat) ≠ 32 by decide), xU_ne _ _ _ (show (48 : Nat) ≠ 46 by decide), xU_at, p3]
    rfl
  exact lq_Parser_reduce_46 sc2 p4 p5 p6 h1 hm hl hs2 hlf (by rw [e24]; exact hG) hG2 e7 e38 e40 eT eF (fun i2 hf2 h62 hp2 => hQ i2 ((hfr.mono (by decide)).tr ((hf1.mono (by decide)).tr (hf2.mono (by decide)))) (h62.trans e6) hp2)
theorem lp_Parser_reduce_51 {r lf ln md hb : Nat} {sn : Nat → Nat} (sc : SC i) (hh : 1 ≤ hb ∧ hb + ln ≤ 151) (hl : ln ≤ 4) (hm : md < 150) (h7 : i 32 7 = nI hb) (hs : ∀ j, hb ≤ j → j < hb + ln → i 40 j = nI (sn j) ∧ sn j < md)
    (hQ : ∀ i1, Fr [53] i i1 → i1 53 = chN sn hb md ln 1 (i 53) → Wx m_Parser_reduce 78 [some (.ref 32), some (.ref 51), some (.int (nI r)), some (.int (nI lf)), some (.int (nI ln)), some (.int (nI md)), none] [] (56 + ζ, g, i1, q, RT t) (0, 0) Q) :
    ∀ d k i1, k + d = ln + 1 → 1 ≤ k → Fr [53] i i1 → chN sn hb md d k (i1 53) = chN sn hb md ln 1 (i 53) → Wx m_Parser_reduce 41 [some (.ref 32), some (.ref 51), some (.int (nI r)), some (.int (nI lf)), some (.int (nI ln)), some (.int (nI md)), some (.int (nI k))] [] (56 + ζ, g, i1, q, RT t) (0, 0) Q := by
  intro d
  induction d with
  | zero =>
    intro k i1 hk h1 hf he
    refine ex_iload dX4_reduce_41 rfl ?_
    refine ex_iload dX4_reduce_43 rfl ?_
    refine ex_icmp_gtN (tgt := 78) dX4_reduce_45 (by decide) (by omega) (by omega) (fun h45 => ?_) (fun h45 => by omega)
    exact ex_less (L' := [some (.ref 32), some (.ref 51), some (.int (nI r)), some (.int (nI lf)), some (.int (nI ln)), some (.int (nI md)), none]) (by simp [xSub]) (hQ i1 hf he)
  | succ d ih =>
    intro k i1 hk h1 hf he
    have sc1 : SC i1 := SC_Fr (l := [53]) rfl hf sc
    have h71 : i1 32 7 = nI hb := by rw [hf 32 (by decide)]; exact h7
    have hs1 := hs (hb + k - 1) (by omega) (by omega)
    have hs2 : i1 40 (hb + k - 1) = nI (sn (hb + k - 1)) := by rw [hf 40 (by decide)]; exact hs1.1
    refine ex_iload dX4_reduce_41 rfl ?_
    refine ex_iload dX4_reduce_43 rfl ?_
    refine ex_icmp_gtN (tgt := 78) dX4_reduce_45 (by decide) (by omega) (by omega) (fun h45 => by omega) (fun h45 => ?_)
    refine ex_aload_n (i := 1) dX4_reduce_48 rfl rfl ?_
    refine ex_iload dX4_reduce_49 rfl ?_
    refine ex_iload dX4_reduce_51 rfl ?_
    refine ex_aload_n (i := 0) dX4_reduce_53 rfl rfl ?_
    refine ex_getR (v := .ref (39)) dX4_reduce_54 fl_Parser_34 rfl rfl (l56 (by decide)) rfl ?_
    refine ex_aload_n (i := 0) dX4_reduce_57 rfl rfl ?_
    refine ex_getI dX4_reduce_58 fl_Parser_41 rfl rfl (l56 (by decide)) ?_
    refine ex_asN (a := hb) h71 ?_
    refine ex_iload dX4_reduce_61 rfl ?_
    refine ex_iaddN dX4_reduce_63 ?_
    refine ex_iconst (v := nI 1) dX4_reduce_64 (by decide) ?_
    refine ex_isubN dX4_reduce_65 (by omega) ?_
    refine ex_cV (ν := m_Row_get) (a := 39) (ci := 6) (as := [.int (nI ((hb + k) - 1))]) dX4_reduce_66 ln_Parser_56 mf_Row_get rfl (l56 (by decide)) rfl rfl np_Row_get rfl rfl ⟨(Nat.le_of_ble_eq_true rfl), (Nat.le_of_ble_eq_true rfl), (Nat.le_of_ble_eq_true rfl), (Nat.le_of_ble_eq_true rfl)⟩ (by decide) ?_
    refine sp_Row_get (r := 39) (c := 40) rfl rfl rfl (l56 (by decide)) (l56 (by decide)) (by omega) ?_
    refine ⟨_, rfl, ?_⟩
    refine ex_asN (a := sn (hb + k - 1)) hs2 ?_
    refine ex_cV (ν := m_Tree_setChild) (a := 51) (ci := 8) (as := [.int (nI (md)), .int (nI (k)), .int (nI (sn (hb + k - 1)))]) dX4_reduce_69 ln_Parser_89 mf_Tree_setChild rfl (l56 (by decide)) rfl rfl np_Tree_setChild rfl rfl ⟨(Nat.le_of_ble_eq_true rfl), (Nat.le_of_ble_eq_true rfl), (Nat.le_of_ble_eq_true rfl), (Nat.le_of_ble_eq_true rfl)⟩ (by decide) ?_
    refine sp_Tree_setChild_51 (k := k) sc1 hm (Nat.lt_trans hs1.2 hm) ⟨h1, by omega⟩ ?_
    refine ⟨_, rfl, ?_⟩
    refine ex_iincN (L' := [some (.ref (32)), some (.ref (51)), some (.int (nI (r))), some (.int (nI (lf))), some (.int (nI (ln))), some (.int (nI (md))), some (.int (nI (k + 1)))]) dX4_reduce_72 rfl rfl (by decide) rfl ?_
    refine ex_goto (tgt := 41) dX4_reduce_75 (by decide) ?_
    refine ih (k + 1) _ (by omega) (by omega) (((hf.U (by decide)).U (by decide)).U (by decide)) ?_
    simp only [xU_at]
    exact he
theorem lq_Parser_reduce_51 {r lf ln md hb G : Nat} {ss sn : Nat → Nat} {nd : Nat → Int32} {i0 : Nat → Nat → Int32} (sc : SC i) (p4 : 1 ≤ hb + ln ∧ hb + ln ≤ md + 1 ∧ md ≤ 150) (p5 : ∀ j, j < hb + ln → i0 38 j = nI (ss j) ∧ ss j < 50) (p6 : ∀ j, 1 ≤ j → j < hb + ln → i0 40 j = nI (sn j) ∧ sn j < md) (h1 : 1 ≤ hb) (hm : md < 150) (hl : ln ≤ 4) (hs2 : ss (hb - 1) < 50) (hlf : lf ≤ 13) (hG : i 24 (ss (hb - 1) * 14 + lf) = nI G) (hG2 : G < 50)
    (e7 : i 32 7 = nI hb) (e38 : i 38 = i0 38) (e40 : i 40 = i0 40) (eT : i 51 2 = nI (md + 1)) (eF : i 53 = nd)
    (hQ : ∀ i1, Fr [32, 38, 40] i i1 → i1 32 6 = i 32 6 → PS 51 53 i1 (hb + 1) (md + 1) (upN ss hb G) (upN sn hb md) nd → Q (.ok none) (56 + ζ, g, i1, q, RT t)) :
    Wx m_Parser_reduce 78 [some (.ref 32), some (.ref 51), some (.int (nI r)), some (.int (nI lf)), some (.int (nI ln)), some (.int (nI md)), none] [] (56 + ζ, g, i, q, RT t) (0, 0) Q := by
  have e38' : i 38 (hb - 1) = nI (ss (hb - 1)) := by rw [e38]; exact (p5 (hb - 1) (by omega)).1
  refine ex_aload_n (i := 0) dX4_reduce_78 rfl rfl ?_
  refine ex_aload_n (i := 0) dX4_reduce_79 rfl rfl ?_
  refine ex_getR (v := .ref (16)) dX4_reduce_80 fl_Parser_15 rfl rfl (l56 (by decide)) rfl ?_
  refine ex_aload_n (i := 0) dX4_reduce_83 rfl rfl ?_
  refine ex_cV (ν := m_Parser_topState) (a := 32) (ci := 4) (as := []) dX4_reduce_84 ln_Parser_60 mf_Parser_topState rfl (l56 (by decide)) rfl rfl np_Parser_topState rfl rfl ⟨(Nat.le_of_ble_eq_true rfl), (Nat.le_of_ble_eq_true rfl), (Nat.le_of_ble_eq_true rfl), (Nat.le_of_ble_eq_true rfl)⟩ (by decide) ?_
  refine sp_Parser_topState (h := hb) (by omega) e7 ?_
  refine ⟨_, rfl, ?_⟩
  refine ex_asN (a := ss (hb - 1)) e38' ?_
  refine ex_iload_n (i := 3) dX4_reduce_87 rfl rfl ?_
  -- target
  refine ex_cV (ν := m_States_target) (a := 16) (ci := 7) (as := [.int (nI (ss (hb - 1))), .int (nI (lf))]) dX4_reduce_88 ln_Parser_93 mf_States_target rfl (l56 (by decide)) rfl rfl np_States_target rfl rfl ⟨(Nat.le_of_ble_eq_true rfl), (Nat.le_of_ble_eq_true rfl), (Nat.le_of_ble_eq_true rfl), (Nat.le_of_ble_eq_true rfl)⟩ (by decide) ?_
  refine sp_States_target sc (by omega) (by omega) ?_
  refine ⟨_, rfl, ?_⟩
  refine ex_iload dX4_reduce_91 rfl ?_
  refine ex_cV (ν := m_Parser_push) (a := 32) (ci := 4) (as := [.int (i (24) ((ss (hb - 1)) * 14 + lf)), .int (nI (md))]) dX4_reduce_93 ln_Parser_53 mf_Parser_push rfl (l56 (by decide)) rfl rfl np_Parser_push rfl rfl ⟨(Nat.le_of_ble_eq_true rfl), (Nat.le_of_ble_eq_true rfl), (Nat.le_of_ble_eq_true rfl), (Nat.le_of_ble_eq_true rfl)⟩ (by decide) ?_
  refine sp_Parser_push (h := hb) (by omega) e7 ?_
  refine ⟨_, rfl, ?_⟩
  refine ex_ret dX4_reduce_96 rfl ?_
  refine hQ _ (((Fr.rf.U (by decide)).U (by decide)).U (by decide)) ?_ ⟨?_, ?_, ?_, by omega, ?_, ?_⟩
  · rw [xU_at]; simp [upd, xU]
  · rw [xU_at]; simp [upd]
  · rw [xU_ne _ _ _ (show (51 : Nat) ≠ 32 by decide), xU_ne _ _ _ (show (51 : Nat) ≠ 40 by decide), xU_ne _ _ _ (show (51 : Nat) ≠ 38 by decide)]; exact eT
  · rw [xU_ne _ _ _ (show (53 : Nat) ≠ 32 by decide), xU_ne _ _ _ (show (53 : Nat) ≠ 40 by decide), xU_ne _ _ _ (show (53 : Nat) ≠ 38 by decide)]; exact eF
  · intro j hj
    rw [xU_ne _ _ _ (show (38 : Nat) ≠ 32 by decide), xU_ne _ _ _ (show (38 : Nat) ≠ 40 by decide), xU_at]
    unfold upd upN
    by_cases e : j = hb
    · rw [if_pos e, if_pos e]; exact ⟨hG, hG2⟩
    · rw [if_neg e, if_neg e, e38]; exact p5 j (by omega)
  · intro j hj1 hj
    rw [xU_ne _ _ _ (show (40 : Nat) ≠ 32 by decide), xU_at, xU_ne _ _ _ (show (40 : Nat) ≠ 38 by decide)]
    unfold upd upN
    by_cases e : j = hb
    · rw [if_pos e, if_pos e]; exact ⟨rfl, by omega⟩
    · rw [if_neg e, if_neg e, e40]; exact ⟨(p6 j hj1 (by omega)).1, by have := (p6 j hj1 (by omega)).2; omega⟩
theorem sp_Parser_reduce_51 {r md hb G : Nat} {ss sn : Nat → Nat} {nd : Nat → Int32} (sc : SC i) (gs : GS i n sy) (hr : r < n) (hp : PS 51 53 i (hb + lnR sy r) md ss sn nd) (h1 : 1 ≤ hb) (hm : md < 150) (hG : i 24 (ss (hb - 1) * 14 + sy r 0) = nI G) (hG2 : G < 50)
    (hQ : ∀ i1, Fr [32, 38, 40, 51, 53] i i1 → i1 32 6 = i 32 6 → PS 51 53 i1 (hb + 1) (md + 1) (upN ss hb G) (upN sn hb md) (chN sn hb md (lnR sy r) 1 (rnN nd md (nI (sy r 0)) (nI r))) → Q (.ok none) (56 + ζ, g, i1, q, RT t)) :
    Wx m_Parser_reduce 0 [some (.ref 32), some (.ref 51), some (.int (nI r)), none, none, none, none] [] (56 + ζ, g, i, q, RT t) (0, 0) Q := by
  obtain ⟨p1, p2, p3, p4, p5, p6⟩ := hp
  have hl : lnR sy r ≤ 4 := lnS_le _
  have hn := gs.2.2.1
  have hlf := gs.2.2.le (r := r) (k := 0) (by omega) (by decide)
  have hs1 : i 38 (hb - 1) = nI (ss (hb - 1)) := (p5 (hb - 1) (by omega)).1
  have hs2 : ss (hb - 1) < 50 := (p5 (hb - 1) (by omega)).2
  refine ex_aload_n (i := 0) dX4_reduce_0 rfl rfl ?_
  refine ex_getR (v := .ref (1)) dX4_reduce_1 fl_Parser_9 rfl rfl (l56 (by decide)) rfl ?_
  refine ex_iload_n (i := 2) dX4_reduce_4 rfl rfl ?_
  refine ex_cV (ν := m_Grammar_leftOf) (a := 1) (ci := 1) (as := [.int (nI (r))]) dX4_reduce_5 ln_Parser_78 mf_Grammar_leftOf rfl (l56 (by decide)) rfl rfl np_Grammar_leftOf rfl rfl ⟨(Nat.le_of_ble_eq_true rfl), (Nat.le_of_ble_eq_true rfl), (Nat.le_of_ble_eq_true rfl), (Nat.le_of_ble_eq_true rfl)⟩ (by decide) ?_
  refine sp_Grammar_leftOf sc (by omega) ?_
  refine ⟨_, rfl, ?_⟩
  refine ex_asN (a := sy r 0) (gs.2.1 r 0 (by omega) (by decide)) ?_
  refine ex_istore_n (L' := [some (.ref (32)), some (.ref (51)), some (.int (nI (r))), some (.int (nI (sy r 0))), none, none, none]) dX4_reduce_8 (i := 3) rfl (by decide) rfl ?_
  refine ex_aload_n (i := 0) dX4_reduce_9 rfl rfl ?_
  refine ex_getR (v := .ref (1)) dX4_reduce_10 fl_Parser_9 rfl rfl (l56 (by decide)) rfl ?_
  refine ex_iload_n (i := 2) dX4_reduce_13 rfl rfl ?_
  refine ex_cV (ν := m_Grammar_lengthOf) (a := 1) (ci := 1) (as := [.int (nI (r))]) dX4_reduce_14 ln_Parser_83 mf_Grammar_lengthOf rfl (l56 (by decide)) rfl rfl np_Grammar_lengthOf rfl rfl ⟨(Nat.le_of_ble_eq_true rfl), (Nat.le_of_ble_eq_true rfl), (Nat.le_of_ble_eq_true rfl), (Nat.le_of_ble_eq_true rfl)⟩ (by decide) ?_
  refine sp_Grammar_lengthOf (f := sy r) sc (by omega) (fun k hk => gs.2.1 r k (by omega) hk) (fun k hk => Nat.lt_of_le_of_lt (gs.2.2.le (by omega) hk) (by decide)) ?_
  refine ⟨_, rfl, ?_⟩
  refine ex_istore (L' := [some (.ref (32)), some (.ref (51)), some (.int (nI (r))), some (.int (nI (sy r 0))), some (.int (nI (lnR sy r))), none, none]) dX4_reduce_17 (by decide) rfl ?_
  refine ex_aload_n (i := 1) dX4_reduce_19 rfl rfl ?_
  refine ex_iload_n (i := 3) dX4_reduce_20 rfl rfl ?_
  refine ex_iload_n (i := 2) dX4_reduce_21 rfl rfl ?_
  refine ex_cV (ν := m_Tree_addRuleNode) (a := 51) (ci := 8) (as := [.int (nI (sy r 0)), .int (nI (r))]) dX4_reduce_22 ln_Parser_86 mf_Tree_addRuleNode rfl (l56 (by decide)) rfl rfl np_Tree_addRuleNode rfl rfl ⟨(Nat.le_of_ble_eq_true rfl), (Nat.le_of_ble_eq_true rfl), (Nat.le_of_ble_eq_true rfl), (Nat.le_of_ble_eq_true rfl)⟩ (by decide) ?_
  refine sp_Tree_addRuleNode_51 sc hm p2 ?_
  refine ⟨_, rfl, ?_⟩
  refine ex_istore (L' := [some (.ref (32)), some (.ref (51)), some (.int (nI (r))), some (.int (nI (sy r 0))), some (.int (nI (lnR sy r))), some (.int (nI (md))), none]) dX4_reduce_25 (by decide) rfl ?_
  refine ex_aload_n (i := 0) dX4_reduce_27 rfl rfl ?_
  refine ex_dup dX4_reduce_28 rfl ?_
  refine ex_getI dX4_reduce_29 fl_Parser_41 rfl rfl (l56 (by decide)) ?_
  refine ex_asN (a := hb + lnR sy r) (by first | exact p1 | (simp [xU, upd]; exact p1)) ?_
  refine ex_iload dX4_reduce_32 rfl ?_
  refine ex_isubN dX4_reduce_34 (by omega) ?_
  refine ex_asN (a := hb) (by rw [show hb + lnR sy r - lnR sy r = hb by omega]) ?_
  refine ex_putI dX4_reduce_35 fl_Parser_41 cf_4 rfl (Or.inl rfl) rfl rfl rfl (l56 (by decide)) ?_
  refine ex_iconst (v := nI 1) dX4_reduce_38 (by decide) ?_
  refine ex_istore (L' := [some (.ref (32)), some (.ref (51)), some (.int (nI (r))), some (.int (nI (sy r 0))), some (.int (nI (lnR sy r))), some (.int (nI (md))), some (.int (nI (1)))]) dX4_reduce_39 (by decide) rfl ?_
  have hfr : Fr [32, 51, 53] i (xU (xU (xU (xU (xU (xU i 53 (md * 8 + 0) (nI (sy r 0))) 53 (md * 8 + 1) (nI r)) 53 (md * 8 + 2) (-1)) 53 (md * 8 + 3) (nI 0)) 51 2 (nI (md + 1))) 32 7 (nI hb)) := ((((((Fr.rf (i := i)).U (by decide)).U (by decide)).U (by decide)).U (by decide)).U (by decide)).U (by decide)
  refine lp_Parser_reduce_51 (sn := sn) (hb := hb) (SC_Fr (l := [32, 51, 53]) rfl hfr sc) (by omega) hl hm (by rw [xU_at]; simp [upd]) (fun j hj hj2 => by rw [hfr 40 (by decide)]; exact p6 j (by omega) (by omega)) (fun i1 hf1 he1 => ?_) (lnR sy r) 1 _ (by omega) (by decide) Fr.rf rfl
  have e24 : i1 24 = i 24 := by rw [hf1 24 (by decide)]; exact hfr 24 (by decide)
  have e38 : i1 38 = i 38 := by rw [hf1 38 (by decide)]; exact hfr 38 (by decide)
  have e40 : i1 40 = i 40 := by rw [hf1 40 (by decide)]; exact hfr 40 (by decide)
  have e7 : i1 32 7 = nI hb := by rw [hf1 32 (by decide), xU_at]; simp [upd]
  have e6 : i1 32 6 = i 32 6 := by rw [hf1 32 (by decide), xU_at]; simp [upd, xU]
  have sc2 : SC i1 := SC_Fr (l := [53]) rfl hf1 (SC_Fr (l := [32, 51, 53]) rfl hfr sc)
  have eT : i1 51 2 = nI (md + 1) := by rw [hf1 51 (by decide), xU_ne _ _ _ (show (51 : Nat) ≠ 32 by decide), xU_at]; simp [upd]
  have eF : i1 53 = chN sn hb md (lnR sy r) 1 (rnN nd md (nI (sy r 0)) (nI r)) := by
    rw [he1]
    simp only [xU_ne _ _ _ (show (53 : Nat) ≠ 32 by decide), xU_ne _ _ _ (show (53 : Nat) ≠ 51 by decide), xU_at, p3]
    rfl
  exact lq_Parser_reduce_51 sc2 p4 p5 p6 h1 hm hl hs2 hlf (by rw [e24]; exact hG) hG2 e7 e38 e40 eT eF (fun i2 hf2 h62 hp2 => hQ i2 ((hfr.mono (by decide)).tr ((hf1.mono (by decide)).tr (hf2.mono (by decide)))) (h62.trans e6) hp2)
end S37
