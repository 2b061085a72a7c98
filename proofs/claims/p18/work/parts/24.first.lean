/-! ===== FIRST: the least solution; Grammar.updateFirsts, addRule, wipe ===== -/
def sub (a b : Nat) : Prop := ∀ t, a.testBit t = true → b.testBit t = true
theorem sub_rf {a : Nat} : sub a a := fun _ h => h
theorem sub_tr {a b c : Nat} (h : sub a b) (h2 : sub b c) : sub a c := fun t ht => h2 t (h t ht)
theorem sub_0 {a : Nat} : sub 0 a := fun t ht => by rw [Nat.zero_testBit] at ht; cases ht
theorem sub_l {a b : Nat} : sub a (a ||| b) := fun t ht => by rw [Nat.testBit_or, ht]; rfl
theorem sub_r {a b : Nat} : sub b (a ||| b) := fun t ht => by rw [Nat.testBit_or, ht, Bool.or_true]
theorem sub_or {a b c : Nat} (h : sub a c) (h2 : sub b c) : sub (a ||| b) c := fun t ht => by
  rw [Nat.testBit_or, Bool.or_eq_true] at ht
  exact ht.elim (h t) (h2 t)
theorem or_of_sub {a b : Nat} (h : sub b a) : a ||| b = a := by
  apply Nat.eq_of_testBit_eq
  intro t
  rw [Nat.testBit_or]
  cases hb : b.testBit t
  · rw [Bool.or_false]
  · rw [h t hb]; rfl
theorem sub_of_or {a b : Nat} (h : a ||| b = a) : sub b a := fun t ht => by rw [← h, Nat.testBit_or, ht, Bool.or_true]
theorem sub_eq {a b : Nat} (h : sub a b) (h2 : sub b a) : a = b := by rw [← or_of_sub h2, Nat.or_comm, or_of_sub h]
theorem sub_le {a b : Nat} (h : sub a b) : a ≤ b := by rw [← or_of_sub h]; exact Nat.right_le_or
theorem tb_ev {a t : Nat} : (a / 2 * 2).testBit t = true ↔ t ≠ 0 ∧ a.testBit t = true := by
  cases t with
  | zero =>
    rw [Nat.testBit_zero]
    constructor
    · intro h; have := of_decide_eq_true h; omega
    · intro h; exact absurd rfl h.1
  | succ t =>
    rw [Nat.testBit_succ, Nat.testBit_succ, show a / 2 * 2 / 2 = a / 2 by omega]
    exact ⟨fun h => ⟨by omega, h⟩, fun h => h.2⟩
theorem tb0 {a : Nat} : a.testBit 0 = true ↔ a % 2 = 1 := by rw [Nat.testBit_zero]; exact ⟨fun h => of_decide_eq_true h, fun h => decide_eq_true h⟩
theorem sub_ev {a b : Nat} (h : sub a b) : sub (a / 2 * 2) (b / 2 * 2) := fun t ht => by
  rw [tb_ev] at ht ⊢
  exact ⟨ht.1, h t ht.2⟩
theorem sub_ev1 {a : Nat} : sub (a / 2 * 2) a := fun t ht => (tb_ev.mp ht).2
theorem ff_keep {f s : Nat → Nat} : ∀ {m k sum : Nat}, sub (sum / 2 * 2) (ffN f s k m sum)
  | 0, k, sum => sub_ev1
  | m + 1, k, sum => by
    show sub _ (if sum % 2 = 0 then sum else ffN f s (k + 1) m (if s k = 0 then sum else sum / 2 * 2 ||| fsT f (s k)))
    split
    · exact sub_ev1
    · by_cases hz : s k = 0
      · rw [if_pos hz]; exact ff_keep
      · rw [if_neg hz]
        refine sub_tr ?_ ff_keep
        intro t ht
        rw [tb_ev] at ht ⊢
        refine ⟨ht.1, ?_⟩
        rw [Nat.testBit_or, (tb_ev (a := sum)).mpr ht]; rfl
theorem fsT_mono {f G : Nat → Nat} {s : Nat} (h : sub (f s) (G s)) : sub (fsT f s) (fsT G s) := by
  unfold fsT; split
  · exact sub_rf
  · exact h
theorem ff_mono {f G s : Nat → Nat} (h : ∀ x, sub (f x) (G x)) : ∀ {m k a b : Nat}, sub a b → sub (ffN f s k m a) (ffN G s k m b)
  | 0, k, a, b, hs => hs
  | m + 1, k, a, b, hs => by
    show sub (if a % 2 = 0 then a else ffN f s (k + 1) m (if s k = 0 then a else a / 2 * 2 ||| fsT f (s k))) _
    split
    · rename_i h0
      have e : a = a / 2 * 2 := by omega
      rw [e]
      exact sub_tr (sub_ev hs) ff_keep
    · rename_i h0
      have hb : b % 2 = 1 := tb0.mp (hs 0 (tb0.mpr (by omega)))
      show sub _ (if b % 2 = 0 then b else ffN G s (k + 1) m (if s k = 0 then b else b / 2 * 2 ||| fsT G (s k)))
      have hb0 : ¬ b % 2 = 0 := by omega
      rw [if_neg hb0]
      by_cases hz : s k = 0
      · rw [if_pos hz, if_pos hz]; exact ff_mono h hs
      · rw [if_neg hz, if_neg hz]
        exact ff_mono h (sub_or (sub_tr (sub_ev hs) sub_l) (sub_tr (fsT_mono (h _)) sub_r))
theorem ff_lt {f s : Nat → Nat} (hf : ∀ x, f x < 128) : ∀ {m k a : Nat}, a < 128 → ffN f s k m a < 128
  | 0, k, a, h => h
  | m + 1, k, a, h => by
    show (if a % 2 = 0 then a else ffN f s (k + 1) m (if s k = 0 then a else a / 2 * 2 ||| fsT f (s k))) < 128
    split
    · exact h
    · by_cases hz : s k = 0
      · rw [if_pos hz]; exact ff_lt hf h
      · rw [if_neg hz]; exact ff_lt hf (or_lt (by omega) (fsT_lt hf))
/-- FIRST of a rule's right side -/
abbrev rhs (sy : Nat → Nat → Nat) (f : Nat → Nat) (r : Nat) : Nat := ffN f (sy r) 1 4 1
def clF (n : Nat) (sy : Nat → Nat → Nat) (f : Nat → Nat) : Prop := ∀ r, r < n → sub (rhs sy f r) (f (sy r 0))
def leF (n : Nat) (sy : Nat → Nat → Nat) (f : Nat → Nat) : Prop := ∀ G, clF n sy G → ∀ s, sub (f s) (G s)
/-- f is FIRST of nonterminals (terminals: 0), bit 0: the empty sequence -/
def isF (n : Nat) (sy : Nat → Nat → Nat) (f : Nat → Nat) : Prop := clF n sy f ∧ leF n sy f ∧ ∀ s, f s < 128
theorem leF_up {n : Nat} {sy : Nat → Nat → Nat} {f : Nat → Nat} (h : leF n sy f) {r : Nat} (hr : r < n) : leF n sy (upN f (sy r 0) (f (sy r 0) ||| rhs sy f r)) := by
  intro G hG s
  by_cases e : s = sy r 0
  · subst e
    rw [upN_at]
    exact sub_or (h G hG _) (sub_tr (ff_mono (h G hG) sub_rf) (hG r hr))
  · rw [upN_ne _ _ e]; exact h G hG s
theorem leF_more {n : Nat} {sy sy' : Nat → Nat → Nat} {f : Nat → Nat} (h : leF n sy f) (he : ∀ r k, r < n → sy' r k = sy r k) : leF (n + 1) sy' f := by
  intro G hG s
  refine h G (fun r hr => ?_) s
  have := hG r (by omega)
  have e : sy' r = sy r := funext fun k => he r k hr
  unfold rhs at this ⊢
  rw [e] at this
  exact this
section S24
variable {ζ g : Nat} {i : Nat → Nat → Int32} {q : Nat → Nat → Int64} {t : Bool} {Q : xRes → xMem → Prop} {n : Nat} {sy : Nat → Nat → Nat}
theorem lp_Grammar_updateFirsts_in {rd : Nat} {f1 : Nat → Nat} (sc : SC i) (gs : GS i n sy) (hrd : rd < 1000000)
    (hk : ∀ b i1 f, Fr [9] i i1 → Vw i1 9 14 f → leF n sy f → (∀ s, f s < 128) → (b = 0 ∧ f = f1 ∧ clF n sy f ∨ b = 1 ∧ sumN f1 14 < sumN f 14) → Wx m_Grammar_updateFirsts 4 [some (.ref 1), some (.int (nI b)), some (.int (nI (rd + 1))), none, none, none] [] (56 + ζ, g, i1, q, RT t) (0, 0) Q) :
    ∀ d r b i1 f, r + d = n → Fr [9] i i1 → Vw i1 9 14 f → leF n sy f → (∀ s, f s < 128) → (b = 0 ∧ f = f1 ∧ (∀ r', r' < r → sub (rhs sy f r') (f (sy r' 0))) ∨ b = 1 ∧ sumN f1 14 < sumN f 14) →
      Wx m_Grammar_updateFirsts 18 [some (.ref 1), some (.int (nI b)), some (.int (nI rd)), some (.int (nI r)), none, none] [] (56 + ζ, g, i1, q, RT t) (0, 0) Q := by
  have hn := gs.2.2.1
  intro d
  induction d with
  | zero =>
    intro r b i1 f hr hf hV hl hb hh
    have e : r = n := by omega
    subst e
    have gs1 := gs.fr hf (by decide) (by decide)
    refine ex_iload_n (i := 3) dX1_updateFirsts_18 rfl rfl ?_
    refine ex_aload_n (i := 0) dX1_updateFirsts_19 rfl rfl ?_
    refine ex_getI dX1_updateFirsts_20 fl_Grammar_44 rfl rfl (l56 (by decide)) ?_
    refine ex_asN (a := r) gs1.1 ?_
    refine ex_icmp_geN (tgt := 84) dX1_updateFirsts_23 (by decide) (by omega) (by omega) (fun h23 => ?_) (fun h23 => by omega)
    refine ex_iincN (L' := [some (.ref (1)), some (.int (nI (b))), some (.int (nI (rd + 1))), some (.int (nI (r))), none, none]) dX1_updateFirsts_84 rfl rfl (by decide) rfl ?_
    refine ex_goto (tgt := 4) dX1_updateFirsts_87 (by decide) ?_
    exact ex_less (L' := [some (.ref 1), some (.int (nI b)), some (.int (nI (rd + 1))), none, none, none]) (by simp [xSub]) (hk b i1 f hf hV hl hb hh)
  | succ d ih =>
    intro r b i1 f hr hf hV hl hb hh
    have gs1 := gs.fr hf (by decide) (by decide)
    have sc1 := SC_Fr (by decide) hf sc
    have hL := gs.2.2.2.2.1 r (by omega)
    have hfb := hb (sy r 0)
    have hrb : rhs sy f r < 128 := ff_lt hb (by decide)
    have hor : f (sy r 0) ||| rhs sy f r < 128 := or_lt hfb hrb
    have hv : i1 9 (sy r 0) = nI (f (sy r 0)) := hV _ (by omega)
    by_cases hsame : f (sy r 0) ||| rhs sy f r = f (sy r 0)
    · have hh2 : b = 0 ∧ f = f1 ∧ (∀ r', r' < r + 1 → sub (rhs sy f r') (f (sy r' 0))) ∨ b = 1 ∧ sumN f1 14 < sumN f 14 := by
        rcases hh with ⟨e1, e2, e3⟩ | h
        · refine Or.inl ⟨e1, e2, fun r' hr' => ?_⟩
          by_cases e : r' = r
          · subst e; exact sub_of_or hsame
          · exact e3 r' (by omega)
        · exact Or.inr h
      refine ex_iload_n (i := 3) dX1_updateFirsts_18 rfl rfl ?_
      refine ex_aload_n (i := 0) dX1_updateFirsts_19 rfl rfl ?_
      refine ex_getI dX1_updateFirsts_20 fl_Grammar_44 rfl rfl (l56 (by decide)) ?_
      refine ex_asN (a := n) gs1.1 ?_
      refine ex_icmp_geN (tgt := 84) dX1_updateFirsts_23 (by decide) (by omega) (by omega) (fun h23 => by omega) (fun h23 => ?_)
      refine ex_aload_n (i := 0) dX1_updateFirsts_26 rfl rfl ?_
      refine ex_iload_n (i := 3) dX1_updateFirsts_27 rfl rfl ?_
      refine ex_cV (ν := m_Grammar_leftOf) (a := 1) (ci := 1) (as := [.int (nI (r))]) dX1_updateFirsts_28 ln_Grammar_85 mf_Grammar_leftOf rfl (l56 (by decide)) rfl rfl np_Grammar_leftOf rfl rfl ⟨(Nat.le_of_ble_eq_true rfl), (Nat.le_of_ble_eq_true rfl), (Nat.le_of_ble_eq_true rfl), (Nat.le_of_ble_eq_true rfl)⟩ (by decide) ?_
      refine sp_Grammar_leftOf sc1 (by omega) ?_
      refine ⟨_, rfl, ?_⟩
      refine ex_asN (a := sy r 0) (gs1.2.1 r 0 (by omega) (by omega)) ?_
      refine ex_istore (L' := [some (.ref (1)), some (.int (nI (b))), some (.int (nI (rd))), some (.int (nI (r))), some (.int (nI (sy r 0))), none]) dX1_updateFirsts_31 (by decide) rfl ?_
      refine ex_aload_n (i := 0) dX1_updateFirsts_33 rfl rfl ?_
      refine ex_getR (v := .ref (8)) dX1_updateFirsts_34 fl_Grammar_32 rfl rfl (l56 (by decide)) rfl ?_
      refine ex_iload dX1_updateFirsts_37 rfl ?_
      refine ex_cV (ν := m_Row_get) (a := 8) (ci := 6) (as := [.int (nI (sy r 0))]) dX1_updateFirsts_39 ln_Grammar_66 mf_Row_get rfl (l56 (by decide)) rfl rfl np_Row_get rfl rfl ⟨(Nat.le_of_ble_eq_true rfl), (Nat.le_of_ble_eq_true rfl), (Nat.le_of_ble_eq_true rfl), (Nat.le_of_ble_eq_true rfl)⟩ (by decide) ?_
      refine sp_Row_get (r := 8) (c := 9) rfl rfl rfl (l56 (by decide)) (l56 (by decide)) (by omega) ?_
      refine ⟨_, rfl, ?_⟩
      refine ex_asN (a := f (sy r 0)) hv ?_
      refine ex_aload_n (i := 0) dX1_updateFirsts_42 rfl rfl ?_
      refine ex_iload_n (i := 3) dX1_updateFirsts_43 rfl rfl ?_
      refine ex_iconst (v := nI 1) dX1_updateFirsts_44 (by decide) ?_
      refine ex_cV (ν := m_Grammar_firstFrom) (a := 1) (ci := 1) (as := [.int (nI (r)), .int (nI (1))]) dX1_updateFirsts_45 ln_Grammar_88 mf_Grammar_firstFrom rfl (l56 (by decide)) rfl rfl np_Grammar_firstFrom rfl rfl ⟨(Nat.le_of_ble_eq_true rfl), (Nat.le_of_ble_eq_true rfl), (Nat.le_of_ble_eq_true rfl), (Nat.le_of_ble_eq_true rfl)⟩ (by decide) ?_
      refine sp_Grammar_firstFrom sc1 (by omega) ⟨by decide, by decide⟩ (fun s a b => hV s (by omega)) hb (gs1.2.1 r · (by omega)) (fun k a b => gs1.2.2.2.1 r k (by omega) a b) ?_
      refine ⟨_, rfl, ?_⟩
      refine ex_iorN dX1_updateFirsts_48 ?_
      refine ex_istore (L' := [some (.ref (1)), some (.int (nI (b))), some (.int (nI (rd))), some (.int (nI (r))), some (.int (nI (sy r 0))), some (.int (nI ((f (sy r 0)) ||| (rhs sy f r))))]) dX1_updateFirsts_49 (by decide) rfl ?_
      refine ex_iload dX1_updateFirsts_51 rfl ?_
      refine ex_aload_n (i := 0) dX1_updateFirsts_53 rfl rfl ?_
      refine ex_getR (v := .ref (8)) dX1_updateFirsts_54 fl_Grammar_32 rfl rfl (l56 (by decide)) rfl ?_
      refine ex_iload dX1_updateFirsts_57 rfl ?_
      refine ex_cV (ν := m_Row_get) (a := 8) (ci := 6) (as := [.int (nI (sy r 0))]) dX1_updateFirsts_59 ln_Grammar_66 mf_Row_get rfl (l56 (by decide)) rfl rfl np_Row_get rfl rfl ⟨(Nat.le_of_ble_eq_true rfl), (Nat.le_of_ble_eq_true rfl), (Nat.le_of_ble_eq_true rfl), (Nat.le_of_ble_eq_true rfl)⟩ (by decide) ?_
      refine sp_Row_get (r := 8) (c := 9) rfl rfl rfl (l56 (by decide)) (l56 (by decide)) (by omega) ?_
      refine ⟨_, rfl, ?_⟩
      refine ex_asN (a := f (sy r 0)) hv ?_
      refine ex_icmp_eqN (tgt := 78) dX1_updateFirsts_62 (by decide) (by omega) (by omega) (fun h62 => ?_) (fun h62 => by exact absurd hsame h62)
      refine ex_iincN (L' := [some (.ref (1)), some (.int (nI (b))), some (.int (nI (rd))), some (.int (nI (r + 1))), some (.int (nI (sy r 0))), some (.int (nI ((f (sy r 0)) ||| (rhs sy f r))))]) dX1_updateFirsts_78 rfl rfl (by decide) rfl ?_
      refine ex_goto (tgt := 18) dX1_updateFirsts_81 (by decide) ?_
      exact ex_less (L' := [some (.ref 1), some (.int (nI b)), some (.int (nI rd)), some (.int (nI (r + 1))), none, none]) (by simp [xSub]) (ih (r + 1) b i1 f (by omega) hf hV hl hb hh2)
    · have hV2 := hV.U (k := sy r 0) (v := f (sy r 0) ||| rhs sy f r)
      have hb2 : ∀ s, upN f (sy r 0) (f (sy r 0) ||| rhs sy f r) s < 128 := fun s => by
        unfold upN; split
        · exact hor
        · exact hb s
      have hsum := sumN_up (F := f) (k := sy r 0) (v := f (sy r 0) ||| rhs sy f r) (N := 14) (by omega)
      have hgt := or_gt hsame
      have hh2 : sumN f1 14 < sumN (upN f (sy r 0) (f (sy r 0) ||| rhs sy f r)) 14 := by
        rcases hh with ⟨e1, e2, e3⟩ | ⟨_, h⟩
        · rw [← e2]; omega
        · omega
      refine ex_iload_n (i := 3) dX1_updateFirsts_18 rfl rfl ?_
      refine ex_aload_n (i := 0) dX1_updateFirsts_19 rfl rfl ?_
      refine ex_getI dX1_updateFirsts_20 fl_Grammar_44 rfl rfl (l56 (by decide)) ?_
      refine ex_asN (a := n) gs1.1 ?_
      refine ex_icmp_geN (tgt := 84) dX1_updateFirsts_23 (by decide) (by omega) (by omega) (fun h23 => by omega) (fun h23 => ?_)
      refine ex_aload_n (i := 0) dX1_updateFirsts_26 rfl rfl ?_
      refine ex_iload_n (i := 3) dX1_updateFirsts_27 rfl rfl ?_
      refine ex_cV (ν := m_Grammar_leftOf) (a := 1) (ci := 1) (as := [.int (nI (r))]) dX1_updateFirsts_28 ln_Grammar_85 mf_Grammar_leftOf rfl (l56 (by decide)) rfl rfl np_Grammar_leftOf rfl rfl ⟨(Nat.le_of_ble_eq_true rfl), (Nat.le_of_ble_eq_true rfl), (Nat.le_of_ble_eq_true rfl), (Nat.le_of_ble_eq_true rfl)⟩ (by decide) ?_
      refine sp_Grammar_leftOf sc1 (by omega) ?_
      refine ⟨_, rfl, ?_⟩
      refine ex_asN (a := sy r 0) (gs1.2.1 r 0 (by omega) (by omega)) ?_
      refine ex_istore (L' := [some (.ref (1)), some (.int (nI (b))), some (.int (nI (rd))), some (.int (nI (r))), some (.int (nI (sy r 0))), none]) dX1_updateFirsts_31 (by decide) rfl ?_
      refine ex_aload_n (i := 0) dX1_updateFirsts_33 rfl rfl ?_
      refine ex_getR (v := .ref (8)) dX1_updateFirsts_34 fl_Grammar_32 rfl rfl (l56 (by decide)) rfl ?_
      refine ex_iload dX1_updateFirsts_37 rfl ?_
      refine ex_cV (ν := m_Row_get) (a := 8) (ci := 6) (as := [.int (nI (sy r 0))]) dX1_updateFirsts_39 ln_Grammar_66 mf_Row_get rfl (l56 (by decide)) rfl rfl np_Row_get rfl rfl ⟨(Nat.le_of_ble_eq_true rfl), (Nat.le_of_ble_eq_true rfl), (Nat.le_of_ble_eq_true rfl), (Nat.le_of_ble_eq_true rfl)⟩ (by decide) ?_
      refine sp_Row_get (r := 8) (c := 9) rfl rfl rfl (l56 (by decide)) (l56 (by decide)) (by omega) ?_
      refine ⟨_, rfl, ?_⟩
      refine ex_asN (a := f (sy r 0)) hv ?_
      refine ex_aload_n (i := 0) dX1_updateFirsts_42 rfl rfl ?_
      refine ex_iload_n (i := 3) dX1_updateFirsts_43 rfl rfl ?_
      refine ex_iconst (v := nI 1) dX1_updateFirsts_44 (by decide) ?_
      refine ex_cV (ν := m_Grammar_firstFrom) (a := 1) (ci := 1) (as := [.int (nI (r)), .int (nI (1))]) dX1_updateFirsts_45 ln_Grammar_88 mf_Grammar_firstFrom rfl (l56 (by decide)) rfl rfl np_Grammar_firstFrom rfl rfl ⟨(Nat.le_of_ble_eq_true rfl), (Nat.le_of_ble_eq_true rfl), (Nat.le_of_ble_eq_true rfl), (Nat.le_of_ble_eq_true rfl)⟩ (by decide) ?_
      refine sp_Grammar_firstFrom sc1 (by omega) ⟨by decide, by decide⟩ (fun s a b => hV s (by omega)) hb (gs1.2.1 r · (by omega)) (fun k a b => gs1.2.2.2.1 r k (by omega) a b) ?_
      refine ⟨_, rfl, ?_⟩
      refine ex_iorN dX1_updateFirsts_48 ?_
      refine ex_istore (L' := [some (.ref (1)), some (.int (nI (b))), some (.int (nI (rd))), some (.int (nI (r))), some (.int (nI (sy r 0))), some (.int (nI ((f (sy r 0)) ||| (rhs sy f r))))]) dX1_updateFirsts_49 (by decide) rfl ?_
      refine ex_iload dX1_updateFirsts_51 rfl ?_
      refine ex_aload_n (i := 0) dX1_updateFirsts_53 rfl rfl ?_
      refine ex_getR (v := .ref (8)) dX1_updateFirsts_54 fl_Grammar_32 rfl rfl (l56 (by decide)) rfl ?_
      refine ex_iload dX1_updateFirsts_57 rfl ?_
      refine ex_cV (ν := m_Row_get) (a := 8) (ci := 6) (as := [.int (nI (sy r 0))]) dX1_updateFirsts_59 ln_Grammar_66 mf_Row_get rfl (l56 (by decide)) rfl rfl np_Row_get rfl rfl ⟨(Nat.le_of_ble_eq_true rfl), (Nat.le_of_ble_eq_true rfl), (Nat.le_of_ble_eq_true rfl), (Nat.le_of_ble_eq_true rfl)⟩ (by decide) ?_
      refine sp_Row_get (r := 8) (c := 9) rfl rfl rfl (l56 (by decide)) (l56 (by decide)) (by omega) ?_
      refine ⟨_, rfl, ?_⟩
      refine ex_asN (a := f (sy r 0)) hv ?_
      refine ex_icmp_eqN (tgt := 78) dX1_updateFirsts_62 (by decide) (by omega) (by omega) (fun h62 => by exact absurd h62 hsame) (fun h62 => ?_)
      refine ex_aload_n (i := 0) dX1_updateFirsts_65 rfl rfl ?_
      refine ex_getR (v := .ref (8)) dX1_updateFirsts_66 fl_Grammar_32 rfl rfl (l56 (by decide)) rfl ?_
      refine ex_iload dX1_updateFirsts_69 rfl ?_
      refine ex_iload dX1_updateFirsts_71 rfl ?_
      refine ex_cV (ν := m_Row_set) (a := 8) (ci := 6) (as := [.int (nI (sy r 0)), .int (nI ((f (sy r 0)) ||| (rhs sy f r)))]) dX1_updateFirsts_73 ln_Grammar_69 mf_Row_set rfl (l56 (by decide)) rfl rfl np_Row_set rfl rfl ⟨(Nat.le_of_ble_eq_true rfl), (Nat.le_of_ble_eq_true rfl), (Nat.le_of_ble_eq_true rfl), (Nat.le_of_ble_eq_true rfl)⟩ (by decide) ?_
      refine sp_Row_set (r := 8) (c := 9) rfl rfl rfl (l56 (by decide)) (l56 (by decide)) (by omega) ?_
      refine ⟨_, rfl, ?_⟩
      refine ex_iconst (v := nI 1) dX1_updateFirsts_76 (by decide) ?_
      refine ex_istore_n (L' := [some (.ref (1)), some (.int (nI (1))), some (.int (nI (rd))), some (.int (nI (r))), some (.int (nI (sy r 0))), some (.int (nI ((f (sy r 0)) ||| (rhs sy f r))))]) dX1_updateFirsts_77 (i := 1) rfl (by decide) rfl ?_
      refine ex_iincN (L' := [some (.ref (1)), some (.int (nI (1))), some (.int (nI (rd))), some (.int (nI (r + 1))), some (.int (nI (sy r 0))), some (.int (nI ((f (sy r 0)) ||| (rhs sy f r))))]) dX1_updateFirsts_78 rfl rfl (by decide) rfl ?_
      refine ex_goto (tgt := 18) dX1_updateFirsts_81 (by decide) ?_
      exact ex_less (L' := [some (.ref 1), some (.int (nI 1)), some (.int (nI rd)), some (.int (nI (r + 1))), none, none]) (by simp [xSub]) (ih (r + 1) 1 _ _ (by omega) (hf.U (by decide)) hV2 (leF_up hl (by omega)) hb2 (Or.inr ⟨rfl, hh2⟩))
theorem sp_Grammar_updateFirsts {f0 : Nat → Nat} (sc : SC i) (gs : GS i n sy) (hV0 : Vw i 9 14 f0) (hl0 : leF n sy f0) (hb0 : ∀ s, f0 s < 128)
    (hQ : ∀ i1 f, Fr [9] i i1 → Vw i1 9 14 f → isF n sy f → Q (.ok none) (56 + ζ, g, i1, q, RT t)) : Wx m_Grammar_updateFirsts 0 [some (.ref 1), none, none, none, none, none] [] (56 + ζ, g, i, q, RT t) (0, 0) Q := by
  have loop : ∀ d rd b i1 f, rd + d = 1000000 → b < 2 → Fr [9] i i1 → Vw i1 9 14 f → leF n sy f → (∀ s, f s < 128) → (b = 0 → clF n sy f) → (b = 1 → rd ≤ sumN f 14) →
      Wx m_Grammar_updateFirsts 4 [some (.ref 1), some (.int (nI b)), some (.int (nI rd)), none, none, none] [] (56 + ζ, g, i1, q, RT t) (0, 0) Q := by
    intro d
    induction d with
    | zero =>
      intro rd b i1 f hrd hb2 hf hV hl hb h0 h1
      have hc : b = 0 := by
        by_cases e : b = 1
        · have h2 := h1 e
          have h3 := sumN_le (N := 14) (F := f) (B := 127) (fun j _ => by have := hb j; omega)
          omega
        · omega
      refine ex_iload_n (i := 2) dX1_updateFirsts_4 rfl rfl ?_
      refine ex_ldc (v := 1000000) dX1_updateFirsts_5 ld_Grammar_84 ?_
      refine ex_asN (a := 1000000) (by decide) ?_
      refine ex_icmp_geN (tgt := 90) dX1_updateFirsts_7 (by decide) (by omega) (by omega) (fun h7 => ?_) (fun h7 => by omega)
      refine ex_ret dX1_updateFirsts_90 rfl ?_
      exact hQ i1 f hf hV ⟨h0 hc, hl, hb⟩
    | succ d ih =>
      intro rd b i1 f hrd hb2 hf hV hl hb h0 h1
      by_cases hc : b = 0
      ·
        refine ex_iload_n (i := 2) dX1_updateFirsts_4 rfl rfl ?_
        refine ex_ldc (v := 1000000) dX1_updateFirsts_5 ld_Grammar_84 ?_
        refine ex_asN (a := 1000000) (by decide) ?_
        refine ex_icmp_geN (tgt := 90) dX1_updateFirsts_7 (by decide) (by omega) (by omega) (fun h7 => by omega) (fun h7 => ?_)
        refine ex_iload_n (i := 1) dX1_updateFirsts_10 rfl rfl ?_
        refine ex_if_eqN (tgt := 90) dX1_updateFirsts_11 (by decide) (by omega) (fun h11 => ?_) (fun h11 => by exact absurd hc h11)
        refine ex_ret dX1_updateFirsts_90 rfl ?_
        exact hQ i1 f hf hV ⟨h0 hc, hl, hb⟩
      · have gs1 := gs.fr hf (by decide) (by decide)
        have sc1 := SC_Fr (by decide) hf sc
        refine ex_iload_n (i := 2) dX1_updateFirsts_4 rfl rfl ?_
        refine ex_ldc (v := 1000000) dX1_updateFirsts_5 ld_Grammar_84 ?_
        refine ex_asN (a := 1000000) (by decide) ?_
        refine ex_icmp_geN (tgt := 90) dX1_updateFirsts_7 (by decide) (by omega) (by omega) (fun h7 => by omega) (fun h7 => ?_)
        refine ex_iload_n (i := 1) dX1_updateFirsts_10 rfl rfl ?_
        refine ex_if_eqN (tgt := 90) dX1_updateFirsts_11 (by decide) (by omega) (fun h11 => by exact absurd h11 hc) (fun h11 => ?_)
        refine ex_iconst (v := nI 0) dX1_updateFirsts_14 (by decide) ?_
        refine ex_istore_n (L' := [some (.ref (1)), some (.int (nI (0))), some (.int (nI (rd))), none, none, none]) dX1_updateFirsts_15 (i := 1) rfl (by decide) rfl ?_
        refine ex_iconst (v := nI 0) dX1_updateFirsts_16 (by decide) ?_
        refine ex_istore_n (L' := [some (.ref (1)), some (.int (nI (0))), some (.int (nI (rd))), some (.int (nI (0))), none, none]) dX1_updateFirsts_17 (i := 3) rfl (by decide) rfl ?_
        refine lp_Grammar_updateFirsts_in (f1 := f) sc1 gs1 (by omega) (fun b2 i2 f2 g1 g2 g3 g4 g5 => ?_) n 0 0 i1 f (by omega) Fr.rf hV hl hb (Or.inl ⟨rfl, rfl, fun r' hr' => by omega⟩)
        refine ih (rd + 1) b2 i2 f2 (by omega) ?_ (hf.tr g1) g2 g3 g4 ?_ ?_
        · rcases g5 with ⟨e, _⟩ | ⟨e, _⟩ <;> omega
        · intro e
          rcases g5 with ⟨_, _, h⟩ | ⟨e2, _⟩
          · exact h
          · omega
        · intro e
          rcases g5 with ⟨e2, _⟩ | ⟨_, h⟩
          · omega
          · have := h1 (by omega); omega
  refine ex_iconst (v := nI 1) dX1_updateFirsts_0 (by decide) ?_
  refine ex_istore_n (L' := [some (.ref (1)), some (.int (nI (1))), none, none, none, none]) dX1_updateFirsts_1 (i := 1) rfl (by decide) rfl ?_
  refine ex_iconst (v := nI 0) dX1_updateFirsts_2 (by decide) ?_
  refine ex_istore_n (L' := [some (.ref (1)), some (.int (nI (1))), some (.int (nI (0))), none, none, none]) dX1_updateFirsts_3 (i := 2) rfl (by decide) rfl ?_
  exact loop 1000000 0 1 i f0 (by omega) (by decide) Fr.rf hV0 hl0 hb0 (fun h => absurd h (by decide)) (fun _ => Nat.zero_le _)
end S24
