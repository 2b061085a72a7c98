/-! ===== sums; States: giving to a symbol's rules, closing a state ===== -/
def sumN (F : Nat → Nat) : Nat → Nat
  | 0 => 0
  | N + 1 => sumN F N + F N
theorem sumN_congr {F G : Nat → Nat} : ∀ {N : Nat}, (∀ j, j < N → F j = G j) → sumN F N = sumN G N
  | 0, _ => rfl
  | N + 1, h => by
    show sumN F N + F N = sumN G N + G N
    rw [sumN_congr (fun j hj => h j (by omega)), h N (by omega)]
theorem sumN_up {F : Nat → Nat} {k v : Nat} : ∀ {N : Nat}, k < N → sumN (upN F k v) N + F k = sumN F N + v
  | 0, h => by omega
  | N + 1, h => by
    show sumN (upN F k v) N + upN F k v N + F k = sumN F N + F N + v
    by_cases e : k = N
    · subst e
      rw [upN_at, sumN_congr (G := F) (fun j hj => upN_ne F v (by omega))]; omega
    · have := sumN_up (F := F) (k := k) (v := v) (N := N) (by omega)
      rw [upN_ne F v (fun q => e q.symm)]; omega
theorem sumN_mono {F G : Nat → Nat} : ∀ {N : Nat}, (∀ j, j < N → F j ≤ G j) → sumN F N ≤ sumN G N
  | 0, _ => Nat.le_refl _
  | N + 1, h => Nat.add_le_add (sumN_mono (fun j hj => h j (by omega))) (h N (by omega))
theorem sumN_lt {F G : Nat → Nat} {k : Nat} : ∀ {N : Nat}, (∀ j, j < N → F j ≤ G j) → k < N → F k < G k → sumN F N < sumN G N
  | 0, _, h, _ => by omega
  | N + 1, h, hk, hl => by
    show sumN F N + F N < sumN G N + G N
    by_cases e : k = N
    · subst e
      have := sumN_mono (N := k) (F := F) (G := G) (fun j hj => h j (by omega)); omega
    · have := sumN_lt (N := N) (fun j hj => h j (by omega)) (by omega) hl
      have := h N (by omega); omega
theorem sumN_le {F : Nat → Nat} {B : Nat} : ∀ {N : Nat}, (∀ j, j < N → F j ≤ B) → sumN F N ≤ N * B
  | 0, _ => Nat.zero_le _
  | N + 1, h => by
    show sumN F N + F N ≤ (N + 1) * B
    have h1 := sumN_le (N := N) (fun j hj => h j (by omega))
    have h2 := h N (by omega)
    rw [Nat.succ_mul]; omega
theorem or_ge {a b : Nat} : a ≤ a ||| b := Nat.left_le_or
theorem or_gt {a b : Nat} (h : ¬ a ||| b = a) : a < a ||| b := Nat.lt_of_le_of_ne or_ge (fun e => h e.symm)
/-- marks m given in state s to the first n rules of symbol x, dot at the beginning -/
def gv (n : Nat) (sy : Nat → Nat → Nat) (x s m : Nat) (F : Nat → Nat) : Nat → Nat := fun j => if s * 75 ≤ j ∧ j < s * 75 + n * 5 ∧ (j - s * 75) % 5 = 0 ∧ sy ((j - s * 75) / 5) 0 = x then F j ||| m else F j
theorem gv_0 (sy : Nat → Nat → Nat) (x s m : Nat) (F : Nat → Nat) : gv 0 sy x s m F = F := by funext j; unfold gv; rw [if_neg (by omega)]
theorem gv_skip {n : Nat} {sy : Nat → Nat → Nat} {x s m : Nat} {F : Nat → Nat} (h : sy n 0 ≠ x) : gv (n + 1) sy x s m F = gv n sy x s m F := by
  funext j
  unfold gv
  by_cases hj : s * 75 ≤ j ∧ j < s * 75 + (n + 1) * 5 ∧ (j - s * 75) % 5 = 0 ∧ sy ((j - s * 75) / 5) 0 = x
  · have hn : (j - s * 75) / 5 ≠ n := fun e => h (by rw [← e]; exact hj.2.2.2)
    rw [if_pos hj, if_pos ⟨hj.1, by omega, hj.2.2.1, hj.2.2.2⟩]
  · rw [if_neg hj, if_neg (fun q => hj ⟨q.1, by omega, q.2.2.1, q.2.2.2⟩)]
theorem gv_add {n : Nat} {sy : Nat → Nat → Nat} {x s m : Nat} {F : Nat → Nat} (h : sy n 0 = x) : gv (n + 1) sy x s m F = upN (gv n sy x s m F) (s * 75 + n * 5) (F (s * 75 + n * 5) ||| m) := by
  funext j
  by_cases e : j = s * 75 + n * 5
  · subst e
    have e2 : (s * 75 + n * 5 - s * 75) / 5 = n := by omega
    rw [upN_at]
    unfold gv
    rw [if_pos ⟨by omega, by omega, by omega, by rw [e2]; exact h⟩]
  · rw [upN_ne _ _ e]
    unfold gv
    by_cases hj : s * 75 ≤ j ∧ j < s * 75 + n * 5 ∧ (j - s * 75) % 5 = 0 ∧ sy ((j - s * 75) / 5) 0 = x
    · rw [if_pos hj, if_pos ⟨hj.1, by omega, hj.2.2.1, hj.2.2.2⟩]
    · rw [if_neg hj, if_neg (fun q => hj ⟨q.1, by omega, q.2.2.1, q.2.2.2⟩)]
theorem gv_at {n : Nat} {sy : Nat → Nat → Nat} {x s m : Nat} {F : Nat → Nat} : gv n sy x s m F (s * 75 + n * 5) = F (s * 75 + n * 5) := by unfold gv; rw [if_neg (by omega)]
theorem gv_ge {n : Nat} {sy : Nat → Nat → Nat} {x s m : Nat} {F : Nat → Nat} (j : Nat) : F j ≤ gv n sy x s m F j := by
  unfold gv; split <;> first | exact or_ge | exact Nat.le_refl _
theorem gv_lt {n : Nat} {sy : Nat → Nat → Nat} {x s m : Nat} {F : Nat → Nat} (hm : m < 256) {j : Nat} (h : F j < 256) : gv n sy x s m F j < 256 := by
  unfold gv; split <;> first | exact Nat.or_lt_two_pow (n := 8) h hm | exact h
/-- a flag that says whether F has grown to G -/
def grw (b : Nat) (F G : Nat → Nat) (N : Nat) : Prop := (b = 0 ∧ G = F) ∨ (b = 1 ∧ (∀ j, F j ≤ G j) ∧ sumN F N < sumN G N)
theorem grw.b {b : Nat} {F G : Nat → Nat} {N : Nat} (h : grw b F G N) : b < 2 := by rcases h with ⟨h, -⟩ | ⟨h, -⟩ <;> omega
theorem nI01 {b : Nat} (h : b < 2) : nI b = 0 ∨ nI b = 1 := by
  rcases (show b = 0 ∨ b = 1 by omega) with rfl | rfl
  · exact Or.inl rfl
  · exact Or.inr rfl
section S18
variable {ζ g : Nat} {i : Nat → Nat → Int32} {q : Nat → Nat → Int64} {t : Bool} {Q : xRes → xMem → Prop} {n : Nat} {sy : Nat → Nat → Nat}
theorem lp_States_giveToRulesOf {x s m : Nat} {F : Nat → Nat} (sc : SC i) (gs : GS i n sy) (hx : x < 14) (hs : s < 50) (hm : m < 256) (hF2 : ∀ j, j < 3750 → F j < 256) (hQ : ∀ b i', Fr [22] i i' → Vw i' 22 3750 (gv n sy x s m F) → grw b F (gv n sy x s m F) 3750 → Q (.ok (some (.int (nI b)))) (56 + ζ, g, i', q, RT t)) :
    ∀ d r b i1, r + d = n → Fr [22] i i1 → Vw i1 22 3750 (gv r sy x s m F) → grw b F (gv r sy x s m F) 3750 → Wx m_States_giveToRulesOf 6 [some (.ref 16), some (.int (nI x)), some (.int (nI s)), some (.int (nI m)), some (.int (nI b)), some (.int (nI r))] [] (56 + ζ, g, i1, q, RT t) (0, 0) Q := by
  have hn := gs.2.2.1
  intro d
  induction d with
  | zero =>
    intro r b i1 hr hf hV hg
    have gs1 := gs.fr hf (by decide) (by decide)
    have e : r = n := by omega
    subst e
    have hbb := nI01 hg.b
    refine ex_iload dX7_giveToRulesOf_6 rfl ?_
    refine ex_aload_n (i := 0) dX7_giveToRulesOf_8 rfl rfl ?_
    refine ex_getR (v := .ref (1)) dX7_giveToRulesOf_9 fl_States_9 rfl rfl (l56 (by decide)) rfl ?_
    refine ex_cV (ν := m_Grammar_size) (a := 1) (ci := 1) (as := []) dX7_giveToRulesOf_12 ln_States_103 mf_Grammar_size rfl (l56 (by decide)) rfl rfl np_Grammar_size rfl rfl ⟨(Nat.le_of_ble_eq_true rfl), (Nat.le_of_ble_eq_true rfl), (Nat.le_of_ble_eq_true rfl), (Nat.le_of_ble_eq_true rfl)⟩ (by decide) ?_
    refine sp_Grammar_size ?_
    refine ⟨_, rfl, ?_⟩
    refine ex_asN (a := r) gs1.1 ?_
    refine ex_icmp_geN (tgt := 53) dX7_giveToRulesOf_15 (by decide) (by omega) (by omega) (fun h15 => ?_) (fun h15 => by omega)
    refine ex_iload dX7_giveToRulesOf_53 rfl ?_
    refine ex_iret dX7_giveToRulesOf_55 rfl (xb_n (by assumption)) ?_
    exact hQ b i1 hf hV hg
  | succ d ih =>
    intro r b i1 hr hf hV hg
    have gs1 := gs.fr hf (by decide) (by decide)
    have sc1 := SC_Fr (by decide) hf sc
    have hl := gs.2.2.le (r := r) (k := 0) (by omega) (by omega)
    by_cases hx0 : sy r 0 = x
    · have ha : i1 22 (s * 75 + r * 5) = nI (F (s * 75 + r * 5)) := by rw [hV _ (by omega), gv_at]
      have ha2 := hF2 (s * 75 + r * 5) (by omega)
      have hV2 : Vw (xU i1 22 (s * 75 + r * 5) (nI (F (s * 75 + r * 5) ||| m))) 22 3750 (gv (r + 1) sy x s m F) := by rw [gv_add hx0]; exact hV.U
      have hf2 : Fr [22] i (xU i1 22 (s * 75 + r * 5) (nI (F (s * 75 + r * 5) ||| m))) := hf.U (by decide)
      have hsum := sumN_up (F := gv r sy x s m F) (k := s * 75 + r * 5) (v := F (s * 75 + r * 5) ||| m) (N := 3750) (by omega)
      rw [gv_at, ← gv_add hx0] at hsum
      by_cases hsame : F (s * 75 + r * 5) ||| m = F (s * 75 + r * 5)
      · have hg2 : grw b F (gv (r + 1) sy x s m F) 3750 := by
          have e : gv (r + 1) sy x s m F = gv r sy x s m F := by
            rw [gv_add hx0, hsame]; funext j; unfold upN; split
            · rename_i h; rw [h, gv_at]
            · rfl
          rw [e]; exact hg
        refine ex_iload dX7_giveToRulesOf_6 rfl ?_
        refine ex_aload_n (i := 0) dX7_giveToRulesOf_8 rfl rfl ?_
        refine ex_getR (v := .ref (1)) dX7_giveToRulesOf_9 fl_States_9 rfl rfl (l56 (by decide)) rfl ?_
        refine ex_cV (ν := m_Grammar_size) (a := 1) (ci := 1) (as := []) dX7_giveToRulesOf_12 ln_States_103 mf_Grammar_size rfl (l56 (by decide)) rfl rfl np_Grammar_size rfl rfl ⟨(Nat.le_of_ble_eq_true rfl), (Nat.le_of_ble_eq_true rfl), (Nat.le_of_ble_eq_true rfl), (Nat.le_of_ble_eq_true rfl)⟩ (by decide) ?_
        refine sp_Grammar_size ?_
        refine ⟨_, rfl, ?_⟩
        refine ex_asN (a := n) gs1.1 ?_
        refine ex_icmp_geN (tgt := 53) dX7_giveToRulesOf_15 (by decide) (by omega) (by omega) (fun h15 => by omega) (fun h15 => ?_)
        refine ex_aload_n (i := 0) dX7_giveToRulesOf_18 rfl rfl ?_
        refine ex_getR (v := .ref (1)) dX7_giveToRulesOf_19 fl_States_9 rfl rfl (l56 (by decide)) rfl ?_
        refine ex_iload dX7_giveToRulesOf_22 rfl ?_
        refine ex_cV (ν := m_Grammar_leftOf) (a := 1) (ci := 1) (as := [.int (nI (r))]) dX7_giveToRulesOf_24 ln_States_106 mf_Grammar_leftOf rfl (l56 (by decide)) rfl rfl np_Grammar_leftOf rfl rfl ⟨(Nat.le_of_ble_eq_true rfl), (Nat.le_of_ble_eq_true rfl), (Nat.le_of_ble_eq_true rfl), (Nat.le_of_ble_eq_true rfl)⟩ (by decide) ?_
        refine sp_Grammar_leftOf sc1 (by omega) ?_
        refine ⟨_, rfl, ?_⟩
        refine ex_asN (a := sy r 0) (gs1.2.1 r 0 (by omega) (by omega)) ?_
        refine ex_iload_n (i := 1) dX7_giveToRulesOf_27 rfl rfl ?_
        refine ex_icmp_neN (tgt := 47) dX7_giveToRulesOf_28 (by decide) (by omega) (by omega) (fun h28 => by exact absurd hx0 h28) (fun h28 => ?_)
        refine ex_aload_n (i := 0) dX7_giveToRulesOf_31 rfl rfl ?_
        refine ex_iload_n (i := 2) dX7_giveToRulesOf_32 rfl rfl ?_
        refine ex_iload dX7_giveToRulesOf_33 rfl ?_
        refine ex_iconst (v := nI 5) dX7_giveToRulesOf_35 (by decide) ?_
        refine ex_imulN dX7_giveToRulesOf_36 ?_
        refine ex_iload_n (i := 3) dX7_giveToRulesOf_37 rfl rfl ?_
        refine ex_cV (ν := m_States_give) (a := 16) (ci := 7) (as := [.int (nI (s)), .int (nI (r * 5)), .int (nI (m))]) dX7_giveToRulesOf_38 ln_States_109 mf_States_give rfl (l56 (by decide)) rfl rfl np_States_give rfl rfl ⟨(Nat.le_of_ble_eq_true rfl), (Nat.le_of_ble_eq_true rfl), (Nat.le_of_ble_eq_true rfl), (Nat.le_of_ble_eq_true rfl)⟩ (by decide) ?_
        refine sp_States_give sc1 hs (by omega) ha ha2 hm ?_
        refine ⟨_, rfl, ?_⟩
        refine ex_asN (a := 0) (by rw [if_pos hsame]) ?_
        refine ex_if_eqN (tgt := 47) dX7_giveToRulesOf_41 (by decide) (by omega) (fun h41 => ?_) (fun h41 => by exact absurd h41 (by decide))
        refine ex_iincN (L' := [some (.ref (16)), some (.int (nI (x))), some (.int (nI (s))), some (.int (nI (m))), some (.int (nI (b))), some (.int (nI (r + 1)))]) dX7_giveToRulesOf_47 rfl rfl (by decide) rfl ?_
        refine ex_goto (tgt := 6) dX7_giveToRulesOf_50 (by decide) ?_
        exact ih (r + 1) b _ (by omega) hf2 hV2 hg2
      · have hgt := or_gt hsame
        have hg2 : grw 1 F (gv (r + 1) sy x s m F) 3750 := Or.inr ⟨rfl, fun j => gv_ge j, by
          have := sumN_mono (F := F) (G := gv r sy x s m F) (N := 3750) (fun j _ => gv_ge j)
          omega⟩
        refine ex_iload dX7_giveToRulesOf_6 rfl ?_
        refine ex_aload_n (i := 0) dX7_giveToRulesOf_8 rfl rfl ?_
        refine ex_getR (v := .ref (1)) dX7_giveToRulesOf_9 fl_States_9 rfl rfl (l56 (by decide)) rfl ?_
        refine ex_cV (ν := m_Grammar_size) (a := 1) (ci := 1) (as := []) dX7_giveToRulesOf_12 ln_States_103 mf_Grammar_size rfl (l56 (by decide)) rfl rfl np_Grammar_size rfl rfl ⟨(Nat.le_of_ble_eq_true rfl), (Nat.le_of_ble_eq_true rfl), (Nat.le_of_ble_eq_true rfl), (Nat.le_of_ble_eq_true rfl)⟩ (by decide) ?_
        refine sp_Grammar_size ?_
        refine ⟨_, rfl, ?_⟩
        refine ex_asN (a := n) gs1.1 ?_
        refine ex_icmp_geN (tgt := 53) dX7_giveToRulesOf_15 (by decide) (by omega) (by omega) (fun h15 => by omega) (fun h15 => ?_)
        refine ex_aload_n (i := 0) dX7_giveToRulesOf_18 rfl rfl ?_
        refine ex_getR (v := .ref (1)) dX7_giveToRulesOf_19 fl_States_9 rfl rfl (l56 (by decide)) rfl ?_
        refine ex_iload dX7_giveToRulesOf_22 rfl ?_
        refine ex_cV (ν := m_Grammar_leftOf) (a := 1) (ci := 1) (as := [.int (nI (r))]) dX7_giveToRulesOf_24 ln_States_106 mf_Grammar_leftOf rfl (l56 (by decide)) rfl rfl np_Grammar_leftOf rfl rfl ⟨(Nat.le_of_ble_eq_true rfl), (Nat.le_of_ble_eq_true rfl), (Nat.le_of_ble_eq_true rfl), (Nat.le_of_ble_eq_true rfl)⟩ (by decide) ?_
        refine sp_Grammar_leftOf sc1 (by omega) ?_
        refine ⟨_, rfl, ?_⟩
        refine ex_asN (a := sy r 0) (gs1.2.1 r 0 (by omega) (by omega)) ?_
        refine ex_iload_n (i := 1) dX7_giveToRulesOf_27 rfl rfl ?_
        refine ex_icmp_neN (tgt := 47) dX7_giveToRulesOf_28 (by decide) (by omega) (by omega) (fun h28 => by exact absurd hx0 h28) (fun h28 => ?_)
        refine ex_aload_n (i := 0) dX7_giveToRulesOf_31 rfl rfl ?_
        refine ex_iload_n (i := 2) dX7_giveToRulesOf_32 rfl rfl ?_
        refine ex_iload dX7_giveToRulesOf_33 rfl ?_
        refine ex_iconst (v := nI 5) dX7_giveToRulesOf_35 (by decide) ?_
        refine ex_imulN dX7_giveToRulesOf_36 ?_
        refine ex_iload_n (i := 3) dX7_giveToRulesOf_37 rfl rfl ?_
        refine ex_cV (ν := m_States_give) (a := 16) (ci := 7) (as := [.int (nI (s)), .int (nI (r * 5)), .int (nI (m))]) dX7_giveToRulesOf_38 ln_States_109 mf_States_give rfl (l56 (by decide)) rfl rfl np_States_give rfl rfl ⟨(Nat.le_of_ble_eq_true rfl), (Nat.le_of_ble_eq_true rfl), (Nat.le_of_ble_eq_true rfl), (Nat.le_of_ble_eq_true rfl)⟩ (by decide) ?_
        refine sp_States_give sc1 hs (by omega) ha ha2 hm ?_
        refine ⟨_, rfl, ?_⟩
        refine ex_asN (a := 1) (by rw [if_neg hsame]) ?_
        refine ex_if_eqN (tgt := 47) dX7_giveToRulesOf_41 (by decide) (by omega) (fun h41 => by exact absurd h41 (by decide)) (fun h41 => ?_)
        refine ex_iconst (v := nI 1) dX7_giveToRulesOf_44 (by decide) ?_
        refine ex_istore (L' := [some (.ref (16)), some (.int (nI (x))), some (.int (nI (s))), some (.int (nI (m))), some (.int (nI (1))), some (.int (nI (r)))]) dX7_giveToRulesOf_45 (by decide) rfl ?_
        refine ex_iincN (L' := [some (.ref (16)), some (.int (nI (x))), some (.int (nI (s))), some (.int (nI (m))), some (.int (nI (1))), some (.int (nI (r + 1)))]) dX7_giveToRulesOf_47 rfl rfl (by decide) rfl ?_
        refine ex_goto (tgt := 6) dX7_giveToRulesOf_50 (by decide) ?_
        exact ih (r + 1) 1 _ (by omega) hf2 hV2 hg2
    · rw [← gv_skip hx0] at hV hg
      refine ex_iload dX7_giveToRulesOf_6 rfl ?_
      refine ex_aload_n (i := 0) dX7_giveToRulesOf_8 rfl rfl ?_
      refine ex_getR (v := .ref (1)) dX7_giveToRulesOf_9 fl_States_9 rfl rfl (l56 (by decide)) rfl ?_
      refine ex_cV (ν := m_Grammar_size) (a := 1) (ci := 1) (as := []) dX7_giveToRulesOf_12 ln_States_103 mf_Grammar_size rfl (l56 (by decide)) rfl rfl np_Grammar_size rfl rfl ⟨(Nat.le_of_ble_eq_true rfl), (Nat.le_of_ble_eq_true rfl), (Nat.le_of_ble_eq_true rfl), (Nat.le_of_ble_eq_true rfl)⟩ (by decide) ?_
      refine sp_Grammar_size ?_
      refine ⟨_, rfl, ?_⟩
      refine ex_asN (a := n) gs1.1 ?_
      refine ex_icmp_geN (tgt := 53) dX7_giveToRulesOf_15 (by decide) (by omega) (by omega) (fun h15 => by omega) (fun h15 => ?_)
      refine ex_aload_n (i := 0) dX7_giveToRulesOf_18 rfl rfl ?_
      refine ex_getR (v := .ref (1)) dX7_giveToRulesOf_19 fl_States_9 rfl rfl (l56 (by decide)) rfl ?_
      refine ex_iload dX7_giveToRulesOf_22 rfl ?_
      refine ex_cV (ν := m_Grammar_leftOf) (a := 1) (ci := 1) (as := [.int (nI (r))]) dX7_giveToRulesOf_24 ln_States_106 mf_Grammar_leftOf rfl (l56 (by decide)) rfl rfl np_Grammar_leftOf rfl rfl ⟨(Nat.le_of_ble_eq_true rfl), (Nat.le_of_ble_eq_true rfl), (Nat.le_of_ble_eq_true rfl), (Nat.le_of_ble_eq_true rfl)⟩ (by decide) ?_
      refine sp_Grammar_leftOf sc1 (by omega) ?_
      refine ⟨_, rfl, ?_⟩
      refine ex_asN (a := sy r 0) (gs1.2.1 r 0 (by omega) (by omega)) ?_
      refine ex_iload_n (i := 1) dX7_giveToRulesOf_27 rfl rfl ?_
      refine ex_icmp_neN (tgt := 47) dX7_giveToRulesOf_28 (by decide) (by omega) (by omega) (fun h28 => ?_) (fun h28 => by exact absurd h28 hx0)
      refine ex_iincN (L' := [some (.ref (16)), some (.int (nI (x))), some (.int (nI (s))), some (.int (nI (m))), some (.int (nI (b))), some (.int (nI (r + 1)))]) dX7_giveToRulesOf_47 rfl rfl (by decide) rfl ?_
      refine ex_goto (tgt := 6) dX7_giveToRulesOf_50 (by decide) ?_
      exact ih (r + 1) b _ (by omega) hf hV hg
theorem sp_States_giveToRulesOf {x s m : Nat} {F : Nat → Nat} (sc : SC i) (gs : GS i n sy) (hx : x < 14) (hs : s < 50) (hm : m < 256) (hF : Vw i 22 3750 F) (hF2 : ∀ j, j < 3750 → F j < 256) (hQ : ∀ b i', Fr [22] i i' → Vw i' 22 3750 (gv n sy x s m F) → grw b F (gv n sy x s m F) 3750 → Q (.ok (some (.int (nI b)))) (56 + ζ, g, i', q, RT t)) : Wx m_States_giveToRulesOf 0 [some (.ref 16), some (.int (nI x)), some (.int (nI s)), some (.int (nI m)), none, none] [] (56 + ζ, g, i, q, RT t) (0, 0) Q := by
  refine ex_iconst (v := nI 0) dX7_giveToRulesOf_0 (by decide) ?_
  refine ex_istore (L' := [some (.ref (16)), some (.int (nI (x))), some (.int (nI (s))), some (.int (nI (m))), some (.int (nI (0))), none]) dX7_giveToRulesOf_1 (by decide) rfl ?_
  refine ex_iconst (v := nI 0) dX7_giveToRulesOf_3 (by decide) ?_
  refine ex_istore (L' := [some (.ref (16)), some (.int (nI (x))), some (.int (nI (s))), some (.int (nI (m))), some (.int (nI (0))), some (.int (nI (0)))]) dX7_giveToRulesOf_4 (by decide) rfl ?_
  exact lp_States_giveToRulesOf sc gs hx hs hm hF2 hQ n 0 0 i (by omega) Fr.rf (by rw [gv_0]; exact hF) (Or.inl ⟨rfl, gv_0 _ _ _ _ _⟩)
end S18
