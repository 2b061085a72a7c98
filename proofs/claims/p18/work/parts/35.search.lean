/-! ===== Rings.search: the least trees, and whether a ring was met ===== -/
theorem hgB_mono {sy : Nat → Nat → Nat} {op xp yp a b : Nat → Nat} (h : ∀ s, sub (a s) (b s)) {r k p : Nat} : sub (hgB sy op xp yp a r k p) (hgB sy op xp yp b r k p) := by
  unfold hgB
  split
  · split
    · rename_i h1 h2
      rw [if_pos (h _ _ h2)]; exact sub_rf
    · exact sub_0
  · exact sub_rf
theorem psN_mono {t : Nat} {H G : Nat → Nat} (h : ∀ p, sub (H p) (G p)) (p : Nat) : sub (psN t H p) (psN t G p) := by
  unfold psN
  split
  · rename_i h1
    rw [if_pos (h _ _ h1)]
    exact sub_or (sub_tr (h p) sub_l) (sub_tr (h t) sub_r)
  · split
    · exact sub_tr (h p) sub_l
    · exact h p
theorem wsN_mono {H G : Nat → Nat} (h : ∀ p, sub (H p) (G p)) : ∀ (k p : Nat), sub (wsN H k p) (wsN G k p)
  | 0, p => h p
  | k + 1, p => psN_mono (wsN_mono h k) p
theorem hgR_mono {sy : Nat → Nat → Nat} {op xp yp a b : Nat → Nat} (h : ∀ s, sub (a s) (b s)) {r p : Nat} : sub (hgR sy op xp yp a r p) (hgR sy op xp yp b r p) := wsN_mono (fun _ => hgB_mono h) 15 p
theorem mkT_mono {sy : Nat → Nat → Nat} {a b : Nat → Nat} (h : ∀ s, sub (a s) (b s)) {r : Nat} (hm : mkT sy a r) : mkT sy b r := fun k h1 h2 => sub_nz (h _) (hm k h1 h2)
theorem slf_mono {V W : Nat → Nat} (h : ∀ p, sub (V p) (W p)) (hs : slf V) : slf W := by
  obtain ⟨p, h1, h2⟩ := hs
  exact ⟨p, h1, h p p h2⟩
theorem nvT_mono {x y : Nat} {V W : Nat → Nat} (hx : sub x y) (h : ∀ p, sub (V p) (W p)) : sub (nvT x V) (nvT y W) := by
  unfold nvT
  refine sub_or (sub_or (sub_or (sub_tr hx (sub_tr sub_l (sub_tr sub_l sub_l))) (sub_tr sub_r (sub_tr sub_l sub_l))) ?_) ?_
  · split
    · rename_i h1
      rw [if_pos (h 0 2 h1)]
      exact sub_tr sub_r sub_l
    · exact sub_0
  · split
    · rename_i h1
      rw [if_pos (h 1 2 h1)]
      exact sub_r
    · exact sub_0
/-- closed under the rules -/
def clT (n : Nat) (sy : Nat → Nat → Nat) (op xp yp tr : Nat → Nat) : Prop := (∀ s, 1 ≤ s → s ≤ 6 → sub 4 (tr s)) ∧ ∀ r, r < n → mkT sy tr r → sub (nvT (tr (sy r 0)) (hgR sy op xp yp tr r)) (tr (sy r 0))
def leT (n : Nat) (sy : Nat → Nat → Nat) (op xp yp tr : Nat → Nat) : Prop := ∀ G, clT n sy op xp yp G → ∀ s, sub (tr s) (G s)
def slA (n : Nat) (sy : Nat → Nat → Nat) (op xp yp tr : Nat → Nat) : Prop := ∃ r, r < n ∧ mkT sy tr r ∧ slf (hgR sy op xp yp tr r)
theorem leT_up {n : Nat} {sy : Nat → Nat → Nat} {op xp yp tr : Nat → Nat} (h : leT n sy op xp yp tr) {r : Nat} (hr : r < n) (hm : mkT sy tr r) : leT n sy op xp yp (upN tr (sy r 0) (nvT (tr (sy r 0)) (hgR sy op xp yp tr r))) := by
  intro G hG s
  have hs := h G hG
  by_cases e : s = sy r 0
  · subst e
    rw [upN_at]
    exact sub_tr (nvT_mono (hs _) (fun p => hgR_mono hs)) (hG.2 r hr (mkT_mono hs hm))
  · rw [upN_ne _ _ e]; exact hs s
section S35
variable {ζ g : Nat} {i : Nat → Nat → Int32} {q : Nat → Nat → Int64} {t : Bool} {Q : xRes → xMem → Prop} {n : Nat} {sy : Nat → Nat → Nat} {op xp yp : Nat → Nat}
def rgI (n : Nat) (sy : Nat → Nat → Nat) (op xp yp : Nat → Nat) (i i1 : Nat → Nat → Int32) (tr : Nat → Nat) (f : Nat) : Prop := Fr [27, 29, 31] i i1 ∧ i1 27 3 = nI f ∧ f < 2 ∧ Vw i1 29 14 tr ∧ (∀ s, tr s < 8) ∧ leT n sy op xp yp tr ∧ (f = 1 → slA n sy op xp yp tr) ∧ ∀ s, 1 ≤ s → s ≤ 6 → tr s = 4
theorem lp_Rings_search_in {rd : Nat} {tr1 : Nat → Nat} (sc : SC i) (gs : GS i n sy) (es : ES i op xp yp)
    (hk : ∀ b f tr i1, rgI n sy op xp yp i i1 tr f → (b = 0 ∧ tr = tr1 ∧ ∀ r, r < n → mkT sy tr r → nvT (tr (sy r 0)) (hgR sy op xp yp tr r) = tr (sy r 0) ∧ (slf (hgR sy op xp yp tr r) → f = 1)) ∨ (b = 1 ∧ sumN tr1 14 < sumN tr 14) → Wx m_Rings_search 88 [some (.ref 27), some (.int (nI b)), some (.int (nI rd)), none] [] (56 + ζ, g, i1, q, RT t) (0, 0) Q) :
    ∀ d r b f tr i1, r + d = n → rgI n sy op xp yp i i1 tr f → (b = 0 ∧ tr = tr1 ∧ ∀ r', r' < r → mkT sy tr r' → nvT (tr (sy r' 0)) (hgR sy op xp yp tr r') = tr (sy r' 0) ∧ (slf (hgR sy op xp yp tr r') → f = 1)) ∨ (b = 1 ∧ sumN tr1 14 < sumN tr 14) →
      Wx m_Rings_search 53 [some (.ref 27), some (.int (nI b)), some (.int (nI rd)), some (.int (nI r))] [] (56 + ζ, g, i1, q, RT t) (0, 0) Q := by
  have hn := gs.2.2.1
  intro d
  induction d with
  | zero =>
    intro r b f tr i1 hr hI hB
    have e : r = n := by omega
    subst e
    have gs1 := gs.fr hI.1 (by decide) (by decide)
    refine ex_iload_n (i := 3) dX5_search_53 rfl rfl ?_
    refine ex_aload_n (i := 0) dX5_search_54 rfl rfl ?_
    refine ex_getR (v := .ref (1)) dX5_search_55 fl_Rings_9 rfl rfl (l56 (by decide)) rfl ?_
    refine ex_cV (ν := m_Grammar_size) (a := 1) (ci := 1) (as := []) dX5_search_58 ln_Rings_39 mf_Grammar_size rfl (l56 (by decide)) rfl rfl np_Grammar_size rfl rfl ⟨(Nat.le_of_ble_eq_true rfl), (Nat.le_of_ble_eq_true rfl), (Nat.le_of_ble_eq_true rfl), (Nat.le_of_ble_eq_true rfl)⟩ (by decide) ?_
    refine sp_Grammar_size ?_
    refine ⟨_, rfl, ?_⟩
    refine ex_asN (a := r) gs1.1 ?_
    refine ex_icmp_geN (tgt := 88) dX5_search_61 (by decide) (by omega) (by omega) (fun h61 => ?_) (fun h61 => by omega)
    exact ex_less (L' := [some (.ref 27), some (.int (nI b)), some (.int (nI rd)), none]) (by simp [xSub]) (hk b f tr i1 hI hB)
  | succ d ih =>
    intro r b f tr i1 hr hI hB
    have hI' := hI
    obtain ⟨hf, h3, hf2, hV, hb8, hle, hfs, hter⟩ := hI'
    have sc1 := SC_Fr (by decide) hf sc
    have gs1 := gs.fr hf (by decide) (by decide)
    have es1 := es.fr hf (by decide) (by decide) (by decide)
    have hL := gs.2.2.2.2.1 r (by omega)
    by_cases hm : mkT sy tr r
    · have key : ∀ f' i2, Fr [27, 29, 31] i1 i2 → i2 27 3 = nI f' → f' < 2 → (f' = 1 ↔ f = 1 ∨ slf (hgR sy op xp yp tr r)) → Vw i2 29 14 (upN tr (sy r 0) (nvT (tr (sy r 0)) (hgR sy op xp yp tr r))) → rgI n sy op xp yp i i2 (upN tr (sy r 0) (nvT (tr (sy r 0)) (hgR sy op xp yp tr r))) f' := by
        intro f' i2 k1 k2 k3 k4 k5
        have hsub : ∀ s, sub (tr s) (upN tr (sy r 0) (nvT (tr (sy r 0)) (hgR sy op xp yp tr r)) s) := fun s => by
          unfold upN; split
          · rename_i e; subst e; exact nvT_sub
          · exact sub_rf
        refine ⟨hf.tr k1, k2, k3, k5, fun s => ?_, leT_up hle (by omega) hm, fun h => ?_, fun s a c => ?_⟩
        · unfold upN; split
          · exact nvT_lt (hb8 _)
          · exact hb8 s
        · rcases k4.mp h with h | h
          · obtain ⟨r', a1, a2, a3⟩ := hfs h
            exact ⟨r', a1, mkT_mono hsub a2, slf_mono (fun p => hgR_mono hsub) a3⟩
          · exact ⟨r, by omega, mkT_mono hsub hm, slf_mono (fun p => hgR_mono hsub) h⟩
        · rw [upN_ne _ _ (by omega)]; exact hter s a c
      by_cases hsame : nvT (tr (sy r 0)) (hgR sy op xp yp tr r) = tr (sy r 0)
      · have e : upN tr (sy r 0) (nvT (tr (sy r 0)) (hgR sy op xp yp tr r)) = tr := by
          rw [hsame]; funext s; unfold upN; split
          · rename_i h; rw [h]
          · rfl
        have hB2 : ∀ f', (f' = 1 ↔ f = 1 ∨ slf (hgR sy op xp yp tr r)) → (b = 0 ∧ tr = tr1 ∧ ∀ r', r' < r + 1 → mkT sy tr r' → nvT (tr (sy r' 0)) (hgR sy op xp yp tr r') = tr (sy r' 0) ∧ (slf (hgR sy op xp yp tr r') → f' = 1)) ∨ (b = 1 ∧ sumN tr1 14 < sumN tr 14) := by
          intro f' hf'
          rcases hB with ⟨a, c, d1⟩ | h
          · refine Or.inl ⟨a, c, fun r' h1 h2 => ?_⟩
            by_cases er : r' = r
            · subst er; exact ⟨hsame, fun h => hf'.mpr (Or.inr h)⟩
            · obtain ⟨e1, e2⟩ := d1 r' (by omega) h2
              exact ⟨e1, fun h => hf'.mpr (Or.inl (e2 h))⟩
          · exact Or.inr h
        refine ex_iload_n (i := 3) dX5_search_53 rfl rfl ?_
        refine ex_aload_n (i := 0) dX5_search_54 rfl rfl ?_
        refine ex_getR (v := .ref (1)) dX5_search_55 fl_Rings_9 rfl rfl (l56 (by decide)) rfl ?_
        refine ex_cV (ν := m_Grammar_size) (a := 1) (ci := 1) (as := []) dX5_search_58 ln_Rings_39 mf_Grammar_size rfl (l56 (by decide)) rfl rfl np_Grammar_size rfl rfl ⟨(Nat.le_of_ble_eq_true rfl), (Nat.le_of_ble_eq_true rfl), (Nat.le_of_ble_eq_true rfl), (Nat.le_of_ble_eq_true rfl)⟩ (by decide) ?_
        refine sp_Grammar_size ?_
        refine ⟨_, rfl, ?_⟩
        refine ex_asN (a := n) gs1.1 ?_
        refine ex_icmp_geN (tgt := 88) dX5_search_61 (by decide) (by omega) (by omega) (fun h61 => by omega) (fun h61 => ?_)
        refine ex_aload_n (i := 0) dX5_search_64 rfl rfl ?_
        refine ex_iload_n (i := 3) dX5_search_65 rfl rfl ?_
        refine ex_cV (ν := m_Rings_makesTrees) (a := 27) (ci := 5) (as := [.int (nI (r))]) dX5_search_66 ln_Rings_45 mf_Rings_makesTrees rfl (l56 (by decide)) rfl rfl np_Rings_makesTrees rfl rfl ⟨(Nat.le_of_ble_eq_true rfl), (Nat.le_of_ble_eq_true rfl), (Nat.le_of_ble_eq_true rfl), (Nat.le_of_ble_eq_true rfl)⟩ (by decide) ?_
        refine sp_Rings_makesTrees (tr := tr) sc1 gs1 (by omega) hV hb8 (fun _ => ?_) (fun h => absurd hm h)
        refine ⟨_, rfl, ?_⟩
        refine ex_if_eqN (tgt := 82) dX5_search_69 (by decide) (by omega) (fun h69 => by exact absurd h69 (by decide)) (fun h69 => ?_)
        refine ex_aload_n (i := 0) dX5_search_72 rfl rfl ?_
        refine ex_iload_n (i := 3) dX5_search_73 rfl rfl ?_
        refine ex_cV (ν := m_Rings_growBy) (a := 27) (ci := 5) (as := [.int (nI (r))]) dX5_search_74 ln_Rings_49 mf_Rings_growBy rfl (l56 (by decide)) rfl rfl np_Rings_growBy rfl rfl ⟨(Nat.le_of_ble_eq_true rfl), (Nat.le_of_ble_eq_true rfl), (Nat.le_of_ble_eq_true rfl), (Nat.le_of_ble_eq_true rfl)⟩ (by decide) ?_
        refine sp_Rings_growBy (op := op) (xp := xp) (yp := yp) (tr := tr) (fd := f) sc1 gs1 es1 (by omega) hV hb8 h3 hf2 (fun b2 f2 i2 k1 k2 k3 k4 k5 k6 => ?_)
        rw [if_pos hsame] at k6
        subst k6
        have hI2 := key f2 i2 k1 k2 k3 k4 k5
        rw [e] at hI2
        refine ⟨_, rfl, ?_⟩
        refine ex_if_eqN (tgt := 82) dX5_search_77 (by decide) (by omega) (fun h77 => ?_) (fun h77 => by exact absurd h77 (by decide))
        refine ex_iincN (L' := [some (.ref (27)), some (.int (nI (b))), some (.int (nI (rd))), some (.int (nI (r + 1)))]) dX5_search_82 rfl rfl (by decide) rfl ?_
        refine ex_goto (tgt := 53) dX5_search_85 (by decide) ?_
        exact ih (r + 1) b f2 tr i2 (by omega) hI2 (hB2 f2 k4)
      · have hsum := sumN_up (F := tr) (k := sy r 0) (v := nvT (tr (sy r 0)) (hgR sy op xp yp tr r)) (N := 14) (by omega)
        have hge := sub_le (nvT_sub (x := tr (sy r 0)) (W := hgR sy op xp yp tr r))
        have hB2 : sumN tr1 14 < sumN (upN tr (sy r 0) (nvT (tr (sy r 0)) (hgR sy op xp yp tr r))) 14 := by
          rcases hB with ⟨_, c, _⟩ | ⟨_, h⟩
          · rw [← c]; omega
          · omega
        refine ex_iload_n (i := 3) dX5_search_53 rfl rfl ?_
        refine ex_aload_n (i := 0) dX5_search_54 rfl rfl ?_
        refine ex_getR (v := .ref (1)) dX5_search_55 fl_Rings_9 rfl rfl (l56 (by decide)) rfl ?_
        refine ex_cV (ν := m_Grammar_size) (a := 1) (ci := 1) (as := []) dX5_search_58 ln_Rings_39 mf_Grammar_size rfl (l56 (by decide)) rfl rfl np_Grammar_size rfl rfl ⟨(Nat.le_of_ble_eq_true rfl), (Nat.le_of_ble_eq_true rfl), (Nat.le_of_ble_eq_true rfl), (Nat.le_of_ble_eq_true rfl)⟩ (by decide) ?_
        refine sp_Grammar_size ?_
        refine ⟨_, rfl, ?_⟩
        refine ex_asN (a := n) gs1.1 ?_
        refine ex_icmp_geN (tgt := 88) dX5_search_61 (by decide) (by omega) (by omega) (fun h61 => by omega) (fun h61 => ?_)
        refine ex_aload_n (i := 0) dX5_search_64 rfl rfl ?_
        refine ex_iload_n (i := 3) dX5_search_65 rfl rfl ?_
        refine ex_cV (ν := m_Rings_makesTrees) (a := 27) (ci := 5) (as := [.int (nI (r))]) dX5_search_66 ln_Rings_45 mf_Rings_makesTrees rfl (l56 (by decide)) rfl rfl np_Rings_makesTrees rfl rfl ⟨(Nat.le_of_ble_eq_true rfl), (Nat.le_of_ble_eq_true rfl), (Nat.le_of_ble_eq_true rfl), (Nat.le_of_ble_eq_true rfl)⟩ (by decide) ?_
        refine sp_Rings_makesTrees (tr := tr) sc1 gs1 (by omega) hV hb8 (fun _ => ?_) (fun h => absurd hm h)
        refine ⟨_, rfl, ?_⟩
        refine ex_if_eqN (tgt := 82) dX5_search_69 (by decide) (by omega) (fun h69 => by exact absurd h69 (by decide)) (fun h69 => ?_)
        refine ex_aload_n (i := 0) dX5_search_72 rfl rfl ?_
        refine ex_iload_n (i := 3) dX5_search_73 rfl rfl ?_
        refine ex_cV (ν := m_Rings_growBy) (a := 27) (ci := 5) (as := [.int (nI (r))]) dX5_search_74 ln_Rings_49 mf_Rings_growBy rfl (l56 (by decide)) rfl rfl np_Rings_growBy rfl rfl ⟨(Nat.le_of_ble_eq_true rfl), (Nat.le_of_ble_eq_true rfl), (Nat.le_of_ble_eq_true rfl), (Nat.le_of_ble_eq_true rfl)⟩ (by decide) ?_
        refine sp_Rings_growBy (op := op) (xp := xp) (yp := yp) (tr := tr) (fd := f) sc1 gs1 es1 (by omega) hV hb8 h3 hf2 (fun b2 f2 i2 k1 k2 k3 k4 k5 k6 => ?_)
        rw [if_neg hsame] at k6
        subst k6
        have hI2 := key f2 i2 k1 k2 k3 k4 k5
        refine ⟨_, rfl, ?_⟩
        refine ex_if_eqN (tgt := 82) dX5_search_77 (by decide) (by omega) (fun h77 => by exact absurd h77 (by decide)) (fun h77 => ?_)
        refine ex_iconst (v := nI 1) dX5_search_80 (by decide) ?_
        refine ex_istore_n (L' := [some (.ref (27)), some (.int (nI (1))), some (.int (nI (rd))), some (.int (nI (r)))]) dX5_search_81 (i := 1) rfl (by decide) rfl ?_
        refine ex_iincN (L' := [some (.ref (27)), some (.int (nI (1))), some (.int (nI (rd))), some (.int (nI (r + 1)))]) dX5_search_82 rfl rfl (by decide) rfl ?_
        refine ex_goto (tgt := 53) dX5_search_85 (by decide) ?_
        exact ih (r + 1) 1 f2 _ i2 (by omega) hI2 (Or.inr ⟨rfl, hB2⟩)
    · have hB2 : (b = 0 ∧ tr = tr1 ∧ ∀ r', r' < r + 1 → mkT sy tr r' → nvT (tr (sy r' 0)) (hgR sy op xp yp tr r') = tr (sy r' 0) ∧ (slf (hgR sy op xp yp tr r') → f = 1)) ∨ (b = 1 ∧ sumN tr1 14 < sumN tr 14) := by
        rcases hB with ⟨a, c, d1⟩ | h
        · refine Or.inl ⟨a, c, fun r' h1 h2 => ?_⟩
          by_cases er : r' = r
          · subst er; exact absurd h2 hm
          · exact d1 r' (by omega) h2
        · exact Or.inr h
      refine ex_iload_n (i := 3) dX5_search_53 rfl rfl ?_
      refine ex_aload_n (i := 0) dX5_search_54 rfl rfl ?_
      refine ex_getR (v := .ref (1)) dX5_search_55 fl_Rings_9 rfl rfl (l56 (by decide)) rfl ?_
      refine ex_cV (ν := m_Grammar_size) (a := 1) (ci := 1) (as := []) dX5_search_58 ln_Rings_39 mf_Grammar_size rfl (l56 (by decide)) rfl rfl np_Grammar_size rfl rfl ⟨(Nat.le_of_ble_eq_true rfl), (Nat.le_of_ble_eq_true rfl), (Nat.le_of_ble_eq_true rfl), (Nat.le_of_ble_eq_true rfl)⟩ (by decide) ?_
      refine sp_Grammar_size ?_
      refine ⟨_, rfl, ?_⟩
      refine ex_asN (a := n) gs1.1 ?_
      refine ex_icmp_geN (tgt := 88) dX5_search_61 (by decide) (by omega) (by omega) (fun h61 => by omega) (fun h61 => ?_)
      refine ex_aload_n (i := 0) dX5_search_64 rfl rfl ?_
      refine ex_iload_n (i := 3) dX5_search_65 rfl rfl ?_
      refine ex_cV (ν := m_Rings_makesTrees) (a := 27) (ci := 5) (as := [.int (nI (r))]) dX5_search_66 ln_Rings_45 mf_Rings_makesTrees rfl (l56 (by decide)) rfl rfl np_Rings_makesTrees rfl rfl ⟨(Nat.le_of_ble_eq_true rfl), (Nat.le_of_ble_eq_true rfl), (Nat.le_of_ble_eq_true rfl), (Nat.le_of_ble_eq_true rfl)⟩ (by decide) ?_
      refine sp_Rings_makesTrees (tr := tr) sc1 gs1 (by omega) hV hb8 (fun h => absurd h hm) (fun _ => ?_)
      refine ⟨_, rfl, ?_⟩
      refine ex_if_eqN (tgt := 82) dX5_search_69 (by decide) (by omega) (fun h69 => ?_) (fun h69 => by exact absurd h69 (by decide))
      refine ex_iincN (L' := [some (.ref (27)), some (.int (nI (b))), some (.int (nI (rd))), some (.int (nI (r + 1)))]) dX5_search_82 rfl rfl (by decide) rfl ?_
      refine ex_goto (tgt := 53) dX5_search_85 (by decide) ?_
      exact ih (r + 1) b f tr i1 (by omega) hI hB2
theorem sp_Rings_search (sc : SC i) (gs : GS i n sy) (es : ES i op xp yp)
    (hQ : ∀ f tr i1, rgI n sy op xp yp i i1 tr f → clT n sy op xp yp tr → (f = 1 ↔ slA n sy op xp yp tr) → Q (.ok none) (56 + ζ, g, i1, q, RT t)) : Wx m_Rings_search 0 [some (.ref 27), none, none, none] [] (56 + ζ, g, i, q, RT t) (0, 0) Q := by
  have loop : ∀ d rd b f tr i1, rd + d = 1000000 → b < 2 → rgI n sy op xp yp i i1 tr f → (b = 0 → clT n sy op xp yp tr ∧ (f = 1 ↔ slA n sy op xp yp tr)) → (b = 1 → rd ≤ sumN tr 14) →
      Wx m_Rings_search 39 [some (.ref 27), some (.int (nI b)), some (.int (nI rd)), none] [] (56 + ζ, g, i1, q, RT t) (0, 0) Q := by
    intro d
    induction d with
    | zero =>
      intro rd b f tr i1 hrd hb2 hI h0 h1
      have hc : b = 0 := by
        by_cases e : b = 1
        · have h2 := h1 e
          have h3 := sumN_le (N := 14) (F := tr) (B := 7) (fun j _ => by have := hI.2.2.2.2.1 j; omega)
          omega
        · omega
      refine ex_iload_n (i := 2) dX5_search_39 rfl rfl ?_
      refine ex_ldc (v := 1000000) dX5_search_40 ld_Rings_38 ?_
      refine ex_asN (a := 1000000) (by decide) ?_
      refine ex_icmp_geN (tgt := 94) dX5_search_42 (by decide) (by omega) (by omega) (fun h42 => ?_) (fun h42 => by omega)
      refine ex_ret dX5_search_94 rfl ?_
      exact hQ f tr i1 hI (h0 hc).1 (h0 hc).2
    | succ d ih =>
      intro rd b f tr i1 hrd hb2 hI h0 h1
      by_cases hc : b = 0
      ·
        refine ex_iload_n (i := 2) dX5_search_39 rfl rfl ?_
        refine ex_ldc (v := 1000000) dX5_search_40 ld_Rings_38 ?_
        refine ex_asN (a := 1000000) (by decide) ?_
        refine ex_icmp_geN (tgt := 94) dX5_search_42 (by decide) (by omega) (by omega) (fun h42 => by omega) (fun h42 => ?_)
        refine ex_iload_n (i := 1) dX5_search_45 rfl rfl ?_
        refine ex_if_eqN (tgt := 94) dX5_search_46 (by decide) (by omega) (fun h46 => ?_) (fun h46 => by exact absurd hc h46)
        refine ex_ret dX5_search_94 rfl ?_
        exact hQ f tr i1 hI (h0 hc).1 (h0 hc).2
      ·
        refine ex_iload_n (i := 2) dX5_search_39 rfl rfl ?_
        refine ex_ldc (v := 1000000) dX5_search_40 ld_Rings_38 ?_
        refine ex_asN (a := 1000000) (by decide) ?_
        refine ex_icmp_geN (tgt := 94) dX5_search_42 (by decide) (by omega) (by omega) (fun h42 => by omega) (fun h42 => ?_)
        refine ex_iload_n (i := 1) dX5_search_45 rfl rfl ?_
        refine ex_if_eqN (tgt := 94) dX5_search_46 (by decide) (by omega) (fun h46 => by exact absurd h46 hc) (fun h46 => ?_)
        refine ex_iconst (v := nI 0) dX5_search_49 (by decide) ?_
        refine ex_istore_n (L' := [some (.ref (27)), some (.int (nI (0))), some (.int (nI (rd))), none]) dX5_search_50 (i := 1) rfl (by decide) rfl ?_
        refine ex_iconst (v := nI 0) dX5_search_51 (by decide) ?_
        refine ex_istore_n (L' := [some (.ref (27)), some (.int (nI (0))), some (.int (nI (rd))), some (.int (nI (0)))]) dX5_search_52 (i := 3) rfl (by decide) rfl ?_
        refine lp_Rings_search_in (i := i) (tr1 := tr) sc gs es (fun b2 f2 tr2 i2 g1 g2 => ?_) n 0 0 f tr i1 (by omega) hI (Or.inl ⟨rfl, rfl, fun r' hr' => by omega⟩)
        refine ex_iincN (L' := [some (.ref 27), some (.int (nI b2)), some (.int (nI (rd + 1))), none]) dX5_search_88 rfl rfl (by decide) rfl ?_
        refine ex_goto (tgt := 39) dX5_search_91 (by decide) ?_
        refine ih (rd + 1) b2 f2 tr2 i2 (by omega) ?_ g1 ?_ ?_
        · rcases g2 with ⟨e, _⟩ | ⟨e, _⟩ <;> omega
        · intro e
          rcases g2 with ⟨_, _, h⟩ | ⟨e2, _⟩
          · refine ⟨⟨fun s a c => by rw [g1.2.2.2.2.2.2.2 s a c]; exact sub_rf, fun r hr hm => by rw [(h r hr hm).1]; exact sub_rf⟩, g1.2.2.2.2.2.2.1, fun ⟨r, a1, a2, a3⟩ => (h r a1 a2).2 a3⟩
          · omega
        · intro e
          rcases g2 with ⟨e2, _⟩ | ⟨_, h⟩
          · omega
          · have := h1 (by omega); omega
  have hI0 : ∀ i1, Fr [27, 29, 31] i i1 → i1 27 3 = nI 0 → (∀ s, s < 14 → i1 29 s = nI (if 1 ≤ s ∧ s ≤ 6 then 4 else 0)) → rgI n sy op xp yp i i1 (fun s => if 1 ≤ s ∧ s ≤ 6 then 4 else 0) 0 := by
    intro i1 hf h3 hV
    refine ⟨hf, h3, by decide, hV, fun s => ?_, fun G hG s => ?_, fun h => absurd h (by decide), fun s a c => if_pos ⟨a, c⟩⟩
    · show (if 1 ≤ s ∧ s ≤ 6 then 4 else 0) < 8
      split <;> decide
    · show sub (if 1 ≤ s ∧ s ≤ 6 then 4 else 0) (G s)
      split
      · rename_i h; exact hG.1 s h.1 h.2
      · exact sub_0
  refine ex_aload_n (i := 0) dX5_search_0 rfl rfl ?_
  refine ex_iconst (v := nI 0) dX5_search_1 (by decide) ?_
  refine ex_putI dX5_search_2 fl_Rings_27 cf_5 rfl (Or.inl rfl) (by decide) (by decide) rfl (l56 (by decide)) ?_
  refine ex_aload_n (i := 0) dX5_search_5 rfl rfl ?_
  refine ex_getR (v := .ref (28)) dX5_search_6 fl_Rings_20 rfl rfl (l56 (by decide)) rfl ?_
  refine ex_cV (ν := m_Row_wipe) (a := 28) (ci := 6) (as := []) dX5_search_9 ln_Rings_31 mf_Row_wipe rfl (l56 (by decide)) rfl rfl np_Row_wipe rfl rfl ⟨(Nat.le_of_ble_eq_true rfl), (Nat.le_of_ble_eq_true rfl), (Nat.le_of_ble_eq_true rfl), (Nat.le_of_ble_eq_true rfl)⟩ (by decide) ?_
  refine sp_Row_wipe (r := 28) (c := 29) (N := 14) rfl rfl rfl (l56 (by decide)) (l56 (by decide)) ?_
  refine ⟨_, rfl, ?_⟩
  refine ex_iconst (v := nI 1) dX5_search_12 (by decide) ?_
  refine ex_istore_n (L' := [some (.ref (27)), some (.int (nI (1))), none, none]) dX5_search_13 (i := 1) rfl (by decide) rfl ?_
  refine ex_iload_n (i := 1) dX5_search_14 rfl rfl ?_
  refine ex_bipush (v := nI 6) dX5_search_15 (by decide) ?_
  refine ex_icmp_gtN (tgt := 35) dX5_search_17 (by decide) (by decide) (by decide) (fun h17 => by exact absurd h17 (by decide)) (fun h17 => ?_)
  refine ex_aload_n (i := 0) dX5_search_20 rfl rfl ?_
  refine ex_getR (v := .ref (28)) dX5_search_21 fl_Rings_20 rfl rfl (l56 (by decide)) rfl ?_
  refine ex_iload_n (i := 1) dX5_search_24 rfl rfl ?_
  refine ex_iconst (v := nI 4) dX5_search_25 (by decide) ?_
  refine ex_cV (ν := m_Row_set) (a := 28) (ci := 6) (as := [.int (nI (1)), .int (nI (4))]) dX5_search_26 ln_Rings_34 mf_Row_set rfl (l56 (by decide)) rfl rfl np_Row_set rfl rfl ⟨(Nat.le_of_ble_eq_true rfl), (Nat.le_of_ble_eq_true rfl), (Nat.le_of_ble_eq_true rfl), (Nat.le_of_ble_eq_true rfl)⟩ (by decide) ?_
  refine sp_Row_set (r := 28) (c := 29) rfl rfl rfl (l56 (by decide)) (l56 (by decide)) (by decide) ?_
  refine ⟨_, rfl, ?_⟩
  refine ex_iincN (L' := [some (.ref (27)), some (.int (nI (2))), none, none]) dX5_search_29 rfl rfl (by decide) rfl ?_
  refine ex_goto (tgt := 14) dX5_search_32 (by decide) ?_
  refine ex_iload_n (i := 1) dX5_search_14 rfl rfl ?_
  refine ex_bipush (v := nI 6) dX5_search_15 (by decide) ?_
  refine ex_icmp_gtN (tgt := 35) dX5_search_17 (by decide) (by decide) (by decide) (fun h17 => by exact absurd h17 (by decide)) (fun h17 => ?_)
  refine ex_aload_n (i := 0) dX5_search_20 rfl rfl ?_
  refine ex_getR (v := .ref (28)) dX5_search_21 fl_Rings_20 rfl rfl (l56 (by decide)) rfl ?_
  refine ex_iload_n (i := 1) dX5_search_24 rfl rfl ?_
  refine ex_iconst (v := nI 4) dX5_search_25 (by decide) ?_
  refine ex_cV (ν := m_Row_set) (a := 28) (ci := 6) (as := [.int (nI (2)), .int (nI (4))]) dX5_search_26 ln_Rings_34 mf_Row_set rfl (l56 (by decide)) rfl rfl np_Row_set rfl rfl ⟨(Nat.le_of_ble_eq_true rfl), (Nat.le_of_ble_eq_true rfl), (Nat.le_of_ble_eq_true rfl), (Nat.le_of_ble_eq_true rfl)⟩ (by decide) ?_
  refine sp_Row_set (r := 28) (c := 29) rfl rfl rfl (l56 (by decide)) (l56 (by decide)) (by decide) ?_
  refine ⟨_, rfl, ?_⟩
  refine ex_iincN (L' := [some (.ref (27)), some (.int (nI (3))), none, none]) dX5_search_29 rfl rfl (by decide) rfl ?_
  refine ex_goto (tgt := 14) dX5_search_32 (by decide) ?_
  refine ex_iload_n (i := 1) dX5_search_14 rfl rfl ?_
  refine ex_bipush (v := nI 6) dX5_search_15 (by decide) ?_
  refine ex_icmp_gtN (tgt := 35) dX5_search_17 (by decide) (by decide) (by decide) (fun h17 => by exact absurd h17 (by decide)) (fun h17 => ?_)
  refine ex_aload_n (i := 0) dX5_search_20 rfl rfl ?_
  refine ex_getR (v := .ref (28)) dX5_search_21 fl_Rings_20 rfl rfl (l56 (by decide)) rfl ?_
  refine ex_iload_n (i := 1) dX5_search_24 rfl rfl ?_
  refine ex_iconst (v := nI 4) dX5_search_25 (by decide) ?_
  refine ex_cV (ν := m_Row_set) (a := 28) (ci := 6) (as := [.int (nI (3)), .int (nI (4))]) dX5_search_26 ln_Rings_34 mf_Row_set rfl (l56 (by decide)) rfl rfl np_Row_set rfl rfl ⟨(Nat.le_of_ble_eq_true rfl), (Nat.le_of_ble_eq_true rfl), (Nat.le_of_ble_eq_true rfl), (Nat.le_of_ble_eq_true rfl)⟩ (by decide) ?_
  refine sp_Row_set (r := 28) (c := 29) rfl rfl rfl (l56 (by decide)) (l56 (by decide)) (by decide) ?_
  refine ⟨_, rfl, ?_⟩
  refine ex_iincN (L' := [some (.ref (27)), some (.int (nI (4))), none, none]) dX5_search_29 rfl rfl (by decide) rfl ?_
  refine ex_goto (tgt := 14) dX5_search_32 (by decide) ?_
  refine ex_iload_n (i := 1) dX5_search_14 rfl rfl ?_
  refine ex_bipush (v := nI 6) dX5_search_15 (by decide) ?_
  refine ex_icmp_gtN (tgt := 35) dX5_search_17 (by decide) (by decide) (by decide) (fun h17 => by exact absurd h17 (by decide)) (fun h17 => ?_)
  refine ex_aload_n (i := 0) dX5_search_20 rfl rfl ?_
  refine ex_getR (v := .ref (28)) dX5_search_21 fl_Rings_20 rfl rfl (l56 (by decide)) rfl ?_
  refine ex_iload_n (i := 1) dX5_search_24 rfl rfl ?_
  refine ex_iconst (v := nI 4) dX5_search_25 (by decide) ?_
  refine ex_cV (ν := m_Row_set) (a := 28) (ci := 6) (as := [.int (nI (4)), .int (nI (4))]) dX5_search_26 ln_Rings_34 mf_Row_set rfl (l56 (by decide)) rfl rfl np_Row_set rfl rfl ⟨(Nat.le_of_ble_eq_true rfl), (Nat.le_of_ble_eq_true rfl), (Nat.le_of_ble_eq_true rfl), (Nat.le_of_ble_eq_true rfl)⟩ (by decide) ?_
  refine sp_Row_set (r := 28) (c := 29) rfl rfl rfl (l56 (by decide)) (l56 (by decide)) (by decide) ?_
  refine ⟨_, rfl, ?_⟩
  refine ex_iincN (L' := [some (.ref (27)), some (.int (nI (5))), none, none]) dX5_search_29 rfl rfl (by decide) rfl ?_
  refine ex_goto (tgt := 14) dX5_search_32 (by decide) ?_
  refine ex_iload_n (i := 1) dX5_search_14 rfl rfl ?_
  refine ex_bipush (v := nI 6) dX5_search_15 (by decide) ?_
  refine ex_icmp_gtN (tgt := 35) dX5_search_17 (by decide) (by decide) (by decide) (fun h17 => by exact absurd h17 (by decide)) (fun h17 => ?_)
  refine ex_aload_n (i := 0) dX5_search_20 rfl rfl ?_
  refine ex_getR (v := .ref (28)) dX5_search_21 fl_Rings_20 rfl rfl (l56 (by decide)) rfl ?_
  refine ex_iload_n (i := 1) dX5_search_24 rfl rfl ?_
  refine ex_iconst (v := nI 4) dX5_search_25 (by decide) ?_
  refine ex_cV (ν := m_Row_set) (a := 28) (ci := 6) (as := [.int (nI (5)), .int (nI (4))]) dX5_search_26 ln_Rings_34 mf_Row_set rfl (l56 (by decide)) rfl rfl np_Row_set rfl rfl ⟨(Nat.le_of_ble_eq_true rfl), (Nat.le_of_ble_eq_true rfl), (Nat.le_of_ble_eq_true rfl), (Nat.le_of_ble_eq_true rfl)⟩ (by decide) ?_
  refine sp_Row_set (r := 28) (c := 29) rfl rfl rfl (l56 (by decide)) (l56 (by decide)) (by decide) ?_
  refine ⟨_, rfl, ?_⟩
  refine ex_iincN (L' := [some (.ref (27)), some (.int (nI (6))), none, none]) dX5_search_29 rfl rfl (by decide) rfl ?_
  refine ex_goto (tgt := 14) dX5_search_32 (by decide) ?_
  refine ex_iload_n (i := 1) dX5_search_14 rfl rfl ?_
  refine ex_bipush (v := nI 6) dX5_search_15 (by decide) ?_
  refine ex_icmp_gtN (tgt := 35) dX5_search_17 (by decide) (by decide) (by decide) (fun h17 => by exact absurd h17 (by decide)) (fun h17 => ?_)
  refine ex_aload_n (i := 0) dX5_search_20 rfl rfl ?_
  refine ex_getR (v := .ref (28)) dX5_search_21 fl_Rings_20 rfl rfl (l56 (by decide)) rfl ?_
  refine ex_iload_n (i := 1) dX5_search_24 rfl rfl ?_
  refine ex_iconst (v := nI 4) dX5_search_25 (by decide) ?_
  refine ex_cV (ν := m_Row_set) (a := 28) (ci := 6) (as := [.int (nI (6)), .int (nI (4))]) dX5_search_26 ln_Rings_34 mf_Row_set rfl (l56 (by decide)) rfl rfl np_Row_set rfl rfl ⟨(Nat.le_of_ble_eq_true rfl), (Nat.le_of_ble_eq_true rfl), (Nat.le_of_ble_eq_true rfl), (Nat.le_of_ble_eq_true rfl)⟩ (by decide) ?_
  refine sp_Row_set (r := 28) (c := 29) rfl rfl rfl (l56 (by decide)) (l56 (by decide)) (by decide) ?_
  refine ⟨_, rfl, ?_⟩
  refine ex_iincN (L' := [some (.ref (27)), some (.int (nI (7))), none, none]) dX5_search_29 rfl rfl (by decide) rfl ?_
  refine ex_goto (tgt := 14) dX5_search_32 (by decide) ?_
  refine ex_iload_n (i := 1) dX5_search_14 rfl rfl ?_
  refine ex_bipush (v := nI 6) dX5_search_15 (by decide) ?_
  refine ex_icmp_gtN (tgt := 35) dX5_search_17 (by decide) (by decide) (by decide) (fun h17 => ?_) (fun h17 => by exact absurd h17 (by decide))
  refine ex_iconst (v := nI 1) dX5_search_35 (by decide) ?_
  refine ex_istore_n (L' := [some (.ref (27)), some (.int (nI (1))), none, none]) dX5_search_36 (i := 1) rfl (by decide) rfl ?_
  refine ex_iconst (v := nI 0) dX5_search_37 (by decide) ?_
  refine ex_istore_n (L' := [some (.ref (27)), some (.int (nI (1))), some (.int (nI (0))), none]) dX5_search_38 (i := 2) rfl (by decide) rfl ?_
  refine ex_less (L' := [some (.ref 27), some (.int (nI 1)), some (.int (nI 0)), none]) (by simp [xSub]) (loop 1000000 0 1 0 _ _ (by omega) (by decide) (hI0 _ ?_ ?_ ?_) (fun h => absurd h (by decide)) (fun _ => Nat.zero_le _))
  · exact (((((((((Fr.rf (i := i)).U (by decide)).S (by decide)).U (by decide)).U (by decide)).U (by decide)).U (by decide)).U (by decide)).U (by decide))
  · simp only [xU_ne _ _ _ (show (27 : Nat) ≠ 29 by decide), xSet_ne _ _ (show (27 : Nat) ≠ 29 by decide)]
    rw [xU_at]; simp [upd]
  · intro s hs
    rcases (show s = 0 ∨ s = 1 ∨ s = 2 ∨ s = 3 ∨ s = 4 ∨ s = 5 ∨ s = 6 ∨ 7 ≤ s by omega) with rfl | rfl | rfl | rfl | rfl | rfl | rfl | h
    all_goals simp only [xU_at, xSet_at, upd, zb]
    all_goals first | rfl | (simp; done) | skip
    have c1 : ¬ (1 ≤ s ∧ s ≤ 6) := by omega
    rw [if_neg (by omega), if_neg (by omega), if_neg (by omega), if_neg (by omega), if_neg (by omega), if_neg (by omega), if_pos hs, if_neg c1]; rfl
end S35
