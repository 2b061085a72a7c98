/-! ===== States.close: the closure of a state ===== -/
/-- closed: with an item before a symbol all items of its rules, dot at the beginning -/
def clS (n : Nat) (sy : Nat → Nat → Nat) (S : Nat → Prop) : Prop := ∀ it, it < 75 → S it → ∀ r, r < n → sy r 0 = bh sy it → S (r * 5)
/-- C is the least closed set with K -/
def isCl (n : Nat) (sy : Nat → Nat → Nat) (K C : Nat → Prop) : Prop := (∀ it, it < 75 → K it → C it) ∧ clS n sy C ∧ ∀ S : Nat → Prop, (∀ it, it < 75 → K it → S it) → clS n sy S → ∀ it, it < 75 → C it → S it
def cI (n : Nat) (sy : Nat → Nat → Nat) (s : Nat) (F0 F : Nat → Nat) : Prop := (∀ j, j < 3750 → F j < 256 ∧ (s * 75 ≤ j → j < s * 75 + 75 → F j = 0 ∨ F j = 128)) ∧ (∀ j, ¬ (s * 75 ≤ j ∧ j < s * 75 + 75) → F j = F0 j) ∧ (∀ it, it < 75 → F0 (s * 75 + it) ≠ 0 → F (s * 75 + it) ≠ 0) ∧
  ∀ S : Nat → Prop, (∀ it, it < 75 → F0 (s * 75 + it) ≠ 0 → S it) → clS n sy S → ∀ it, it < 75 → F (s * 75 + it) ≠ 0 → S it
theorem cI_gv {n : Nat} {sy : Nat → Nat → Nat} {s it : Nat} {F0 F : Nat → Nat} (h : cI n sy s F0 F) (hn : n ≤ 14) (hi : it < 75) (hp : F (s * 75 + it) ≠ 0) : cI n sy s F0 (gv n sy (bh sy it) s 128 F) := by
  obtain ⟨h1, h2, h3, h4⟩ := h
  refine ⟨fun j hj => ?_, fun j hj => ?_, fun k hk hz => ?_, fun S hS hc k hk hz => ?_⟩
  · refine ⟨gv_lt (by decide) (h1 j hj).1, fun a1 a2 => ?_⟩
    unfold gv
    split
    · rcases (h1 j hj).2 a1 a2 with e | e <;> rw [e] <;> exact Or.inr rfl
    · exact (h1 j hj).2 a1 a2
  · have : gv n sy (bh sy it) s 128 F j = F j := by
      unfold gv
      rw [if_neg (fun q => hj ⟨q.1, by omega⟩)]
    rw [this]; exact h2 j hj
  · have := h3 k hk hz
    have h5 := gv_ge (n := n) (sy := sy) (x := bh sy it) (s := s) (m := 128) (F := F) (s * 75 + k)
    omega
  · unfold gv at hz
    split at hz
    · rename_i q
      have e : k = (s * 75 + k - s * 75) / 5 * 5 := by omega
      rw [e]
      exact hc it hi (h4 S hS hc it hi hp) _ (by omega) q.2.2.2
    · exact h4 S hS hc k hk hz
theorem cI.b {n : Nat} {sy : Nat → Nat → Nat} {s : Nat} {F0 F : Nat → Nat} (h : cI n sy s F0 F) : ∀ j, j < 3750 → F j < 256 := fun j hj => (h.1 j hj).1
theorem gv_fix {n : Nat} {sy : Nat → Nat → Nat} {x s m : Nat} {F : Nat → Nat} (h : gv n sy x s m F = F) {r : Nat} (hr : r < n) (hx : sy r 0 = x) : F (s * 75 + r * 5) ||| m = F (s * 75 + r * 5) := by
  have h2 := congrFun h (s * 75 + r * 5)
  unfold gv at h2
  have e2 : (s * 75 + r * 5 - s * 75) / 5 = r := by omega
  rw [if_pos ⟨by omega, by omega, by omega, by rw [e2]; exact hx⟩] at h2
  exact h2
section S19
variable {ζ g : Nat} {i : Nat → Nat → Int32} {q : Nat → Nat → Int64} {t : Bool} {Q : xRes → xMem → Prop} {n : Nat} {sy : Nat → Nat → Nat}
theorem lp_States_close_in {s rd : Nat} {F0 F1 : Nat → Nat} {e : Option Value} (sc : SC i) (gs : GS i n sy) (hs : s < 50) (hrd : rd < 1000000)
    (hk : ∀ b i1 F, Fr [22] i i1 → Vw i1 22 3750 F → cI n sy s F0 F → (b = 0 ∧ F = F1 ∧ clS n sy (fun it => F (s * 75 + it) ≠ 0) ∨ b = 1 ∧ (∀ j, F1 j ≤ F j) ∧ sumN F1 3750 < sumN F 3750) → Wx m_States_close 4 [some (.ref 16), some (.int (nI s)), some (.int (nI b)), some (.int (nI (rd + 1))), none, none] [] (56 + ζ, g, i1, q, RT t) (0, 0) Q) :
    ∀ d k b i1 F, k + d = 75 → Fr [22] i i1 → Vw i1 22 3750 F → cI n sy s F0 F → (b = 0 ∧ F = F1 ∧ (∀ it, it < k → F (s * 75 + it) ≠ 0 → ∀ r, r < n → sy r 0 = bh sy it → F (s * 75 + r * 5) ≠ 0) ∨ b = 1 ∧ (∀ j, F1 j ≤ F j) ∧ sumN F1 3750 < sumN F 3750) →
      Wx m_States_close 19 [some (.ref 16), some (.int (nI s)), some (.int (nI b)), some (.int (nI rd)), some (.int (nI k)), none] [] (56 + ζ, g, i1, q, RT t) (0, 0) Q := by
  have hn := gs.2.2.1
  intro d
  induction d with
  | zero =>
    intro k b i1 F hkk hf hV hc hb
    refine ex_iload dX7_close_19 rfl ?_
    refine ex_bipush (v := nI 75) dX7_close_21 (by decide) ?_
    refine ex_icmp_geN (tgt := 76) dX7_close_23 (by decide) (by omega) (by omega) (fun h23 => ?_) (fun h23 => by omega)
    refine ex_iincN (L' := [some (.ref (16)), some (.int (nI (s))), some (.int (nI (b))), some (.int (nI (rd + 1))), some (.int (nI (k))), none]) dX7_close_76 rfl rfl (by decide) rfl ?_
    refine ex_goto (tgt := 4) dX7_close_79 (by decide) ?_
    refine ex_less (L' := [some (.ref 16), some (.int (nI s)), some (.int (nI b)), some (.int (nI (rd + 1))), none, none]) (by simp [xSub]) (hk b i1 F hf hV hc ?_)
    rcases hb with ⟨e1, e2, e3⟩ | h
    · exact Or.inl ⟨e1, e2, fun it hi hp r hr hx => e3 it (by omega) hp r hr hx⟩
    · exact Or.inr h
  | succ d ih =>
    intro k b i1 F hkk hf hV hc hb
    have gs1 := gs.fr hf (by decide) (by decide)
    have sc1 := SC_Fr (by decide) hf sc
    have hk75 : k < 75 := by omega
    have hFb := hc.b (s * 75 + k) (by omega)
    by_cases hp : F (s * 75 + k) = 0
    · have hb2 : b = 0 ∧ F = F1 ∧ (∀ it, it < k + 1 → F (s * 75 + it) ≠ 0 → ∀ r, r < n → sy r 0 = bh sy it → F (s * 75 + r * 5) ≠ 0) ∨ b = 1 ∧ (∀ j, F1 j ≤ F j) ∧ sumN F1 3750 < sumN F 3750 := by
        rcases hb with ⟨e1, e2, e3⟩ | h
        · refine Or.inl ⟨e1, e2, fun it hi hpp r hr hx => ?_⟩
          by_cases e : it = k
          · subst e; exact absurd hp hpp
          · exact e3 it (by omega) hpp r hr hx
        · exact Or.inr h
      refine ex_iload dX7_close_19 rfl ?_
      refine ex_bipush (v := nI 75) dX7_close_21 (by decide) ?_
      refine ex_icmp_geN (tgt := 76) dX7_close_23 (by decide) (by omega) (by omega) (fun h23 => by omega) (fun h23 => ?_)
      refine ex_aload_n (i := 0) dX7_close_26 rfl rfl ?_
      refine ex_getR (v := .ref (21)) dX7_close_27 fl_States_32 rfl rfl (l56 (by decide)) rfl ?_
      refine ex_iload_n (i := 1) dX7_close_30 rfl rfl ?_
      refine ex_iload dX7_close_31 rfl ?_
      refine ex_cV (ν := m_Grid_get) (a := 21) (ci := 2) (as := [.int (nI (s)), .int (nI (k))]) dX7_close_33 ln_States_49 mf_Grid_get rfl (l56 (by decide)) rfl rfl np_Grid_get rfl rfl ⟨(Nat.le_of_ble_eq_true rfl), (Nat.le_of_ble_eq_true rfl), (Nat.le_of_ble_eq_true rfl), (Nat.le_of_ble_eq_true rfl)⟩ (by decide) ?_
      refine sp_Grid_get (r := 21) (c := 22) rfl rfl rfl (l56 (by decide)) (l56 (by decide)) (sc_21_0 sc1) (sc_21_1 sc1) rfl (by omega) (by omega) ?_
      refine ⟨_, rfl, ?_⟩
      refine ex_asN (a := F (s * 75 + k)) (hV _ (by omega)) ?_
      refine ex_if_eqN (tgt := 43) dX7_close_36 (by decide) (by omega) (fun h36 => ?_) (fun h36 => by exact absurd hp h36)
      refine ex_iconst (v := nI 0) dX7_close_43 (by decide) ?_
      refine ex_istore (L' := [some (.ref (16)), some (.int (nI (s))), some (.int (nI (b))), some (.int (nI (rd))), some (.int (nI (k))), some (.int (nI (0)))]) dX7_close_44 (by decide) rfl ?_
      refine ex_iload dX7_close_46 rfl ?_
      refine ex_if_eqN (tgt := 70) dX7_close_48 (by decide) (by omega) (fun h48 => ?_) (fun h48 => by exact absurd h48 (by decide))
      refine ex_iincN (L' := [some (.ref (16)), some (.int (nI (s))), some (.int (nI (b))), some (.int (nI (rd))), some (.int (nI (k + 1))), some (.int (nI (0)))]) dX7_close_70 rfl rfl (by decide) rfl ?_
      refine ex_goto (tgt := 19) dX7_close_73 (by decide) ?_
      refine ex_less (L' := [some (.ref 16), some (.int (nI s)), some (.int (nI b)), some (.int (nI rd)), some (.int (nI (k + 1))), none]) (by simp [xSub]) (ih (k + 1) b i1 F (by omega) hf hV hc hb2)
    · have hc2 := cI_gv hc hn hk75 hp
      have hbl := bh_le gs.2.2 hk75
      have hF1F : ∀ j, F1 j ≤ F j := by
        rcases hb with ⟨_, e2, _⟩ | ⟨_, h, _⟩
        · intro j; rw [e2]; exact Nat.le_refl _
        · exact h
      have hsF : sumN F1 3750 ≤ sumN F 3750 := sumN_mono (fun j _ => hF1F j)
      refine ex_iload dX7_close_19 rfl ?_
      refine ex_bipush (v := nI 75) dX7_close_21 (by decide) ?_
      refine ex_icmp_geN (tgt := 76) dX7_close_23 (by decide) (by omega) (by omega) (fun h23 => by omega) (fun h23 => ?_)
      refine ex_aload_n (i := 0) dX7_close_26 rfl rfl ?_
      refine ex_getR (v := .ref (21)) dX7_close_27 fl_States_32 rfl rfl (l56 (by decide)) rfl ?_
      refine ex_iload_n (i := 1) dX7_close_30 rfl rfl ?_
      refine ex_iload dX7_close_31 rfl ?_
      refine ex_cV (ν := m_Grid_get) (a := 21) (ci := 2) (as := [.int (nI (s)), .int (nI (k))]) dX7_close_33 ln_States_49 mf_Grid_get rfl (l56 (by decide)) rfl rfl np_Grid_get rfl rfl ⟨(Nat.le_of_ble_eq_true rfl), (Nat.le_of_ble_eq_true rfl), (Nat.le_of_ble_eq_true rfl), (Nat.le_of_ble_eq_true rfl)⟩ (by decide) ?_
      refine sp_Grid_get (r := 21) (c := 22) rfl rfl rfl (l56 (by decide)) (l56 (by decide)) (sc_21_0 sc1) (sc_21_1 sc1) rfl (by omega) (by omega) ?_
      refine ⟨_, rfl, ?_⟩
      refine ex_asN (a := F (s * 75 + k)) (hV _ (by omega)) ?_
      refine ex_if_eqN (tgt := 43) dX7_close_36 (by decide) (by omega) (fun h36 => by exact absurd h36 hp) (fun h36 => ?_)
      refine ex_iconst (v := nI 1) dX7_close_39 (by decide) ?_
      refine ex_goto (tgt := 44) dX7_close_40 (by decide) ?_
      refine ex_istore (L' := [some (.ref (16)), some (.int (nI (s))), some (.int (nI (b))), some (.int (nI (rd))), some (.int (nI (k))), some (.int (nI (1)))]) dX7_close_44 (by decide) rfl ?_
      refine ex_iload dX7_close_46 rfl ?_
      refine ex_if_eqN (tgt := 70) dX7_close_48 (by decide) (by omega) (fun h48 => by exact absurd h48 (by decide)) (fun h48 => ?_)
      refine ex_aload_n (i := 0) dX7_close_51 rfl rfl ?_
      refine ex_aload_n (i := 0) dX7_close_52 rfl rfl ?_
      refine ex_iload dX7_close_53 rfl ?_
      refine ex_cV (ν := m_States_symbolBehindDot) (a := 16) (ci := 7) (as := [.int (nI (k))]) dX7_close_55 ln_States_89 mf_States_symbolBehindDot rfl (l56 (by decide)) rfl rfl np_States_symbolBehindDot rfl rfl ⟨(Nat.le_of_ble_eq_true rfl), (Nat.le_of_ble_eq_true rfl), (Nat.le_of_ble_eq_true rfl), (Nat.le_of_ble_eq_true rfl)⟩ (by decide) ?_
      refine sp_States_symbolBehindDot sc1 gs1 hk75 ?_
      refine ⟨_, rfl, ?_⟩
      refine ex_iload_n (i := 1) dX7_close_58 rfl rfl ?_
      refine ex_sipush (v := nI 128) dX7_close_59 (by decide) ?_
      refine ex_cV (ν := m_States_giveToRulesOf) (a := 16) (ci := 7) (as := [.int (nI (bh sy k)), .int (nI (s)), .int (nI (128))]) dX7_close_62 ln_States_99 mf_States_giveToRulesOf rfl (l56 (by decide)) rfl rfl np_States_giveToRulesOf rfl rfl ⟨(Nat.le_of_ble_eq_true rfl), (Nat.le_of_ble_eq_true rfl), (Nat.le_of_ble_eq_true rfl), (Nat.le_of_ble_eq_true rfl)⟩ (by decide) ?_
      refine sp_States_giveToRulesOf sc1 gs1 (by omega) hs (by decide) hV hc.b (fun b2 i2 hf2 hV2 hg2 => ?_)
      refine ⟨_, rfl, ?_⟩
      have hb2 := hg2.b
      refine ex_if_eqN (tgt := 70) dX7_close_65 (by decide) (by omega) (fun h65 => ?_) (fun h65 => ?_)
      · refine ex_iincN (L' := [some (.ref (16)), some (.int (nI (s))), some (.int (nI (b))), some (.int (nI (rd))), some (.int (nI (k + 1))), some (.int (nI (1)))]) dX7_close_70 rfl rfl (by decide) rfl ?_
        refine ex_goto (tgt := 19) dX7_close_73 (by decide) ?_
        first
          | refine ex_less (L' := [some (.ref 16), some (.int (nI s)), some (.int (nI b)), some (.int (nI rd)), some (.int (nI (k + 1))), none]) (by simp [xSub]; done) (ih (k + 1) b i2 _ (by omega) (hf.tr hf2) hV2 hc2 ?_)
            rcases hg2 with ⟨_, e0⟩ | ⟨e1, _, _⟩
            · rw [e0]
              rcases hb with ⟨e1, e2, e3⟩ | h
              · refine Or.inl ⟨e1, e2, fun it hi hpp r hr hx => ?_⟩
                by_cases e : it = k
                · subst e
                  have h9 := gv_fix e0 hr hx
                  intro hz
                  rw [hz] at h9
                  exact absurd h9 (by decide)
                · exact e3 it (by omega) hpp r hr hx
              · exact Or.inr h
            · omega
          | refine ex_less (L' := [some (.ref 16), some (.int (nI s)), some (.int (nI 1)), some (.int (nI rd)), some (.int (nI (k + 1))), none]) (by simp [xSub]; done) (ih (k + 1) 1 i2 _ (by omega) (hf.tr hf2) hV2 hc2 ?_)
            rcases hg2 with ⟨e1, _⟩ | ⟨_, e2, e3⟩
            · omega
            · exact Or.inr ⟨rfl, fun j => Nat.le_trans (hF1F j) (e2 j), by omega⟩
      · refine ex_iconst (v := nI 1) dX7_close_68 (by decide) ?_
        refine ex_istore_n (L' := [some (.ref (16)), some (.int (nI (s))), some (.int (nI (1))), some (.int (nI (rd))), some (.int (nI (k))), some (.int (nI (1)))]) dX7_close_69 (i := 2) rfl (by decide) rfl ?_
        refine ex_iincN (L' := [some (.ref (16)), some (.int (nI (s))), some (.int (nI (1))), some (.int (nI (rd))), some (.int (nI (k + 1))), some (.int (nI (1)))]) dX7_close_70 rfl rfl (by decide) rfl ?_
        refine ex_goto (tgt := 19) dX7_close_73 (by decide) ?_
        first
          | refine ex_less (L' := [some (.ref 16), some (.int (nI s)), some (.int (nI b)), some (.int (nI rd)), some (.int (nI (k + 1))), none]) (by simp [xSub]; done) (ih (k + 1) b i2 _ (by omega) (hf.tr hf2) hV2 hc2 ?_)
            rcases hg2 with ⟨_, e0⟩ | ⟨e1, _, _⟩
            · rw [e0]
              rcases hb with ⟨e1, e2, e3⟩ | h
              · refine Or.inl ⟨e1, e2, fun it hi hpp r hr hx => ?_⟩
                by_cases e : it = k
                · subst e
                  have h9 := gv_fix e0 hr hx
                  intro hz
                  rw [hz] at h9
                  exact absurd h9 (by decide)
                · exact e3 it (by omega) hpp r hr hx
              · exact Or.inr h
            · omega
          | refine ex_less (L' := [some (.ref 16), some (.int (nI s)), some (.int (nI 1)), some (.int (nI rd)), some (.int (nI (k + 1))), none]) (by simp [xSub]; done) (ih (k + 1) 1 i2 _ (by omega) (hf.tr hf2) hV2 hc2 ?_)
            rcases hg2 with ⟨e1, _⟩ | ⟨_, e2, e3⟩
            · omega
            · exact Or.inr ⟨rfl, fun j => Nat.le_trans (hF1F j) (e2 j), by omega⟩
theorem sp_States_close {s : Nat} {F0 : Nat → Nat} (sc : SC i) (gs : GS i n sy) (hs : s < 50) (hV0 : Vw i 22 3750 F0) (hm0 : ∀ j, j < 3750 → F0 j < 256) (hm : ∀ it, it < 75 → F0 (s * 75 + it) = 0 ∨ F0 (s * 75 + it) = 128)
    (hQ : ∀ i1 F, Fr [22] i i1 → Vw i1 22 3750 F → (∀ j, j < 3750 → F j < 256 ∧ (s * 75 ≤ j → j < s * 75 + 75 → F j = 0 ∨ F j = 128)) → (∀ j, ¬ (s * 75 ≤ j ∧ j < s * 75 + 75) → F j = F0 j) → isCl n sy (fun it => F0 (s * 75 + it) ≠ 0) (fun it => F (s * 75 + it) ≠ 0) → Q (.ok none) (56 + ζ, g, i1, q, RT t)) :
    Wx m_States_close 0 [some (.ref 16), some (.int (nI s)), none, none, none, none] [] (56 + ζ, g, i, q, RT t) (0, 0) Q := by
  have loop : ∀ d rd b i1 F, rd + d = 1000000 → b < 2 → Fr [22] i i1 → Vw i1 22 3750 F → cI n sy s F0 F → (b = 0 → clS n sy (fun it => F (s * 75 + it) ≠ 0)) → (b = 1 → rd ≤ sumN F 3750) →
      Wx m_States_close 4 [some (.ref 16), some (.int (nI s)), some (.int (nI b)), some (.int (nI rd)), none, none] [] (56 + ζ, g, i1, q, RT t) (0, 0) Q := by
    intro d
    induction d with
    | zero =>
      intro rd b i1 F hrd hb2 hf hV hc h0 h1
      have hb0 : b = 0 := by
        by_cases e : b = 1
        · have h2 := h1 e
          have h3 := sumN_le (N := 3750) (F := F) (B := 255) (fun j hj => by have := hc.b j hj; omega)
          omega
        · omega
      refine ex_iload_n (i := 3) dX7_close_4 rfl rfl ?_
      refine ex_ldc (v := 1000000) dX7_close_5 ld_States_98 ?_
      refine ex_asN (a := 1000000) (by decide) ?_
      refine ex_icmp_geN (tgt := 82) dX7_close_7 (by decide) (by omega) (by omega) (fun h7 => ?_) (fun h7 => by omega)
      refine ex_ret dX7_close_82 rfl ?_
      exact hQ i1 F hf hV hc.1 hc.2.1 ⟨hc.2.2.1, h0 hb0, hc.2.2.2⟩
    | succ d ih =>
      intro rd b i1 F hrd hb2 hf hV hc h0 h1
      have gs1 := gs.fr hf (by decide) (by decide)
      have sc1 := SC_Fr (by decide) hf sc
      by_cases hb0 : b = 0
      ·
        refine ex_iload_n (i := 3) dX7_close_4 rfl rfl ?_
        refine ex_ldc (v := 1000000) dX7_close_5 ld_States_98 ?_
        refine ex_asN (a := 1000000) (by decide) ?_
        refine ex_icmp_geN (tgt := 82) dX7_close_7 (by decide) (by omega) (by omega) (fun h7 => by omega) (fun h7 => ?_)
        refine ex_iload_n (i := 2) dX7_close_10 rfl rfl ?_
        refine ex_if_eqN (tgt := 82) dX7_close_11 (by decide) (by omega) (fun h11 => ?_) (fun h11 => by exact absurd hb0 h11)
        refine ex_ret dX7_close_82 rfl ?_
        exact hQ i1 F hf hV hc.1 hc.2.1 ⟨hc.2.2.1, h0 hb0, hc.2.2.2⟩
      ·
        refine ex_iload_n (i := 3) dX7_close_4 rfl rfl ?_
        refine ex_ldc (v := 1000000) dX7_close_5 ld_States_98 ?_
        refine ex_asN (a := 1000000) (by decide) ?_
        refine ex_icmp_geN (tgt := 82) dX7_close_7 (by decide) (by omega) (by omega) (fun h7 => by omega) (fun h7 => ?_)
        refine ex_iload_n (i := 2) dX7_close_10 rfl rfl ?_
        refine ex_if_eqN (tgt := 82) dX7_close_11 (by decide) (by omega) (fun h11 => by exact absurd h11 hb0) (fun h11 => ?_)
        refine ex_iconst (v := nI 0) dX7_close_14 (by decide) ?_
        refine ex_istore_n (L' := [some (.ref (16)), some (.int (nI (s))), some (.int (nI (0))), some (.int (nI (rd))), none, none]) dX7_close_15 (i := 2) rfl (by decide) rfl ?_
        refine ex_iconst (v := nI 0) dX7_close_16 (by decide) ?_
        refine ex_istore (L' := [some (.ref (16)), some (.int (nI (s))), some (.int (nI (0))), some (.int (nI (rd))), some (.int (nI (0))), none]) dX7_close_17 (by decide) rfl ?_
        refine lp_States_close_in (e := none) sc1 gs1 hs (by omega) (F0 := F0) (F1 := F) (fun b2 i2 F2 hf2 hV2 hc2 hh => ?_) 75 0 0 i1 F (by omega) Fr.rf hV hc (Or.inl ⟨rfl, rfl, fun it hi => by omega⟩)
        refine ih (rd + 1) b2 i2 F2 (by omega) ?_ (hf.tr hf2) hV2 hc2 ?_ ?_
        · rcases hh with ⟨e, _⟩ | ⟨e, _⟩ <;> omega
        · intro e
          rcases hh with ⟨_, _, h⟩ | ⟨e2, _⟩
          · exact h
          · omega
        · intro e
          rcases hh with ⟨e2, _⟩ | ⟨_, _, h⟩
          · omega
          · have := h1 (by omega); omega
  have hc0 : cI n sy s F0 F0 := ⟨fun j hj => ⟨hm0 j hj, fun a1 a2 => by have := hm (j - s * 75) (by omega); rw [show s * 75 + (j - s * 75) = j by omega] at this; exact this⟩, fun _ _ => rfl, fun _ _ h => h, fun S hS _ it hi hp => hS it hi hp⟩
  refine ex_iconst (v := nI 1) dX7_close_0 (by decide) ?_
  refine ex_istore_n (L' := [some (.ref (16)), some (.int (nI (s))), some (.int (nI (1))), none, none, none]) dX7_close_1 (i := 2) rfl (by decide) rfl ?_
  refine ex_iconst (v := nI 0) dX7_close_2 (by decide) ?_
  refine ex_istore_n (L' := [some (.ref (16)), some (.int (nI (s))), some (.int (nI (1))), some (.int (nI (0))), none, none]) dX7_close_3 (i := 3) rfl (by decide) rfl ?_
  exact loop 1000000 0 1 i F0 (by omega) (by decide) Fr.rf hV0 hc0 (fun h => absurd h (by decide)) (fun _ => Nat.zero_le _)
end S19
