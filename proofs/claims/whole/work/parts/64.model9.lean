/-! ===== the reference: beginnings, first ===== -/
theorem ev_or (a b : Nat) : (a ||| b) / 2 * 2 = a / 2 * 2 ||| b / 2 * 2 := by
  apply Nat.eq_of_testBit_eq
  intro t
  rw [Bool.eq_iff_iff, tb_ev, Nat.testBit_or, Nat.testBit_or, Bool.or_eq_true, Bool.or_eq_true, tb_ev, tb_ev]
  exact ⟨fun h => h.2.imp (fun z => ⟨h.1, z⟩) (fun z => ⟨h.1, z⟩), fun h => h.elim (fun z => ⟨z.1, Or.inl z.2⟩) (fun z => ⟨z.1, Or.inr z.2⟩)⟩
theorem od_or (a b : Nat) : (a ||| b) % 2 = 1 ↔ a % 2 = 1 ∨ b % 2 = 1 := by
  rw [← tb0, ← tb0, ← tb0, Nat.testBit_or, Bool.or_eq_true]
theorem ev_ev (a : Nat) : a / 2 * 2 / 2 * 2 = a / 2 * 2 := by omega
theorem ff_z {f s : Nat → Nat} : ∀ {m k a : Nat}, (∀ j, k ≤ j → j < k + m → s j = 0) → ffN f s k m a = a
  | 0, _, _, _ => rfl
  | m + 1, k, a, h => by
    show (if a % 2 = 0 then a else ffN f s (k + 1) m (if s k = 0 then a else a / 2 * 2 ||| fsT f (s k))) = a
    split
    · rfl
    · rw [if_pos (h k (Nat.le_refl _) (by omega))]
      exact ff_z (fun j h1 h2 => h j (by omega) (by omega))
theorem sy_z {n : Nat} {sy : Nat → Nat → Nat} (gw : GW n sy) {r k : Nat} (hr : r < 15) (h : lnR sy r < k) (hk : k < 5) : sy r k = 0 := by
  have := bh_ge (it := r * 5 + (k - 1)) gw (by omega) (by rw [show (r * 5 + (k - 1)) / 5 = r by omega, show (r * 5 + (k - 1)) % 5 = k - 1 by omega]; omega)
  unfold bh at this
  rw [if_pos (by omega), show (r * 5 + (k - 1)) / 5 = r by omega, show (r * 5 + (k - 1)) % 5 + 1 = k by omega] at this
  exact this
/-- FIRST as the reference has it: begins and empty -/
def BG (i : Nat → Nat → Int32) (f : Nat → Nat) : Prop := ∀ s, s < 14 → i 69 s = nI (fsT f s / 2 * 2) ∧ i 68 s = nI (fsT f s % 2)
theorem BG.fm {i i' : Nat → Nat → Int32} {f : Nat → Nat} {l ks : List Nat} (h : BG i f) (hf : Fm l ks i i') (h1 : 68 ∉ l) (h2 : 69 ∉ l) : BG i' f := fun s hs => by
  rw [hf.1 69 h2 (by decide), hf.1 68 h1 (by decide)]; exact h s hs
section S64
variable {g : Nat} {i : Nat → Nat → Int32} {q : Nat → Nat → Int64} {t : Bool} {Q : xRes → xMem → Prop} {n : Nat} {sy : Nat → Nat → Nat} {op xp yp : Nat → Nat}
theorem fs0 {s : Nat} : fsT (fun _ => 0) s = if 1 ≤ s ∧ s ≤ 6 then 2 ^ s else 0 := rfl
theorem lp_Model_beginnings_in {f1 : Nat → Nat} (rg : RG i n sy)
    (hk : ∀ b i1 f, Fm [68, 69] [] i i1 → BG i1 f → leF n sy f → (∀ s, f s < 128) → (b = 0 ∧ f = f1 ∧ clF n sy f ∨ b = 1 ∧ sumN f1 14 < sumN f 14) → Wx m_Model_beginnings 43 [some (.ref 56), some (.int (nI b)), none, none, none, none, none] [] (94, g, i1, q, RT t) (0, 0) Q) :
    ∀ d r b i1 f, r + d = n → Fm [68, 69] [] i i1 → BG i1 f → leF n sy f → (∀ s, f s < 128) → (b = 0 ∧ f = f1 ∧ (∀ r', r' < r → sub (rhs sy f r') (f (sy r' 0))) ∨ b = 1 ∧ sumN f1 14 < sumN f 14) →
      Wx m_Model_beginnings 51 [some (.ref 56), some (.int (nI b)), some (.int (nI r)), none, none, none, none] [] (94, g, i1, q, RT t) (0, 0) Q := by
  have gw := rg.2.2.2.2
  have hn := gw.1
  intro d
  induction d with
  | zero =>
    intro r b i1 f hr hf hB hl hb hh
    have e : r = n := by omega
    subst e
    have rg1 := rg.fm hf (by decide) (by decide) (by decide) (by decide)
    refine ex_iload_n (i := 2) dX10_beginnings_51 rfl rfl ?_
    refine ex_aload_n (i := 0) dX10_beginnings_52 rfl rfl ?_
    refine ex_getI dX10_beginnings_53 fl_Model_145 rfl rfl (by decide) ?_
    refine ex_asN (a := r) rg1.1 ?_
    refine ex_icmp_geN (tgt := 207) dX10_beginnings_56 (by decide) (by omega) (by omega) (fun h56 => ?_) (fun h56 => by omega)
    refine ex_goto (tgt := 43) dX10_beginnings_207 (by decide) ?_
    exact ex_less (L' := [some (.ref 56), some (.int (nI b)), none, none, none, none, none]) (by simp [xSub]) (hk b i1 f hf hB hl hb hh)
  | succ d ih =>
    intro r b i1 f hr hf hB hl hb hh
    have rg1 := rg.fm hf (by decide) (by decide) (by decide) (by decide)
    have hrn : r < n := by omega
    have hlf := gw.2.2.1 r hrn
    have hln := lnR_le sy r
    have hfl : fsT f (sy r 0) = f (sy r 0) := by unfold fsT; rw [if_neg (by omega)]
    have B0 := (hB (sy r 0) (by omega)).1
    have E0 := (hB (sy r 0) (by omega)).2
    rw [hfl] at B0 E0
    have hb01 : b < 2 := by rcases hh with h | h <;> omega
    have hfb := hb (sy r 0)
    have hrb : rhs sy f r < 128 := ff_lt hb (by decide)
    -- the new state
    have T168 : ∀ b2 k, (b2 = 1 ∧ f (sy r 0) ||| rhs sy f r ≠ f (sy r 0) ∨ b2 = b ∧ f (sy r 0) ||| rhs sy f r = f (sy r 0)) → Wx m_Model_beginnings 168 [some (.ref 56), some (.int (nI b2)), some (.int (nI r)), some (.int (nI (sy r 0))), some (.int (nI (rhs sy f r % 2))), some (.int (nI (f (sy r 0) / 2 * 2 ||| rhs sy f r / 2 * 2))), some (.int (nI k))] [] (94, g, i1, q, RT t) (0, 0) Q := by
      intro b2 k hb2
      have NXT : ∀ z i2, z = (f (sy r 0) ||| rhs sy f r) % 2 → i2 = xU (xU i1 69 (sy r 0) (nI (f (sy r 0) / 2 * 2 ||| rhs sy f r / 2 * 2))) 68 (sy r 0) (nI z) → Wx m_Model_beginnings 51 [some (.ref 56), some (.int (nI b2)), some (.int (nI (r + 1))), none, none, none, none] [] (94, g, i2, q, RT t) (0, 0) Q := by
        intro z i2 hz hi2
        have hf2 : Fm [68, 69] [] i i2 := by rw [hi2]; exact (hf.U (by decide) (by decide)).U (by decide) (by decide)
        have hB2 : BG i2 (upN f (sy r 0) (f (sy r 0) ||| rhs sy f r)) := by
          intro s hs
          rw [hi2, xU_at, xU_ne _ _ _ (show (69 : Nat) ≠ 68 by decide), xU_at, xU_ne _ _ _ (show (68 : Nat) ≠ 69 by decide)]
          unfold upd
          by_cases e : s = sy r 0
          · rw [if_pos e, if_pos e, e]
            have : fsT (upN f (sy r 0) (f (sy r 0) ||| rhs sy f r)) (sy r 0) = f (sy r 0) ||| rhs sy f r := by unfold fsT; rw [if_neg (by omega), upN_at]
            rw [this, ev_or, hz]; exact ⟨rfl, rfl⟩
          · rw [if_neg e, if_neg e]
            have : fsT (upN f (sy r 0) (f (sy r 0) ||| rhs sy f r)) s = fsT f s := by unfold fsT; rw [upN_ne _ _ e]
            rw [this]; exact hB s hs
        refine ih (r + 1) b2 i2 _ (by omega) hf2 hB2 (leF_up hl hrn) (fun s => ?_) ?_
        · unfold upN; split
          · exact or_lt hfb hrb
          · exact hb s
        · rcases hb2 with ⟨e1, e2⟩ | ⟨e1, e2⟩
          · refine Or.inr ⟨e1, ?_⟩
            have hlt : sumN f 14 < sumN (upN f (sy r 0) (f (sy r 0) ||| rhs sy f r)) 14 := by
              refine sumN_lt (k := sy r 0) (fun j hj => ?_) (by omega) ?_
              · unfold upN; split
                · rename_i e; rw [e]; exact or_ge
                · exact Nat.le_refl _
              · rw [upN_at]; exact Nat.lt_of_le_of_ne or_ge (fun z => e2 z.symm)
            rcases hh with h | h
            · rw [← h.2.1]; exact hlt
            · omega
          · have hsame : upN f (sy r 0) (f (sy r 0) ||| rhs sy f r) = f := by
              funext s; unfold upN; split
              · rename_i e; rw [e, e2]
              · rfl
            rw [hsame, e1]
            rcases hh with h | h
            · refine Or.inl ⟨h.1, h.2.1, fun r' hr' => ?_⟩
              by_cases e : r' = r
              · rw [e]; exact sub_of_or e2
              · exact h.2.2 r' (by omega)
            · exact Or.inr h
      have E0' : xU i1 69 (sy r 0) (nI (f (sy r 0) / 2 * 2 ||| rhs sy f r / 2 * 2)) 68 (sy r 0) = nI (f (sy r 0) % 2) := by rw [xU_ne _ _ _ (show (68 : Nat) ≠ 69 by decide)]; exact E0
      have hod := od_or (f (sy r 0)) (rhs sy f r)
      refine ex_aload_n (i := 0) dX10_beginnings_168 rfl rfl ?_
      refine ex_getR (v := .ref (69)) dX10_beginnings_169 fl_Model_47 rfl rfl (by decide) rfl ?_
      refine ex_iload_n (i := 3) dX10_beginnings_172 rfl rfl ?_
      refine ex_iload dX10_beginnings_173 rfl ?_
      refine ex_iastN dX10_beginnings_175 rfl (by decide) (by omega) ?_
      refine ex_aload_n (i := 0) dX10_beginnings_176 rfl rfl ?_
      refine ex_getR (v := .ref (68)) dX10_beginnings_177 fl_Model_44 rfl rfl (by decide) rfl ?_
      refine ex_iload_n (i := 3) dX10_beginnings_180 rfl rfl ?_
      refine ex_aload_n (i := 0) dX10_beginnings_181 rfl rfl ?_
      refine ex_getR (v := .ref (68)) dX10_beginnings_182 fl_Model_44 rfl rfl (by decide) rfl ?_
      refine ex_iload_n (i := 3) dX10_beginnings_185 rfl rfl ?_
      refine ex_baldN dX10_beginnings_186 rfl (by decide) (by omega) rfl ?_
      refine ex_asN (a := f (sy r 0) % 2) E0 ?_
      refine ex_if_neN (tgt := 195) dX10_beginnings_187 (by decide) (by omega) (fun h187 => ?_) (fun h187 => ?_)
      · refine ex_iconst (v := nI 1) dX10_beginnings_195 (by decide) ?_
        refine ex_goto (tgt := 200) dX10_beginnings_196 (by decide) ?_
        refine ex_bastN dX10_beginnings_200 rfl (by decide) (by decide) (by omega) ?_
        refine ex_iincN (L' := [some (.ref (56)), some (.int (nI (b2))), some (.int (nI (r + 1))), some (.int (nI (sy r 0))), some (.int (nI (rhs sy f r % 2))), some (.int (nI (f (sy r 0) / 2 * 2 ||| rhs sy f r / 2 * 2))), some (.int (nI (k)))]) dX10_beginnings_201 rfl rfl (by decide) rfl ?_
        refine ex_goto (tgt := 51) dX10_beginnings_204 (by decide) ?_
        refine ex_less (L' := [some (.ref 56), some (.int (nI b2)), some (.int (nI (r + 1))), none, none, none, none]) (by simp [xSub]) (NXT _ _ ?_ rfl)
        first | omega | (simp only [xU] at *; omega)
      · refine ex_iload dX10_beginnings_190 rfl ?_
        refine ex_if_eqN (tgt := 199) dX10_beginnings_192 (by decide) (by omega) (fun h192 => ?_) (fun h192 => ?_)
        · refine ex_iconst (v := nI 0) dX10_beginnings_199 (by decide) ?_
          refine ex_bastN dX10_beginnings_200 rfl (by decide) (by decide) (by omega) ?_
          refine ex_iincN (L' := [some (.ref (56)), some (.int (nI (b2))), some (.int (nI (r + 1))), some (.int (nI (sy r 0))), some (.int (nI (rhs sy f r % 2))), some (.int (nI (f (sy r 0) / 2 * 2 ||| rhs sy f r / 2 * 2))), some (.int (nI (k)))]) dX10_beginnings_201 rfl rfl (by decide) rfl ?_
          refine ex_goto (tgt := 51) dX10_beginnings_204 (by decide) ?_
          refine ex_less (L' := [some (.ref 56), some (.int (nI b2)), some (.int (nI (r + 1))), none, none, none, none]) (by simp [xSub]) (NXT _ _ ?_ rfl)
          first | omega | (simp only [xU] at *; omega)
        · refine ex_iconst (v := nI 1) dX10_beginnings_195 (by decide) ?_
          refine ex_goto (tgt := 200) dX10_beginnings_196 (by decide) ?_
          refine ex_bastN dX10_beginnings_200 rfl (by decide) (by decide) (by omega) ?_
          refine ex_iincN (L' := [some (.ref (56)), some (.int (nI (b2))), some (.int (nI (r + 1))), some (.int (nI (sy r 0))), some (.int (nI (rhs sy f r % 2))), some (.int (nI (f (sy r 0) / 2 * 2 ||| rhs sy f r / 2 * 2))), some (.int (nI (k)))]) dX10_beginnings_201 rfl rfl (by decide) rfl ?_
          refine ex_goto (tgt := 51) dX10_beginnings_204 (by decide) ?_
          refine ex_less (L' := [some (.ref 56), some (.int (nI b2)), some (.int (nI (r + 1))), none, none, none, none]) (by simp [xSub]) (NXT _ _ ?_ rfl)
          first | omega | (simp only [xU] at *; omega)
    have T141 : ∀ k, Wx m_Model_beginnings 141 [some (.ref 56), some (.int (nI b)), some (.int (nI r)), some (.int (nI (sy r 0))), some (.int (nI (rhs sy f r % 2))), some (.int (nI (f (sy r 0) / 2 * 2 ||| rhs sy f r / 2 * 2))), some (.int (nI k))] [] (94, g, i1, q, RT t) (0, 0) Q := by
      intro k
      have hor : f (sy r 0) / 2 * 2 ||| rhs sy f r / 2 * 2 < 2 ^ 31 := Nat.lt_trans (or_lt (a := f (sy r 0) / 2 * 2) (b := rhs sy f r / 2 * 2) (by omega) (by omega)) (by decide)
      have hev := ev_or (f (sy r 0)) (rhs sy f r)
      have hod := od_or (f (sy r 0)) (rhs sy f r)
      refine ex_iload dX10_beginnings_141 rfl ?_
      refine ex_aload_n (i := 0) dX10_beginnings_143 rfl rfl ?_
      refine ex_getR (v := .ref (69)) dX10_beginnings_144 fl_Model_47 rfl rfl (by decide) rfl ?_
      refine ex_iload_n (i := 3) dX10_beginnings_147 rfl rfl ?_
      refine ex_ialdN dX10_beginnings_148 rfl (by decide) (by omega) rfl ?_
      refine ex_asN (a := f (sy r 0) / 2 * 2) B0 ?_
      refine ex_icmp_neN (tgt := 166) dX10_beginnings_149 (by decide) (by omega) (by omega) (fun h149 => ?_) (fun h149 => ?_)
      · refine ex_iconst (v := nI 1) dX10_beginnings_166 (by decide) ?_
        refine ex_istore_n (L' := [some (.ref (56)), some (.int (nI (1))), some (.int (nI (r))), some (.int (nI (sy r 0))), some (.int (nI (rhs sy f r % 2))), some (.int (nI (f (sy r 0) / 2 * 2 ||| rhs sy f r / 2 * 2))), some (.int (nI (k)))]) dX10_beginnings_167 (i := 1) rfl (by decide) rfl ?_
        first | exact T168 1 k (Or.inl ⟨rfl, fun z => by rw [z] at hev hod; omega⟩) | exact T168 b k (Or.inr ⟨rfl, by omega⟩)
      · refine ex_iload dX10_beginnings_152 rfl ?_
        refine ex_if_eqN (tgt := 168) dX10_beginnings_154 (by decide) (by omega) (fun h154 => ?_) (fun h154 => ?_)
        · first | exact T168 1 k (Or.inl ⟨rfl, fun z => by rw [z] at hev hod; omega⟩) | exact T168 b k (Or.inr ⟨rfl, by omega⟩)
        · refine ex_aload_n (i := 0) dX10_beginnings_157 rfl rfl ?_
          refine ex_getR (v := .ref (68)) dX10_beginnings_158 fl_Model_44 rfl rfl (by decide) rfl ?_
          refine ex_iload_n (i := 3) dX10_beginnings_161 rfl rfl ?_
          refine ex_baldN dX10_beginnings_162 rfl (by decide) (by omega) rfl ?_
          refine ex_asN (a := f (sy r 0) % 2) E0 ?_
          refine ex_if_neN (tgt := 168) dX10_beginnings_163 (by decide) (by omega) (fun h163 => ?_) (fun h163 => ?_)
          · first | exact T168 1 k (Or.inl ⟨rfl, fun z => by rw [z] at hev hod; omega⟩) | exact T168 b k (Or.inr ⟨rfl, by omega⟩)
          · refine ex_iconst (v := nI 1) dX10_beginnings_166 (by decide) ?_
            refine ex_istore_n (L' := [some (.ref (56)), some (.int (nI (1))), some (.int (nI (r))), some (.int (nI (sy r 0))), some (.int (nI (rhs sy f r % 2))), some (.int (nI (f (sy r 0) / 2 * 2 ||| rhs sy f r / 2 * 2))), some (.int (nI (k)))]) dX10_beginnings_167 (i := 1) rfl (by decide) rfl ?_
            first | exact T168 1 k (Or.inl ⟨rfl, fun z => by rw [z] at hev hod; omega⟩) | exact T168 b k (Or.inr ⟨rfl, by omega⟩)
    have IN : ∀ d k s, k + d = 4 → s < 128 → ffN f (sy r) (k + 1) (4 - k) s = rhs sy f r → k ≤ lnR sy r → Wx m_Model_beginnings 80 [some (.ref 56), some (.int (nI b)), some (.int (nI r)), some (.int (nI (sy r 0))), some (.int (nI (s % 2))), some (.int (nI (f (sy r 0) / 2 * 2 ||| s / 2 * 2))), some (.int (nI k))] [] (94, g, i1, q, RT t) (0, 0) Q := by
      intro d
      induction d with
      | zero =>
        intro k s hk hs hff hkl
        have e : k = 4 := hk
        subst e
        have hs2 : s = rhs sy f r := hff
        have hl4 : lnR sy r = 4 := by omega
        have T := T141 4
        rw [← hs2] at T
        refine ex_iload dX10_beginnings_80 rfl ?_
        refine ex_aload_n (i := 0) dX10_beginnings_82 rfl rfl ?_
        refine ex_getR (v := .ref (59)) dX10_beginnings_83 fl_Model_16 rfl rfl (by decide) rfl ?_
        refine ex_iload_n (i := 2) dX10_beginnings_86 rfl rfl ?_
        refine ex_ialdN dX10_beginnings_87 rfl (by decide) (by omega) rfl ?_
        refine ex_asN (a := lnR sy r) (rg1.2.2.2.1 r hrn) ?_
        refine ex_icmp_geN (tgt := 141) dX10_beginnings_88 (by decide) (by omega) (by omega) (fun h88 => ?_) (fun h88 => by omega)
        exact T
      | succ d ih2 =>
        intro k s hk hs hff hkl
        have e59 := rg1.2.2.2.1 r hrn
        by_cases c1 : k = lnR sy r
        · have hs2 : s = rhs sy f r := by
            rw [← hff]
            exact (ff_z (fun j h1 h2 => sy_z gw (by omega) (by omega) (by omega))).symm
          have T := T141 k
          rw [← hs2] at T
          refine ex_iload dX10_beginnings_80 rfl ?_
          refine ex_aload_n (i := 0) dX10_beginnings_82 rfl rfl ?_
          refine ex_getR (v := .ref (59)) dX10_beginnings_83 fl_Model_16 rfl rfl (by decide) rfl ?_
          refine ex_iload_n (i := 2) dX10_beginnings_86 rfl rfl ?_
          refine ex_ialdN dX10_beginnings_87 rfl (by decide) (by omega) rfl ?_
          refine ex_asN (a := lnR sy r) e59 ?_
          refine ex_icmp_geN (tgt := 141) dX10_beginnings_88 (by decide) (by omega) (by omega) (fun h88 => ?_) (fun h88 => by omega)
          exact T
        · have hm : 4 - k = (3 - k) + 1 := by omega
          by_cases c2 : s % 2 = 0
          · have hs2 : s = rhs sy f r := by
              rw [← hff, hm]
              show s = (if s % 2 = 0 then s else _)
              rw [if_pos c2]
            have T := T141 k
            rw [← hs2] at T
            refine ex_iload dX10_beginnings_80 rfl ?_
            refine ex_aload_n (i := 0) dX10_beginnings_82 rfl rfl ?_
            refine ex_getR (v := .ref (59)) dX10_beginnings_83 fl_Model_16 rfl rfl (by decide) rfl ?_
            refine ex_iload_n (i := 2) dX10_beginnings_86 rfl rfl ?_
            refine ex_ialdN dX10_beginnings_87 rfl (by decide) (by omega) rfl ?_
            refine ex_asN (a := lnR sy r) e59 ?_
            refine ex_icmp_geN (tgt := 141) dX10_beginnings_88 (by decide) (by omega) (by omega) (fun h88 => by omega) (fun h88 => ?_)
            refine ex_iload dX10_beginnings_91 rfl ?_
            refine ex_if_eqN (tgt := 141) dX10_beginnings_93 (by decide) (by omega) (fun h93 => ?_) (fun h93 => by omega)
            exact T
          · have hsk : 0 < sy r (k + 1) := lnR_nz (by omega) (by omega)
            have hs13 := gw.le (r := r) (k := k + 1) (by omega) (by omega)
            have hs7 := gw.ne7 (r := r) (k := k + 1) (by omega) (by omega)
            have hF := fsT_lt (f := f) (s := sy r (k + 1)) hb
            have IH := ih2 (k + 1) (s / 2 * 2 ||| fsT f (sy r (k + 1))) (by omega) (or_lt (by omega) hF) (by
              rw [← hff, hm]
              show _ = (if s % 2 = 0 then s else ffN f (sy r) (k + 1 + 1) (3 - k) (if sy r (k + 1) = 0 then s else s / 2 * 2 ||| fsT f (sy r (k + 1))))
              rw [if_neg c2, if_neg (by omega)]
              congr 1; omega) (by omega)
            have e1 : (s / 2 * 2 ||| fsT f (sy r (k + 1))) % 2 = fsT f (sy r (k + 1)) % 2 := by
              have := od_or (s / 2 * 2) (fsT f (sy r (k + 1))); omega
            have e2 : f (sy r 0) / 2 * 2 ||| (s / 2 * 2 ||| fsT f (sy r (k + 1))) / 2 * 2 = (f (sy r 0) / 2 * 2 ||| s / 2 * 2) ||| (fsT f (sy r (k + 1)) / 2 * 2) := by
              rw [ev_or, ev_ev, Nat.or_assoc]
            rw [e1, e2] at IH
            refine ex_iload dX10_beginnings_80 rfl ?_
            refine ex_aload_n (i := 0) dX10_beginnings_82 rfl rfl ?_
            refine ex_getR (v := .ref (59)) dX10_beginnings_83 fl_Model_16 rfl rfl (by decide) rfl ?_
            refine ex_iload_n (i := 2) dX10_beginnings_86 rfl rfl ?_
            refine ex_ialdN dX10_beginnings_87 rfl (by decide) (by omega) rfl ?_
            refine ex_asN (a := lnR sy r) e59 ?_
            refine ex_icmp_geN (tgt := 141) dX10_beginnings_88 (by decide) (by omega) (by omega) (fun h88 => by omega) (fun h88 => ?_)
            refine ex_iload dX10_beginnings_91 rfl ?_
            refine ex_if_eqN (tgt := 141) dX10_beginnings_93 (by decide) (by omega) (fun h93 => by omega) (fun h93 => ?_)
            refine ex_iload dX10_beginnings_96 rfl ?_
            refine ex_aload_n (i := 0) dX10_beginnings_98 rfl rfl ?_
            refine ex_getR (v := .ref (69)) dX10_beginnings_99 fl_Model_47 rfl rfl (by decide) rfl ?_
            refine ex_aload_n (i := 0) dX10_beginnings_102 rfl rfl ?_
            refine ex_getR (v := .ref (58)) dX10_beginnings_103 fl_Model_13 rfl rfl (by decide) rfl ?_
            refine ex_iconst (v := nI 4) dX10_beginnings_106 (by decide) ?_
            refine ex_iload_n (i := 2) dX10_beginnings_107 rfl rfl ?_
            refine ex_imulN dX10_beginnings_108 ?_
            refine ex_iload dX10_beginnings_109 rfl ?_
            refine ex_iaddN dX10_beginnings_111 ?_
            refine ex_ialdN dX10_beginnings_112 rfl (by decide) (by omega) rfl ?_
            refine ex_asN (a := sy r (k + 1)) (rg1.2.2.1 r k hrn (by omega)) ?_
            refine ex_ialdN dX10_beginnings_113 rfl (by decide) (by omega) rfl ?_
            refine ex_asN (a := fsT f (sy r (k + 1)) / 2 * 2) (hB (sy r (k + 1)) (by omega)).1 ?_
            refine ex_iorN dX10_beginnings_114 ?_
            refine ex_istore (L' := [some (.ref (56)), some (.int (nI (b))), some (.int (nI (r))), some (.int (nI (sy r 0))), some (.int (nI (s % 2))), some (.int (nI ((f (sy r 0) / 2 * 2 ||| s / 2 * 2) ||| (fsT f (sy r (k + 1)) / 2 * 2)))), some (.int (nI (k)))]) dX10_beginnings_115 (by decide) rfl ?_
            refine ex_aload_n (i := 0) dX10_beginnings_117 rfl rfl ?_
            refine ex_getR (v := .ref (68)) dX10_beginnings_118 fl_Model_44 rfl rfl (by decide) rfl ?_
            refine ex_aload_n (i := 0) dX10_beginnings_121 rfl rfl ?_
            refine ex_getR (v := .ref (58)) dX10_beginnings_122 fl_Model_13 rfl rfl (by decide) rfl ?_
            refine ex_iconst (v := nI 4) dX10_beginnings_125 (by decide) ?_
            refine ex_iload_n (i := 2) dX10_beginnings_126 rfl rfl ?_
            refine ex_imulN dX10_beginnings_127 ?_
            refine ex_iload dX10_beginnings_128 rfl ?_
            refine ex_iaddN dX10_beginnings_130 ?_
            refine ex_ialdN dX10_beginnings_131 rfl (by decide) (by omega) rfl ?_
            refine ex_asN (a := sy r (k + 1)) (rg1.2.2.1 r k hrn (by omega)) ?_
            refine ex_baldN dX10_beginnings_132 rfl (by decide) (by omega) rfl ?_
            refine ex_asN (a := fsT f (sy r (k + 1)) % 2) (hB (sy r (k + 1)) (by omega)).2 ?_
            refine ex_istore (L' := [some (.ref (56)), some (.int (nI (b))), some (.int (nI (r))), some (.int (nI (sy r 0))), some (.int (nI (fsT f (sy r (k + 1)) % 2))), some (.int (nI ((f (sy r 0) / 2 * 2 ||| s / 2 * 2) ||| (fsT f (sy r (k + 1)) / 2 * 2)))), some (.int (nI (k)))]) dX10_beginnings_133 (by decide) rfl ?_
            refine ex_iincN (L' := [some (.ref (56)), some (.int (nI (b))), some (.int (nI (r))), some (.int (nI (sy r 0))), some (.int (nI (fsT f (sy r (k + 1)) % 2))), some (.int (nI ((f (sy r 0) / 2 * 2 ||| s / 2 * 2) ||| (fsT f (sy r (k + 1)) / 2 * 2)))), some (.int (nI (k + 1)))]) dX10_beginnings_135 rfl rfl (by decide) rfl ?_
            refine ex_goto (tgt := 80) dX10_beginnings_138 (by decide) ?_
            exact IH
    have IN0 := IN 4 0 1 rfl (by decide) rfl (Nat.zero_le _)
    rw [show f (sy r 0) / 2 * 2 ||| 1 / 2 * 2 = f (sy r 0) / 2 * 2 from by rw [show 1 / 2 * 2 = 0 from rfl, Nat.or_zero]] at IN0
    refine ex_iload_n (i := 2) dX10_beginnings_51 rfl rfl ?_
    refine ex_aload_n (i := 0) dX10_beginnings_52 rfl rfl ?_
    refine ex_getI dX10_beginnings_53 fl_Model_145 rfl rfl (by decide) ?_
    refine ex_asN (a := n) rg1.1 ?_
    refine ex_icmp_geN (tgt := 207) dX10_beginnings_56 (by decide) (by omega) (by omega) (fun h56 => by omega) (fun h56 => ?_)
    refine ex_aload_n (i := 0) dX10_beginnings_59 rfl rfl ?_
    refine ex_getR (v := .ref (57)) dX10_beginnings_60 fl_Model_7 rfl rfl (by decide) rfl ?_
    refine ex_iload_n (i := 2) dX10_beginnings_63 rfl rfl ?_
    refine ex_ialdN dX10_beginnings_64 rfl (by decide) (by omega) rfl ?_
    refine ex_asN (a := sy r 0) (rg1.2.1 r hrn) ?_
    refine ex_istore_n (L' := [some (.ref (56)), some (.int (nI (b))), some (.int (nI (r))), some (.int (nI (sy r 0))), none, none, none]) dX10_beginnings_65 (i := 3) rfl (by decide) rfl ?_
    refine ex_iconst (v := nI 1) dX10_beginnings_66 (by decide) ?_
    refine ex_istore (L' := [some (.ref (56)), some (.int (nI (b))), some (.int (nI (r))), some (.int (nI (sy r 0))), some (.int (nI (1))), none, none]) dX10_beginnings_67 (by decide) rfl ?_
    refine ex_aload_n (i := 0) dX10_beginnings_69 rfl rfl ?_
    refine ex_getR (v := .ref (69)) dX10_beginnings_70 fl_Model_47 rfl rfl (by decide) rfl ?_
    refine ex_iload_n (i := 3) dX10_beginnings_73 rfl rfl ?_
    refine ex_ialdN dX10_beginnings_74 rfl (by decide) (by omega) rfl ?_
    refine ex_asN (a := f (sy r 0) / 2 * 2) B0 ?_
    refine ex_istore (L' := [some (.ref (56)), some (.int (nI (b))), some (.int (nI (r))), some (.int (nI (sy r 0))), some (.int (nI (1))), some (.int (nI (f (sy r 0) / 2 * 2))), none]) dX10_beginnings_75 (by decide) rfl ?_
    refine ex_iconst (v := nI 0) dX10_beginnings_77 (by decide) ?_
    refine ex_istore (L' := [some (.ref (56)), some (.int (nI (b))), some (.int (nI (r))), some (.int (nI (sy r 0))), some (.int (nI (1))), some (.int (nI (f (sy r 0) / 2 * 2))), some (.int (nI (0)))]) dX10_beginnings_78 (by decide) rfl ?_
    exact IN0
theorem sp_Model_beginnings (rg : RG i n sy) (hQ : ∀ i1 f, Fm [68, 69] [] i i1 → BG i1 f → isF n sy f → Q (.ok none) (94, g, i1, q, RT t)) : Wx m_Model_beginnings 0 [some (.ref 56), none, none, none, none, none, none] [] (94, g, i, q, RT t) (0, 0) Q := by
  have EXIT : ∀ i1 f, Fm [68, 69] [] i i1 → BG i1 f → isF n sy f → Wx m_Model_beginnings 43 [some (.ref 56), some (.int (nI 0)), none, none, none, none, none] [] (94, g, i1, q, RT t) (0, 0) Q := by
    intro i1 f h1 h2 h3
    refine ex_iload_n (i := 1) dX10_beginnings_43 rfl rfl ?_
    refine ex_if_eqN (tgt := 210) dX10_beginnings_44 (by decide) (by omega) (fun h44 => ?_) (fun h44 => by exact absurd h44 (by decide))
    refine ex_ret dX10_beginnings_210 rfl ?_
    exact hQ i1 f h1 h2 h3
  have OUT : ∀ m i1 f, 14 * 128 < sumN f 14 + m → Fm [68, 69] [] i i1 → BG i1 f → leF n sy f → (∀ s, f s < 128) → Wx m_Model_beginnings 43 [some (.ref 56), some (.int (nI 1)), none, none, none, none, none] [] (94, g, i1, q, RT t) (0, 0) Q := by
    intro m
    induction m with
    | zero =>
      intro i1 f hm _ _ _ hb
      have := sumN_le (F := f) (B := 128) (N := 14) (fun j _ => Nat.le_of_lt (hb j))
      omega
    | succ m ih =>
      intro i1 f hm hf hB hl hb
      have RL := lp_Model_beginnings_in (f1 := f) (g := g) (q := q) (t := t) (Q := Q) rg (fun b i2 f2 a1 a2 a3 a4 a5 => by
        rcases a5 with ⟨rfl, rfl, hc⟩ | ⟨rfl, hlt⟩
        · exact EXIT i2 _ a1 a2 ⟨hc, a3, a4⟩
        · exact ih i2 f2 (by omega) a1 a2 a3 a4) n 0 0 i1 f (by omega) hf hB hl hb (Or.inl ⟨rfl, rfl, fun r' h => by omega⟩)
      refine ex_iload_n (i := 1) dX10_beginnings_43 rfl rfl ?_
      refine ex_if_eqN (tgt := 210) dX10_beginnings_44 (by decide) (by omega) (fun h44 => by exact absurd h44 (by decide)) (fun h44 => ?_)
      refine ex_iconst (v := nI 0) dX10_beginnings_47 (by decide) ?_
      refine ex_istore_n (L' := [some (.ref (56)), some (.int (nI (0))), none, none, none, none, none]) dX10_beginnings_48 (i := 1) rfl (by decide) rfl ?_
      refine ex_iconst (v := nI 0) dX10_beginnings_49 (by decide) ?_
      refine ex_istore_n (L' := [some (.ref (56)), some (.int (nI (0))), some (.int (nI (0))), none, none, none, none]) dX10_beginnings_50 (i := 2) rfl (by decide) rfl ?_
      exact RL
  have INIT : ∀ d k i1, k + d = 14 → Fm [68, 69] [] i i1 → (∀ s, s < k → i1 69 s = nI (fsT (fun _ => 0) s / 2 * 2) ∧ i1 68 s = nI (fsT (fun _ => 0) s % 2)) → Wx m_Model_beginnings 2 [some (.ref 56), some (.int (nI k)), none, none, none, none, none] [] (94, g, i1, q, RT t) (0, 0) Q := by
    intro d
    induction d with
    | zero =>
      intro k i1 hk hf h
      have e : k = 14 := hk
      subst e
      refine ex_iload_n (i := 1) dX10_beginnings_2 rfl rfl ?_
      refine ex_bipush (v := nI 14) dX10_beginnings_3 (by decide) ?_
      refine ex_icmp_geN (tgt := 41) dX10_beginnings_5 (by decide) (by decide) (by decide) (fun h5 => ?_) (fun h5 => by exact absurd h5 (by decide))
      refine ex_iconst (v := nI 1) dX10_beginnings_41 (by decide) ?_
      refine ex_istore_n (L' := [some (.ref (56)), some (.int (nI (1))), none, none, none, none, none]) dX10_beginnings_42 (i := 1) rfl (by decide) rfl ?_
      refine OUT (14 * 128 + 1) i1 (fun _ => 0) (by omega) hf h (fun G _ s => sub_0) (fun s => by decide)
    | succ d ih =>
      intro k i1 hk hf h
      have st : ∀ i2 v, nI v = nI (fsT (fun _ => 0) k / 2 * 2) → fsT (fun _ => 0) k % 2 = 0 → i2 = xU (xU i1 68 k (nI 0)) 69 k (nI v) → Wx m_Model_beginnings 2 [some (.ref 56), some (.int (nI (k + 1))), none, none, none, none, none] [] (94, g, i2, q, RT t) (0, 0) Q := by
        intro i2 v e1 e2 e3
        refine ih (k + 1) i2 (by omega) (by rw [e3]; exact (hf.U (by decide) (by decide)).U (by decide) (by decide)) (fun s hs => ?_)
        rw [e3, xU_at, xU_ne _ _ _ (show (68 : Nat) ≠ 69 by decide), xU_at, xU_ne _ _ _ (show (69 : Nat) ≠ 68 by decide)]
        unfold upd
        by_cases e : s = k
        · rw [if_pos e, if_pos e, e, e1, e2]; exact ⟨rfl, rfl⟩
        · rw [if_neg e, if_neg e]; exact h s (by omega)
      by_cases c : 1 ≤ k ∧ k ≤ 6
      · have e2 : tmB k = 1 := by unfold tmB; rw [if_pos c]
        have e3 : 1 * 2 ^ k < 2 ^ 32 := by rcases (show k = 1 ∨ k = 2 ∨ k = 3 ∨ k = 4 ∨ k = 5 ∨ k = 6 by omega) with rfl | rfl | rfl | rfl | rfl | rfl <;> decide
        refine ex_iload_n (i := 1) dX10_beginnings_2 rfl rfl ?_
        refine ex_bipush (v := nI 14) dX10_beginnings_3 (by decide) ?_
        refine ex_icmp_geN (tgt := 41) dX10_beginnings_5 (by decide) (by omega) (by omega) (fun h5 => by omega) (fun h5 => ?_)
        refine ex_aload_n (i := 0) dX10_beginnings_8 rfl rfl ?_
        refine ex_getR (v := .ref (68)) dX10_beginnings_9 fl_Model_44 rfl rfl (by decide) rfl ?_
        refine ex_iload_n (i := 1) dX10_beginnings_12 rfl rfl ?_
        refine ex_iconst (v := nI 0) dX10_beginnings_13 (by decide) ?_
        refine ex_bastN dX10_beginnings_14 rfl (by decide) (by decide) (by omega) ?_
        refine ex_aload_n (i := 0) dX10_beginnings_15 rfl rfl ?_
        refine ex_getR (v := .ref (69)) dX10_beginnings_16 fl_Model_47 rfl rfl (by decide) rfl ?_
        refine ex_iload_n (i := 1) dX10_beginnings_19 rfl rfl ?_
        refine ex_iload_n (i := 1) dX10_beginnings_20 rfl rfl ?_
        refine ex_cS (ν := m_Model_terminal) (as := [.int (nI (k))]) dX10_beginnings_21 ln_Model_131 mf_Model_terminal np_Model_terminal rfl rfl ⟨(Nat.le_of_ble_eq_true rfl), (Nat.le_of_ble_eq_true rfl), (Nat.le_of_ble_eq_true rfl), (Nat.le_of_ble_eq_true rfl)⟩ (by decide) ?_
        refine sp_Model_terminal_N (by omega) ?_
        refine ⟨_, rfl, ?_⟩
        refine ex_asN (a := 1) (by rw [e2]) ?_
        refine ex_if_eqN (tgt := 33) dX10_beginnings_24 (by decide) (by omega) (fun h24 => by exact absurd h24 (by decide)) (fun h24 => ?_)
        refine ex_iconst (v := nI 1) dX10_beginnings_27 (by decide) ?_
        refine ex_iload_n (i := 1) dX10_beginnings_28 rfl rfl ?_
        refine ex_ishlN dX10_beginnings_29 (by first | omega | exact e3) (by first | omega | exact e3) ?_
        refine ex_goto (tgt := 34) dX10_beginnings_30 (by decide) ?_
        refine ex_iastN dX10_beginnings_34 rfl (by decide) (by omega) ?_
        refine ex_iincN (L' := [some (.ref (56)), some (.int (nI (k + 1))), none, none, none, none, none]) dX10_beginnings_35 rfl rfl (by decide) rfl ?_
        refine ex_goto (tgt := 2) dX10_beginnings_38 (by decide) ?_
        refine st _ (1 * 2 ^ k) ?_ ?_ rfl
        · rw [fs0, if_pos c]; congr 1; rcases (show k = 1 ∨ k = 2 ∨ k = 3 ∨ k = 4 ∨ k = 5 ∨ k = 6 by omega) with rfl | rfl | rfl | rfl | rfl | rfl <;> rfl
        · rw [fs0, if_pos c]; rcases (show k = 1 ∨ k = 2 ∨ k = 3 ∨ k = 4 ∨ k = 5 ∨ k = 6 by omega) with rfl | rfl | rfl | rfl | rfl | rfl <;> rfl
      · have e2 : tmB k = 0 := by unfold tmB; rw [if_neg c]
        refine ex_iload_n (i := 1) dX10_beginnings_2 rfl rfl ?_
        refine ex_bipush (v := nI 14) dX10_beginnings_3 (by decide) ?_
        refine ex_icmp_geN (tgt := 41) dX10_beginnings_5 (by decide) (by omega) (by omega) (fun h5 => by omega) (fun h5 => ?_)
        refine ex_aload_n (i := 0) dX10_beginnings_8 rfl rfl ?_
        refine ex_getR (v := .ref (68)) dX10_beginnings_9 fl_Model_44 rfl rfl (by decide) rfl ?_
        refine ex_iload_n (i := 1) dX10_beginnings_12 rfl rfl ?_
        refine ex_iconst (v := nI 0) dX10_beginnings_13 (by decide) ?_
        refine ex_bastN dX10_beginnings_14 rfl (by decide) (by decide) (by omega) ?_
        refine ex_aload_n (i := 0) dX10_beginnings_15 rfl rfl ?_
        refine ex_getR (v := .ref (69)) dX10_beginnings_16 fl_Model_47 rfl rfl (by decide) rfl ?_
        refine ex_iload_n (i := 1) dX10_beginnings_19 rfl rfl ?_
        refine ex_iload_n (i := 1) dX10_beginnings_20 rfl rfl ?_
        refine ex_cS (ν := m_Model_terminal) (as := [.int (nI (k))]) dX10_beginnings_21 ln_Model_131 mf_Model_terminal np_Model_terminal rfl rfl ⟨(Nat.le_of_ble_eq_true rfl), (Nat.le_of_ble_eq_true rfl), (Nat.le_of_ble_eq_true rfl), (Nat.le_of_ble_eq_true rfl)⟩ (by decide) ?_
        refine sp_Model_terminal_N (by omega) ?_
        refine ⟨_, rfl, ?_⟩
        refine ex_asN (a := 0) (by rw [e2]) ?_
        refine ex_if_eqN (tgt := 33) dX10_beginnings_24 (by decide) (by omega) (fun h24 => ?_) (fun h24 => by exact absurd h24 (by decide))
        refine ex_iconst (v := nI 0) dX10_beginnings_33 (by decide) ?_
        refine ex_iastN dX10_beginnings_34 rfl (by decide) (by omega) ?_
        refine ex_iincN (L' := [some (.ref (56)), some (.int (nI (k + 1))), none, none, none, none, none]) dX10_beginnings_35 rfl rfl (by decide) rfl ?_
        refine ex_goto (tgt := 2) dX10_beginnings_38 (by decide) ?_
        refine st _ 0 ?_ ?_ rfl
        · rw [fs0, if_neg c]
        · rw [fs0, if_neg c]
  refine ex_iconst (v := nI 0) dX10_beginnings_0 (by decide) ?_
  refine ex_istore_n (L' := [some (.ref (56)), some (.int (nI (0))), none, none, none, none, none]) dX10_beginnings_1 (i := 1) rfl (by decide) rfl ?_
  exact INIT 14 0 i rfl Fm.rf (fun s hs => by omega)
theorem sp_Model_first {x : Int32} (rg : RG i n sy) (hX : smX x = 0 → ∀ i1, Fm [] [45] i i1 → i1 56 45 = nI 1 → Q (.ok (some (.int (nI 0)))) (94, g, i1, q, RT t))
    (hQ : ∀ s f, x = nI s → (1 ≤ s ∧ s ≤ 6 ∨ 8 ≤ s ∧ s ≤ 13) → isF n sy f → ∀ i1, Fm [68, 69] [45] i i1 → i1 56 45 = nI 0 → Q (.ok (some (.int (nI (fsT f s))))) (94, g, i1, q, RT t)) : Wx m_Model_first 0 [some (.ref 56), some (.int x)] [] (94, g, i, q, RT t) (0, 0) Q := by
  by_cases h : smX x = 0
  ·
    refine ex_aload_n (i := 0) dX10_first_0 rfl rfl ?_
    refine ex_iload_n (i := 1) dX10_first_1 rfl rfl ?_
    refine ex_cS (ν := m_Model_isSymbol) (as := [.int (x)]) dX10_first_2 ln_Model_138 mf_Model_isSymbol np_Model_isSymbol rfl rfl ⟨(Nat.le_of_ble_eq_true rfl), (Nat.le_of_ble_eq_true rfl), (Nat.le_of_ble_eq_true rfl), (Nat.le_of_ble_eq_true rfl)⟩ (by decide) ?_
    refine sp_Model_isSymbol ?_
    refine ⟨_, rfl, ?_⟩
    refine ex_asN (a := 0) (by rw [h]) ?_
    refine ex_iconst (v := nI 1) dX10_first_5 (by decide) ?_
    refine ex_cV (ν := m_Model_good) (a := 56) (ci := 10) (as := [.int (nI (0)), .int (nI (1))]) dX10_first_6 ln_Model_141 mf_Model_good rfl (Nat.le_of_ble_eq_true rfl) rfl rfl np_Model_good rfl rfl ⟨(Nat.le_of_ble_eq_true rfl), (Nat.le_of_ble_eq_true rfl), (Nat.le_of_ble_eq_true rfl), (Nat.le_of_ble_eq_true rfl)⟩ (by decide) ?_
    refine sp_Model_good (b := 0) (by decide) ?_
    refine ⟨_, rfl, ?_⟩
    refine ex_if_neN (tgt := 14) dX10_first_9 (by decide) (by omega) (fun h9 => by exact absurd h9 (by decide)) (fun h9 => ?_)
    refine ex_iconst (v := nI 0) dX10_first_12 (by decide) ?_
    refine ex_iret dX10_first_13 rfl rfl ?_
    exact hX h _ (Fm.rf.F (by decide)) (cd_at _ _)
  · obtain ⟨s, rfl, hs⟩ := smX_s h
    have h1 := smX_1 h
    have f0 : Fm [68, 69] [45] i (xU i 56 45 (nI 0)) := Fm.rf.F (by decide)
    have rg1 : RG (xU i 56 45 (nI 0)) n sy := rg.fm f0 (by decide) (by decide) (by decide) (by decide)
    refine ex_aload_n (i := 0) dX10_first_0 rfl rfl ?_
    refine ex_iload_n (i := 1) dX10_first_1 rfl rfl ?_
    refine ex_cS (ν := m_Model_isSymbol) (as := [.int (nI (s))]) dX10_first_2 ln_Model_138 mf_Model_isSymbol np_Model_isSymbol rfl rfl ⟨(Nat.le_of_ble_eq_true rfl), (Nat.le_of_ble_eq_true rfl), (Nat.le_of_ble_eq_true rfl), (Nat.le_of_ble_eq_true rfl)⟩ (by decide) ?_
    refine sp_Model_isSymbol ?_
    refine ⟨_, rfl, ?_⟩
    refine ex_asN (a := 1) (by rw [h1]) ?_
    refine ex_iconst (v := nI 1) dX10_first_5 (by decide) ?_
    refine ex_cV (ν := m_Model_good) (a := 56) (ci := 10) (as := [.int (nI (1)), .int (nI (1))]) dX10_first_6 ln_Model_141 mf_Model_good rfl (Nat.le_of_ble_eq_true rfl) rfl rfl np_Model_good rfl rfl ⟨(Nat.le_of_ble_eq_true rfl), (Nat.le_of_ble_eq_true rfl), (Nat.le_of_ble_eq_true rfl), (Nat.le_of_ble_eq_true rfl)⟩ (by decide) ?_
    refine sp_Model_good (b := 1) (by decide) ?_
    refine ⟨_, rfl, ?_⟩
    refine ex_if_neN (tgt := 14) dX10_first_9 (by decide) (by omega) (fun h9 => ?_) (fun h9 => by exact absurd h9 (by decide))
    refine ex_aload_n (i := 0) dX10_first_14 rfl rfl ?_
    refine ex_cV (ν := m_Model_beginnings) (a := 56) (ci := 10) (as := []) dX10_first_15 ln_Model_163 mf_Model_beginnings rfl (Nat.le_of_ble_eq_true rfl) rfl rfl np_Model_beginnings rfl rfl ⟨(Nat.le_of_ble_eq_true rfl), (Nat.le_of_ble_eq_true rfl), (Nat.le_of_ble_eq_true rfl), (Nat.le_of_ble_eq_true rfl)⟩ (by decide) ?_
    refine sp_Model_beginnings rg1 (fun i1 f a1 a2 a3 => ?_)
    have HQ := hQ s f rfl hs a3 i1 (f0.tr (a1.mono (fun c hc => hc) (by simp))) (by rw [a1.2 45 (by decide)]; exact cd_at _ _)
    have a2s := a2 s (by omega)
    refine ⟨_, rfl, ?_⟩
    refine ex_aload_n (i := 0) dX10_first_18 rfl rfl ?_
    refine ex_getR (v := .ref (69)) dX10_first_19 fl_Model_47 rfl rfl (by decide) rfl ?_
    refine ex_iload_n (i := 1) dX10_first_22 rfl rfl ?_
    refine ex_ialdN dX10_first_23 rfl (by decide) (by omega) rfl ?_
    refine ex_asN (a := fsT f s / 2 * 2) a2s.1 ?_
    refine ex_aload_n (i := 0) dX10_first_24 rfl rfl ?_
    refine ex_getR (v := .ref (68)) dX10_first_25 fl_Model_44 rfl rfl (by decide) rfl ?_
    refine ex_iload_n (i := 1) dX10_first_28 rfl rfl ?_
    refine ex_baldN dX10_first_29 rfl (by decide) (by omega) rfl ?_
    refine ex_asN (a := fsT f s % 2) a2s.2 ?_
    refine ex_if_eqN (tgt := 37) dX10_first_30 (by decide) (by omega) (fun h30 => ?_) (fun h30 => ?_)
    · refine ex_iconst (v := nI 0) dX10_first_37 (by decide) ?_
      refine ex_iaddN dX10_first_38 ?_
      refine ex_iret dX10_first_39 rfl rfl ?_
      first
      | (rw [show fsT f s / 2 * 2 + 1 = fsT f s by omega]; exact HQ)
      | (rw [show fsT f s / 2 * 2 + 0 = fsT f s by omega]; exact HQ)
    · refine ex_iconst (v := nI 1) dX10_first_33 (by decide) ?_
      refine ex_goto (tgt := 38) dX10_first_34 (by decide) ?_
      refine ex_iaddN dX10_first_38 ?_
      refine ex_iret dX10_first_39 rfl rfl ?_
      first
      | (rw [show fsT f s / 2 * 2 + 1 = fsT f s by omega]; exact HQ)
      | (rw [show fsT f s / 2 * 2 + 0 = fsT f s by omega]; exact HQ)
end S64
