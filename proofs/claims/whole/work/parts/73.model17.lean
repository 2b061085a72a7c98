/-! ===== the reference: hang, ring ===== -/
/-- what hangs on what in rule r with the picked ways pk, children below k0 -/
def hgQ (op xp yp pk : Nat → Nat) (r k0 p : Nat) : Nat := eqm op xp yp (r * 15 + p) ||| (if 3 ≤ p ∧ p / 3 < k0 ∧ p % 3 < 2 ∧ (pk (p / 3)).testBit (p % 3) = true then 2 ^ (p / 3 * 3 + 2) else 0)
theorem hgQ_lt {op xp yp pk : Nat → Nat} (h : ESw op xp yp) {r k0 p : Nat} (hp : p < 15) : hgQ op xp yp pk r k0 p < 2 ^ 15 := by
  unfold hgQ
  apply Nat.or_lt_two_pow (eqm_lt h _)
  split
  · exact p15 (by omega)
  · decide
theorem hgQ_1 {op xp yp pk : Nat → Nat} {r p : Nat} : hgQ op xp yp pk r 1 p = eqm op xp yp (r * 15 + p) := by
  unfold hgQ
  rw [if_neg (by omega), Nat.or_zero]
theorem hgQ_s {op xp yp pk : Nat → Nat} {r k p : Nat} (hk : 1 ≤ k) : hgQ op xp yp pk r (k + 1) p = if p = 3 * k ∧ (pk k).testBit 0 = true ∨ p = 3 * k + 1 ∧ (pk k).testBit 1 = true then hgQ op xp yp pk r k p ||| 1 * 2 ^ (3 * k + 2) else hgQ op xp yp pk r k p := by
  unfold hgQ
  by_cases h1 : p = 3 * k
  · have e1 : p / 3 = k := by omega
    have e2 : p % 3 = 0 := by omega
    rw [e1, e2, if_neg (show ¬ (3 ≤ p ∧ k < k ∧ 0 < 2 ∧ (pk k).testBit 0 = true) by omega), Nat.or_zero]
    by_cases b : (pk k).testBit 0 = true
    · rw [if_pos (by refine ⟨by omega, by omega, by decide, b⟩), if_pos (Or.inl ⟨h1, b⟩), Nat.one_mul, Nat.mul_comm k 3]
    · rw [if_neg (fun z => b z.2.2.2), if_neg (by rintro (z | z); exact b z.2; omega), Nat.or_zero]
  · by_cases h2 : p = 3 * k + 1
    · have e1 : p / 3 = k := by omega
      have e2 : p % 3 = 1 := by omega
      rw [e1, e2, if_neg (show ¬ (3 ≤ p ∧ k < k ∧ 1 < 2 ∧ (pk k).testBit 1 = true) by omega), Nat.or_zero]
      by_cases b : (pk k).testBit 1 = true
      · rw [if_pos (by refine ⟨by omega, by omega, by decide, b⟩), if_pos (Or.inr ⟨h2, b⟩), Nat.one_mul, Nat.mul_comm k 3]
      · rw [if_neg (fun z => b z.2.2.2), if_neg (by rintro (z | z); omega; exact b z.2), Nat.or_zero]
    · rw [if_neg (show ¬ (p = 3 * k ∧ (pk k).testBit 0 = true ∨ p = 3 * k + 1 ∧ (pk k).testBit 1 = true) from fun z => z.elim (fun z => h1 z.1) (fun z => h2 z.1))]
      congr 1
      by_cases c : 3 ≤ p ∧ p / 3 < k ∧ p % 3 < 2 ∧ (pk (p / 3)).testBit (p % 3) = true
      · rw [if_pos c, if_pos ⟨c.1, by omega, c.2.2⟩]
      · rw [if_neg c, if_neg (fun z => c ⟨z.1, by omega, z.2.2⟩)]
abbrev hgW (sy : Nat → Nat → Nat) (op xp yp pk : Nat → Nat) (r : Nat) : Nat → Nat := wsN (hgQ op xp yp pk r (lnR sy r + 1)) 15
section S73
variable {g : Nat} {i : Nat → Nat → Int32} {q : Nat → Nat → Int64} {t : Bool} {Q : xRes → xMem → Prop} {n : Nat} {sy : Nat → Nat → Nat} {op xp yp pk : Nat → Nat}
theorem sp_Model_hang {a b v : Nat} (ha : a < 15) (hb : b < 15) (h : i 75 a = nI v) (hQ : Q (.ok none) (94, g, xU i 75 a (nI (v ||| 1 * 2 ^ b)), q, RT t)) : Wx m_Model_hang 0 [some (.ref 56), some (.int (nI a)), some (.int (nI b))] [] (94, g, i, q, RT t) (0, 0) Q := by
  have e3 : 1 * 2 ^ b < 2 ^ 32 := by have := p15 hb; omega
  refine ex_aload_n (i := 0) dX10_hang_0 rfl rfl ?_
  refine ex_getR (v := .ref (75)) dX10_hang_1 fl_Model_65 rfl rfl (by decide) rfl ?_
  refine ex_iload_n (i := 1) dX10_hang_4 rfl rfl ?_
  refine ex_dup2 dX10_hang_5 rfl rfl ?_
  refine ex_ialdN dX10_hang_6 rfl (by decide) (by omega) rfl ?_
  refine ex_asN (a := v) h ?_
  refine ex_iconst (v := nI 1) dX10_hang_7 (by decide) ?_
  refine ex_iload_n (i := 2) dX10_hang_8 rfl rfl ?_
  refine ex_ishlN dX10_hang_9 (by first | omega | exact e3) (by first | omega | exact e3) ?_
  refine ex_iorN dX10_hang_10 ?_
  refine ex_iastN dX10_hang_11 rfl (by decide) (by omega) ?_
  refine ex_ret dX10_hang_12 rfl ?_
  exact hQ
theorem pk12 {a : Nat} (h : a < 4) : (a &&& 1 = 0 ↔ ¬ a.testBit 0 = true) ∧ (a &&& 2 = 0 ↔ ¬ a.testBit 1 = true) := b12 (by omega)
theorem and2_b {a : Nat} : a &&& 2 < 2 ^ 31 := Nat.lt_of_le_of_lt Nat.and_le_right (by decide)
theorem and1_b {a : Nat} : a &&& 1 < 2 ^ 31 := Nat.lt_of_le_of_lt Nat.and_le_right (by decide)
theorem sp_Model_ring {r : Nat} (rg : RG i n sy) (re : RE i op xp yp) (es : ESw op xp yp) (hr : r < n) (hp : ∀ k, 1 ≤ k → k ≤ lnR sy r → i 76 k = nI (pk k) ∧ pk k < 4)
    (hQ : ∀ b i1, b < 2 → (b = 1 ↔ slf (hgW sy op xp yp pk r)) → Fm [75] [] i i1 → Vw i1 75 15 (hgW sy op xp yp pk r) → Q (.ok (some (.int (nI b)))) (94, g, i1, q, RT t)) :
    Wx m_Model_ring 0 [some (.ref 56), some (.int (nI r)), none, none] [] (94, g, i, q, RT t) (0, 0) Q := by
  have gw := rg.2.2.2.2
  have hn := gw.1
  have hl := lnR_le sy r
  have hW : ∀ p, p < 15 → hgW sy op xp yp pk r p < 2 ^ 15 := wsN_lt (fun p hp => hgQ_lt es hp) (Nat.le_refl _)
  -- the check
  have SC5 : ∀ d p b i1, p + d = 15 → b < 2 → (b = 1 ↔ ∃ p', p' < p ∧ (hgW sy op xp yp pk r p').testBit p' = true) → Fm [75] [] i i1 → Vw i1 75 15 (hgW sy op xp yp pk r) → Wx m_Model_ring 240 [some (.ref 56), some (.int (nI r)), some (.int (nI b)), some (.int (nI p))] [] (94, g, i1, q, RT t) (0, 0) Q := by
    intro d
    induction d with
    | zero =>
      intro p b i1 hpd hb hbs hf hV
      have e : p = 15 := hpd
      subst e
      refine ex_iload_n (i := 3) dX10_ring_240 rfl rfl ?_
      refine ex_bipush (v := nI 15) dX10_ring_241 (by decide) ?_
      refine ex_icmp_geN (tgt := 268) dX10_ring_243 (by decide) (by decide) (by decide) (fun h243 => ?_) (fun h243 => by exact absurd h243 (by decide))
      refine ex_iload_n (i := 2) dX10_ring_268 rfl rfl ?_
      refine ex_iret dX10_ring_269 rfl (xb_n (by rcases (show b = 0 ∨ b = 1 by omega) with rfl | rfl; exact Or.inl (by decide); exact Or.inr (by decide))) ?_
      exact hQ b i1 hb hbs hf hV
    | succ d ih =>
      intro p b i1 hpd hb hbs hf hV
      have hVp := hV p (by omega)
      have hWp := hW p (by omega)
      by_cases tb : (hgW sy op xp yp pk r p).testBit p = true
      · have hsft : hgW sy op xp yp pk r p / 2 ^ p &&& 1 = 1 := by
          have h1 : ¬ (hgW sy op xp yp pk r p / 2 ^ p &&& 1 = 0) := fun h => tb_shift.mp h tb
          have h2 : hgW sy op xp yp pk r p / 2 ^ p &&& 1 = hgW sy op xp yp pk r p / 2 ^ p % 2 := Nat.and_one_is_mod _
          omega
        have IH := ih (p + 1) 1 i1 (by omega) (by decide) ⟨fun _ => ⟨p, by omega, tb⟩, fun _ => rfl⟩ hf hV
        refine ex_iload_n (i := 3) dX10_ring_240 rfl rfl ?_
        refine ex_bipush (v := nI 15) dX10_ring_241 (by decide) ?_
        refine ex_icmp_geN (tgt := 268) dX10_ring_243 (by decide) (by omega) (by omega) (fun h243 => by omega) (fun h243 => ?_)
        refine ex_aload_n (i := 0) dX10_ring_246 rfl rfl ?_
        refine ex_getR (v := .ref (75)) dX10_ring_247 fl_Model_65 rfl rfl (by decide) rfl ?_
        refine ex_iload_n (i := 3) dX10_ring_250 rfl rfl ?_
        refine ex_ialdN dX10_ring_251 rfl (by decide) (by omega) rfl ?_
        refine ex_asN (a := hgW sy op xp yp pk r p) hVp ?_
        refine ex_iload_n (i := 3) dX10_ring_252 rfl rfl ?_
        refine ex_ishrN dX10_ring_253 (by omega) (by omega) ?_
        refine ex_iconst (v := nI 1) dX10_ring_254 (by decide) ?_
        refine ex_iandN dX10_ring_255 ?_
        refine ex_asN (a := 1) (by rw [hsft]) ?_
        refine ex_iconst (v := nI 1) dX10_ring_256 (by decide) ?_
        refine ex_icmp_neN (tgt := 262) dX10_ring_257 (by decide) (by decide) (by decide) (fun h257 => by exact absurd h257 (by decide)) (fun h257 => ?_)
        refine ex_iconst (v := nI 1) dX10_ring_260 (by decide) ?_
        refine ex_istore_n (L' := [some (.ref (56)), some (.int (nI (r))), some (.int (nI (1))), some (.int (nI (p)))]) dX10_ring_261 (i := 2) rfl (by decide) rfl ?_
        refine ex_iincN (L' := [some (.ref (56)), some (.int (nI (r))), some (.int (nI (1))), some (.int (nI (p + 1)))]) dX10_ring_262 rfl rfl (by decide) rfl ?_
        refine ex_goto (tgt := 240) dX10_ring_265 (by decide) ?_
        exact IH
      · have hsft : hgW sy op xp yp pk r p / 2 ^ p &&& 1 = 0 := tb_shift.mpr tb
        have IH := ih (p + 1) b i1 (by omega) hb (hbs.trans ⟨fun ⟨p', a, c⟩ => ⟨p', by omega, c⟩, fun ⟨p', a, c⟩ => ⟨p', by
          by_cases e : p' = p
          · rw [e] at c; exact absurd c tb
          · omega, c⟩⟩) hf hV
        refine ex_iload_n (i := 3) dX10_ring_240 rfl rfl ?_
        refine ex_bipush (v := nI 15) dX10_ring_241 (by decide) ?_
        refine ex_icmp_geN (tgt := 268) dX10_ring_243 (by decide) (by omega) (by omega) (fun h243 => by omega) (fun h243 => ?_)
        refine ex_aload_n (i := 0) dX10_ring_246 rfl rfl ?_
        refine ex_getR (v := .ref (75)) dX10_ring_247 fl_Model_65 rfl rfl (by decide) rfl ?_
        refine ex_iload_n (i := 3) dX10_ring_250 rfl rfl ?_
        refine ex_ialdN dX10_ring_251 rfl (by decide) (by omega) rfl ?_
        refine ex_asN (a := hgW sy op xp yp pk r p) hVp ?_
        refine ex_iload_n (i := 3) dX10_ring_252 rfl rfl ?_
        refine ex_ishrN dX10_ring_253 (by omega) (by omega) ?_
        refine ex_iconst (v := nI 1) dX10_ring_254 (by decide) ?_
        refine ex_iandN dX10_ring_255 ?_
        refine ex_asN (a := 0) (by rw [hsft]) ?_
        refine ex_iconst (v := nI 1) dX10_ring_256 (by decide) ?_
        refine ex_icmp_neN (tgt := 262) dX10_ring_257 (by decide) (by decide) (by decide) (fun h257 => ?_) (fun h257 => by exact absurd h257 (by decide))
        refine ex_iincN (L' := [some (.ref (56)), some (.int (nI (r))), some (.int (nI (b))), some (.int (nI (p + 1)))]) dX10_ring_262 rfl rfl (by decide) rfl ?_
        refine ex_goto (tgt := 240) dX10_ring_265 (by decide) ?_
        exact IH
  -- the closure
  have HB : ∀ m, m ≤ 15 → ∀ p, p < 15 → wsN (hgQ op xp yp pk r (lnR sy r + 1)) m p < 2 ^ 15 := fun m hm => wsN_lt (fun p hp => hgQ_lt es hp) hm
  have CL4 : ∀ d m i1, m + d = 15 → Fm [75] [] i i1 → Vw i1 75 15 (wsN (hgQ op xp yp pk r (lnR sy r + 1)) m) → Wx m_Model_ring 181 [some (.ref 56), some (.int (nI r)), some (.int (nI m)), none] [] (94, g, i1, q, RT t) (0, 0) Q := by
    intro d
    induction d with
    | zero =>
      intro m i1 hmd hf hV
      have e : m = 15 := hmd
      subst e
      have X := SC5 15 0 0 i1 rfl (by decide) ⟨fun h => absurd h (by decide), fun ⟨p', a, _⟩ => by omega⟩ hf hV
      refine ex_iload_n (i := 2) dX10_ring_181 rfl rfl ?_
      refine ex_bipush (v := nI 15) dX10_ring_182 (by decide) ?_
      refine ex_icmp_geN (tgt := 236) dX10_ring_184 (by decide) (by decide) (by decide) (fun h184 => ?_) (fun h184 => by exact absurd h184 (by decide))
      refine ex_iconst (v := nI 0) dX10_ring_236 (by decide) ?_
      refine ex_istore_n (L' := [some (.ref (56)), some (.int (nI (r))), some (.int (nI (0))), none]) dX10_ring_237 (i := 2) rfl (by decide) rfl ?_
      refine ex_iconst (v := nI 0) dX10_ring_238 (by decide) ?_
      refine ex_istore_n (L' := [some (.ref (56)), some (.int (nI (r))), some (.int (nI (0))), some (.int (nI (0)))]) dX10_ring_239 (i := 3) rfl (by decide) rfl ?_
      exact X
    | succ d ih =>
      intro m i1 hmd hf hV
      obtain ⟨H, hH⟩ : ∃ H, H = wsN (hgQ op xp yp pk r (lnR sy r + 1)) m := ⟨_, rfl⟩
      rw [← hH] at hV
      have hHb : ∀ p, p < 15 → H p < 2 ^ 15 := by rw [hH]; exact HB m (by omega)
      have INN : ∀ d2 p i2, p + d2 = 15 → Fm [75] [] i i2 → Vw i2 75 15 (fun j => if j < p then psN m H j else H j) → Wx m_Model_ring 189 [some (.ref 56), some (.int (nI r)), some (.int (nI m)), some (.int (nI p))] [] (94, g, i2, q, RT t) (0, 0) Q := by
        intro d2
        induction d2 with
        | zero =>
          intro p i2 hpd hf2 hV2
          have e : p = 15 := hpd
          subst e
          have X := ih (m + 1) i2 (by omega) hf2 (fun j hj => by
            have := hV2 j hj
            dsimp only at this
            rw [if_pos hj, hH] at this; exact this)
          refine ex_iload_n (i := 3) dX10_ring_189 rfl rfl ?_
          refine ex_bipush (v := nI 15) dX10_ring_190 (by decide) ?_
          refine ex_icmp_geN (tgt := 230) dX10_ring_192 (by decide) (by decide) (by decide) (fun h192 => ?_) (fun h192 => by exact absurd h192 (by decide))
          refine ex_iincN (L' := [some (.ref (56)), some (.int (nI (r))), some (.int (nI (m + 1))), some (.int (nI (15)))]) dX10_ring_230 rfl rfl (by decide) rfl ?_
          refine ex_goto (tgt := 181) dX10_ring_233 (by decide) ?_
          exact ex_less (L' := [some (.ref 56), some (.int (nI r)), some (.int (nI (m + 1))), none]) (by simp [xSub]) X
        | succ d2 ih2 =>
          intro p i2 hpd hf2 hV2
          have hHp := hHb p (by omega)
          have e1 : i2 75 p = nI (H p) := by have := hV2 p (by omega); dsimp only at this; rw [if_neg (by omega)] at this; exact this
          by_cases tb : (H p).testBit m = true
          · have e2 : i2 75 m = nI (H m) := by
              have h3 := hV2 m (by omega)
              dsimp only at h3
              by_cases c : m < p
              · rw [if_pos c] at h3
                have h4 : psN m H m = H m := by
                  unfold psN; split
                  · exact Nat.or_self _
                  · rfl
                rw [h4] at h3; exact h3
              · rw [if_neg c] at h3; exact h3
            have hsft : H p / 2 ^ m &&& 1 = 1 := by
              have h1 : ¬ (H p / 2 ^ m &&& 1 = 0) := fun h => tb_shift.mp h tb
              have h2 : H p / 2 ^ m &&& 1 = H p / 2 ^ m % 2 := Nat.and_one_is_mod _
              omega
            refine ex_iload_n (i := 3) dX10_ring_189 rfl rfl ?_
            refine ex_bipush (v := nI 15) dX10_ring_190 (by decide) ?_
            refine ex_icmp_geN (tgt := 230) dX10_ring_192 (by decide) (by omega) (by omega) (fun h192 => by omega) (fun h192 => ?_)
            refine ex_aload_n (i := 0) dX10_ring_195 rfl rfl ?_
            refine ex_getR (v := .ref (75)) dX10_ring_196 fl_Model_65 rfl rfl (by decide) rfl ?_
            refine ex_iload_n (i := 3) dX10_ring_199 rfl rfl ?_
            refine ex_ialdN dX10_ring_200 rfl (by decide) (by omega) rfl ?_
            refine ex_asN (a := H p) e1 ?_
            refine ex_iload_n (i := 2) dX10_ring_201 rfl rfl ?_
            refine ex_ishrN dX10_ring_202 (by omega) (by omega) ?_
            refine ex_iconst (v := nI 1) dX10_ring_203 (by decide) ?_
            refine ex_iandN dX10_ring_204 ?_
            refine ex_asN (a := 1) (by rw [hsft]) ?_
            refine ex_iconst (v := nI 1) dX10_ring_205 (by decide) ?_
            refine ex_icmp_neN (tgt := 224) dX10_ring_206 (by decide) (by decide) (by decide) (fun h206 => by exact absurd h206 (by decide)) (fun h206 => ?_)
            refine ex_aload_n (i := 0) dX10_ring_209 rfl rfl ?_
            refine ex_getR (v := .ref (75)) dX10_ring_210 fl_Model_65 rfl rfl (by decide) rfl ?_
            refine ex_iload_n (i := 3) dX10_ring_213 rfl rfl ?_
            refine ex_dup2 dX10_ring_214 rfl rfl ?_
            refine ex_ialdN dX10_ring_215 rfl (by decide) (by omega) rfl ?_
            refine ex_asN (a := H p) e1 ?_
            refine ex_aload_n (i := 0) dX10_ring_216 rfl rfl ?_
            refine ex_getR (v := .ref (75)) dX10_ring_217 fl_Model_65 rfl rfl (by decide) rfl ?_
            refine ex_iload_n (i := 2) dX10_ring_220 rfl rfl ?_
            refine ex_ialdN dX10_ring_221 rfl (by decide) (by omega) rfl ?_
            refine ex_asN (a := H m) e2 ?_
            refine ex_iorN dX10_ring_222 ?_
            refine ex_iastN dX10_ring_223 rfl (by decide) (by omega) ?_
            refine ex_iincN (L' := [some (.ref (56)), some (.int (nI (r))), some (.int (nI (m))), some (.int (nI (p + 1)))]) dX10_ring_224 rfl rfl (by decide) rfl ?_
            refine ex_goto (tgt := 189) dX10_ring_227 (by decide) ?_
            refine ih2 (p + 1) _ (by omega) (hf2.U (by decide) (by decide)) (fun j hj => ?_)
            rw [xU_at]; unfold upd; dsimp only
            by_cases e : j = p
            · rw [if_pos e, if_pos (by omega), e]
              unfold psN; rw [if_pos tb]
            · rw [if_neg e, hV2 j hj]; dsimp only
              by_cases c : j < p
              · rw [if_pos c, if_pos (by omega)]
              · rw [if_neg c, if_neg (by omega)]
          · have hsft : H p / 2 ^ m &&& 1 = 0 := tb_shift.mpr tb
            refine ex_iload_n (i := 3) dX10_ring_189 rfl rfl ?_
            refine ex_bipush (v := nI 15) dX10_ring_190 (by decide) ?_
            refine ex_icmp_geN (tgt := 230) dX10_ring_192 (by decide) (by omega) (by omega) (fun h192 => by omega) (fun h192 => ?_)
            refine ex_aload_n (i := 0) dX10_ring_195 rfl rfl ?_
            refine ex_getR (v := .ref (75)) dX10_ring_196 fl_Model_65 rfl rfl (by decide) rfl ?_
            refine ex_iload_n (i := 3) dX10_ring_199 rfl rfl ?_
            refine ex_ialdN dX10_ring_200 rfl (by decide) (by omega) rfl ?_
            refine ex_asN (a := H p) e1 ?_
            refine ex_iload_n (i := 2) dX10_ring_201 rfl rfl ?_
            refine ex_ishrN dX10_ring_202 (by omega) (by omega) ?_
            refine ex_iconst (v := nI 1) dX10_ring_203 (by decide) ?_
            refine ex_iandN dX10_ring_204 ?_
            refine ex_asN (a := 0) (by rw [hsft]) ?_
            refine ex_iconst (v := nI 1) dX10_ring_205 (by decide) ?_
            refine ex_icmp_neN (tgt := 224) dX10_ring_206 (by decide) (by decide) (by decide) (fun h206 => ?_) (fun h206 => by exact absurd h206 (by decide))
            refine ex_iincN (L' := [some (.ref (56)), some (.int (nI (r))), some (.int (nI (m))), some (.int (nI (p + 1)))]) dX10_ring_224 rfl rfl (by decide) rfl ?_
            refine ex_goto (tgt := 189) dX10_ring_227 (by decide) ?_
            refine ih2 (p + 1) _ (by omega) hf2 (fun j hj => ?_)
            rw [hV2 j hj]; dsimp only
            by_cases c : j < p
            · rw [if_pos c, if_pos (by omega)]
            · by_cases e : j = p
              · rw [if_neg c, if_pos (by omega), e]
                unfold psN; rw [if_neg tb]
              · rw [if_neg c, if_neg (by omega)]
      have I0 := INN 15 0 i1 rfl hf (fun j hj => by dsimp only; rw [if_neg (by omega)]; exact hV j hj)
      refine ex_iload_n (i := 2) dX10_ring_181 rfl rfl ?_
      refine ex_bipush (v := nI 15) dX10_ring_182 (by decide) ?_
      refine ex_icmp_geN (tgt := 236) dX10_ring_184 (by decide) (by omega) (by omega) (fun h184 => by omega) (fun h184 => ?_)
      refine ex_iconst (v := nI 0) dX10_ring_187 (by decide) ?_
      refine ex_istore_n (L' := [some (.ref (56)), some (.int (nI (r))), some (.int (nI (m))), some (.int (nI (0)))]) dX10_ring_188 (i := 3) rfl (by decide) rfl ?_
      exact I0
  -- the children
  have CH3 : ∀ d k i1, k + d = lnR sy r + 1 → 1 ≤ k → Fm [75] [] i i1 → Vw i1 75 15 (hgQ op xp yp pk r k) → Wx m_Model_ring 115 [some (.ref 56), some (.int (nI r)), some (.int (nI k)), none] [] (94, g, i1, q, RT t) (0, 0) Q := by
    intro d
    induction d with
    | zero =>
      intro k i1 hkd hk1 hf hV
      have e : k = lnR sy r + 1 := hkd
      have rg1 := rg.fm hf (by decide) (by decide) (by decide) (by decide)
      have e59 := rg1.2.2.2.1 r hr
      rw [e] at hV
      have X := CL4 15 0 i1 rfl hf hV
      refine ex_iload_n (i := 2) dX10_ring_115 rfl rfl ?_
      refine ex_aload_n (i := 0) dX10_ring_116 rfl rfl ?_
      refine ex_getR (v := .ref (59)) dX10_ring_117 fl_Model_16 rfl rfl (by decide) rfl ?_
      refine ex_iload_n (i := 1) dX10_ring_120 rfl rfl ?_
      refine ex_ialdN dX10_ring_121 rfl (by decide) (by omega) rfl ?_
      refine ex_asN (a := lnR sy r) e59 ?_
      refine ex_icmp_gtN (tgt := 179) dX10_ring_122 (by decide) (by omega) (by omega) (fun h122 => ?_) (fun h122 => by omega)
      refine ex_iconst (v := nI 0) dX10_ring_179 (by decide) ?_
      refine ex_istore_n (L' := [some (.ref (56)), some (.int (nI (r))), some (.int (nI (0))), none]) dX10_ring_180 (i := 2) rfl (by decide) rfl ?_
      exact X
    | succ d ih =>
      intro k i1 hkd hk1 hf hV
      have rg1 := rg.fm hf (by decide) (by decide) (by decide) (by decide)
      have e59 := rg1.2.2.2.1 r hr
      obtain ⟨hpk, hpk4⟩ := hp k hk1 (by omega)
      have e76 : i1 76 k = nI (pk k) := by rw [hf.1 76 (by decide) (by decide)]; exact hpk
      have hbits := pk12 hpk4
      -- behind the first
      have S2 : ∀ i2, Fm [75] [] i i2 → Vw i2 75 15 (fun p => if p = 3 * k ∧ (pk k).testBit 0 = true then hgQ op xp yp pk r k p ||| 1 * 2 ^ (3 * k + 2) else hgQ op xp yp pk r k p) → Wx m_Model_ring 148 [some (.ref 56), some (.int (nI r)), some (.int (nI k)), none] [] (94, g, i2, q, RT t) (0, 0) Q := by
        intro i2 hf2 hV2
        have e762 : i2 76 k = nI (pk k) := by rw [hf2.1 76 (by decide) (by decide)]; exact hpk
        by_cases b : (pk k).testBit 1 = true
        · have hne : ¬ (pk k &&& 2 = 0) := fun z => hbits.2.mp z b
          have e75 : i2 75 (3 * k + 1) = nI (hgQ op xp yp pk r k (3 * k + 1)) := by
            have := hV2 (3 * k + 1) (by omega)
            dsimp only at this
            rw [if_neg (by omega)] at this; exact this
          refine ex_aload_n (i := 0) dX10_ring_148 rfl rfl ?_
          refine ex_getR (v := .ref (76)) dX10_ring_149 fl_Model_68 rfl rfl (by decide) rfl ?_
          refine ex_iload_n (i := 2) dX10_ring_152 rfl rfl ?_
          refine ex_ialdN dX10_ring_153 rfl (by decide) (by omega) rfl ?_
          refine ex_asN (a := pk k) e762 ?_
          refine ex_iconst (v := nI 2) dX10_ring_154 (by decide) ?_
          refine ex_iandN dX10_ring_155 ?_
          refine ex_if_eqN (tgt := 173) dX10_ring_156 (by decide) and2_b (fun h156 => by exact absurd h156 hne) (fun h156 => ?_)
          refine ex_aload_n (i := 0) dX10_ring_159 rfl rfl ?_
          refine ex_iconst (v := nI 3) dX10_ring_160 (by decide) ?_
          refine ex_iload_n (i := 2) dX10_ring_161 rfl rfl ?_
          refine ex_imulN dX10_ring_162 ?_
          refine ex_iconst (v := nI 1) dX10_ring_163 (by decide) ?_
          refine ex_iaddN dX10_ring_164 ?_
          refine ex_iconst (v := nI 3) dX10_ring_165 (by decide) ?_
          refine ex_iload_n (i := 2) dX10_ring_166 rfl rfl ?_
          refine ex_imulN dX10_ring_167 ?_
          refine ex_iconst (v := nI 2) dX10_ring_168 (by decide) ?_
          refine ex_iaddN dX10_ring_169 ?_
          refine ex_cV (ν := m_Model_hang) (a := 56) (ci := 10) (as := [.int (nI ((3 * k) + 1)), .int (nI ((3 * k) + 2))]) dX10_ring_170 ln_Model_189 mf_Model_hang rfl (Nat.le_of_ble_eq_true rfl) rfl rfl np_Model_hang rfl rfl ⟨(Nat.le_of_ble_eq_true rfl), (Nat.le_of_ble_eq_true rfl), (Nat.le_of_ble_eq_true rfl), (Nat.le_of_ble_eq_true rfl)⟩ (by decide) ?_
          refine sp_Model_hang (v := hgQ op xp yp pk r k (3 * k + 1)) (by omega) (by omega) e75 ?_
          refine ⟨_, rfl, ?_⟩
          refine ex_iincN (L' := [some (.ref (56)), some (.int (nI (r))), some (.int (nI (k + 1))), none]) dX10_ring_173 rfl rfl (by decide) rfl ?_
          refine ex_goto (tgt := 115) dX10_ring_176 (by decide) ?_
          refine ih (k + 1) _ (by omega) (by omega) (hf2.U (by decide) (by decide)) (fun p hp15 => ?_)
          rw [hgQ_s hk1, xU_at]; unfold upd
          by_cases e : p = 3 * k + 1
          · rw [if_pos e, if_pos (Or.inr ⟨e, b⟩), e]
          · rw [if_neg e, hV2 p hp15]; dsimp only
            by_cases c : p = 3 * k ∧ (pk k).testBit 0 = true
            · rw [if_pos c, if_pos (Or.inl c)]
            · rw [if_neg c, if_neg (by rintro (z | z); exact c z; exact e z.1)]
        · have he : pk k &&& 2 = 0 := hbits.2.mpr b
          refine ex_aload_n (i := 0) dX10_ring_148 rfl rfl ?_
          refine ex_getR (v := .ref (76)) dX10_ring_149 fl_Model_68 rfl rfl (by decide) rfl ?_
          refine ex_iload_n (i := 2) dX10_ring_152 rfl rfl ?_
          refine ex_ialdN dX10_ring_153 rfl (by decide) (by omega) rfl ?_
          refine ex_asN (a := pk k) e762 ?_
          refine ex_iconst (v := nI 2) dX10_ring_154 (by decide) ?_
          refine ex_iandN dX10_ring_155 ?_
          refine ex_if_eqN (tgt := 173) dX10_ring_156 (by decide) and2_b (fun h156 => ?_) (fun h156 => by exact absurd he h156)
          refine ex_iincN (L' := [some (.ref (56)), some (.int (nI (r))), some (.int (nI (k + 1))), none]) dX10_ring_173 rfl rfl (by decide) rfl ?_
          refine ex_goto (tgt := 115) dX10_ring_176 (by decide) ?_
          refine ih (k + 1) _ (by omega) (by omega) hf2 (fun p hp15 => ?_)
          rw [hgQ_s hk1, hV2 p hp15]; dsimp only
          by_cases c : p = 3 * k ∧ (pk k).testBit 0 = true
          · rw [if_pos c, if_pos (Or.inl c)]
          · rw [if_neg c, if_neg (by rintro (z | z); exact c z; exact b z.2)]
      by_cases b : (pk k).testBit 0 = true
      · have hne : ¬ (pk k &&& 1 = 0) := fun z => hbits.1.mp z b
        have e75 := hV (3 * k) (by omega)
        refine ex_iload_n (i := 2) dX10_ring_115 rfl rfl ?_
        refine ex_aload_n (i := 0) dX10_ring_116 rfl rfl ?_
        refine ex_getR (v := .ref (59)) dX10_ring_117 fl_Model_16 rfl rfl (by decide) rfl ?_
        refine ex_iload_n (i := 1) dX10_ring_120 rfl rfl ?_
        refine ex_ialdN dX10_ring_121 rfl (by decide) (by omega) rfl ?_
        refine ex_asN (a := lnR sy r) e59 ?_
        refine ex_icmp_gtN (tgt := 179) dX10_ring_122 (by decide) (by omega) (by omega) (fun h122 => by omega) (fun h122 => ?_)
        refine ex_aload_n (i := 0) dX10_ring_125 rfl rfl ?_
        refine ex_getR (v := .ref (76)) dX10_ring_126 fl_Model_68 rfl rfl (by decide) rfl ?_
        refine ex_iload_n (i := 2) dX10_ring_129 rfl rfl ?_
        refine ex_ialdN dX10_ring_130 rfl (by decide) (by omega) rfl ?_
        refine ex_asN (a := pk k) e76 ?_
        refine ex_iconst (v := nI 1) dX10_ring_131 (by decide) ?_
        refine ex_iandN dX10_ring_132 ?_
        refine ex_if_eqN (tgt := 148) dX10_ring_133 (by decide) and1_b (fun h133 => by exact absurd h133 hne) (fun h133 => ?_)
        refine ex_aload_n (i := 0) dX10_ring_136 rfl rfl ?_
        refine ex_iconst (v := nI 3) dX10_ring_137 (by decide) ?_
        refine ex_iload_n (i := 2) dX10_ring_138 rfl rfl ?_
        refine ex_imulN dX10_ring_139 ?_
        refine ex_iconst (v := nI 3) dX10_ring_140 (by decide) ?_
        refine ex_iload_n (i := 2) dX10_ring_141 rfl rfl ?_
        refine ex_imulN dX10_ring_142 ?_
        refine ex_iconst (v := nI 2) dX10_ring_143 (by decide) ?_
        refine ex_iaddN dX10_ring_144 ?_
        refine ex_cV (ν := m_Model_hang) (a := 56) (ci := 10) (as := [.int (nI (3 * k)), .int (nI ((3 * k) + 2))]) dX10_ring_145 ln_Model_189 mf_Model_hang rfl (Nat.le_of_ble_eq_true rfl) rfl rfl np_Model_hang rfl rfl ⟨(Nat.le_of_ble_eq_true rfl), (Nat.le_of_ble_eq_true rfl), (Nat.le_of_ble_eq_true rfl), (Nat.le_of_ble_eq_true rfl)⟩ (by decide) ?_
        refine sp_Model_hang (v := hgQ op xp yp pk r k (3 * k)) (by omega) (by omega) e75 ?_
        refine ⟨_, rfl, ?_⟩
        refine S2 _ (hf.U (by decide) (by decide)) (fun p hp15 => ?_)
        rw [xU_at]; unfold upd; dsimp only
        by_cases e : p = 3 * k
        · rw [if_pos e, if_pos ⟨e, b⟩, e]
        · rw [if_neg e, if_neg (fun z => e z.1)]; exact hV p hp15
      · have he : pk k &&& 1 = 0 := hbits.1.mpr b
        refine ex_iload_n (i := 2) dX10_ring_115 rfl rfl ?_
        refine ex_aload_n (i := 0) dX10_ring_116 rfl rfl ?_
        refine ex_getR (v := .ref (59)) dX10_ring_117 fl_Model_16 rfl rfl (by decide) rfl ?_
        refine ex_iload_n (i := 1) dX10_ring_120 rfl rfl ?_
        refine ex_ialdN dX10_ring_121 rfl (by decide) (by omega) rfl ?_
        refine ex_asN (a := lnR sy r) e59 ?_
        refine ex_icmp_gtN (tgt := 179) dX10_ring_122 (by decide) (by omega) (by omega) (fun h122 => by omega) (fun h122 => ?_)
        refine ex_aload_n (i := 0) dX10_ring_125 rfl rfl ?_
        refine ex_getR (v := .ref (76)) dX10_ring_126 fl_Model_68 rfl rfl (by decide) rfl ?_
        refine ex_iload_n (i := 2) dX10_ring_129 rfl rfl ?_
        refine ex_ialdN dX10_ring_130 rfl (by decide) (by omega) rfl ?_
        refine ex_asN (a := pk k) e76 ?_
        refine ex_iconst (v := nI 1) dX10_ring_131 (by decide) ?_
        refine ex_iandN dX10_ring_132 ?_
        refine ex_if_eqN (tgt := 148) dX10_ring_133 (by decide) and1_b (fun h133 => ?_) (fun h133 => by exact absurd he h133)
        refine S2 _ hf (fun p hp15 => ?_)
        dsimp only
        rw [if_neg (fun z => b z.2)]; exact hV p hp15
  -- the equations
  have EQ2 : ∀ d p i1, p + d = 15 → Fm [75] [] i i1 → (∀ j, j < p → i1 75 j = nI (eqm op xp yp (r * 15 + j))) → (∀ j, p ≤ j → j < 15 → i1 75 j = nI 0) → Wx m_Model_ring 23 [some (.ref 56), some (.int (nI r)), some (.int (nI p)), none] [] (94, g, i1, q, RT t) (0, 0) Q := by
    intro d
    induction d with
    | zero =>
      intro p i1 hpd hf h1 h2
      have e : p = 15 := hpd
      subst e
      have X := CH3 (lnR sy r) 1 i1 (by omega) (Nat.le_refl _) hf (fun j hj => by rw [hgQ_1]; exact h1 j hj)
      refine ex_iload_n (i := 2) dX10_ring_23 rfl rfl ?_
      refine ex_bipush (v := nI 15) dX10_ring_24 (by decide) ?_
      refine ex_icmp_geN (tgt := 113) dX10_ring_26 (by decide) (by decide) (by decide) (fun h26 => ?_) (fun h26 => by exact absurd h26 (by decide))
      refine ex_iconst (v := nI 1) dX10_ring_113 (by decide) ?_
      refine ex_istore_n (L' := [some (.ref (56)), some (.int (nI (r))), some (.int (nI (1))), none]) dX10_ring_114 (i := 2) rfl (by decide) rfl ?_
      exact X
    | succ d ih =>
      intro p i1 hpd hf h1 h2
      have hj : 15 * r + p < 210 := by omega
      have ej : r * 15 + p = 15 * r + p := by omega
      have re1 := re.fm hf (by decide) (by decide) (by decide)
      obtain ⟨o1, o2, o3, o4, o5⟩ := re1 (15 * r + p) hj
      have e0 := h2 p (Nat.le_refl _) (by omega)
      have NX : ∀ i2 v, Fm [75] [] i i2 → i2 75 p = nI v → v = eqm op xp yp (r * 15 + p) → (∀ j, j ≠ p → i2 75 j = i1 75 j) → Wx m_Model_ring 107 [some (.ref 56), some (.int (nI r)), some (.int (nI p)), none] [] (94, g, i2, q, RT t) (0, 0) Q := by
        intro i2 v hf2 hv hve hoth
        refine ex_iincN (L' := [some (.ref (56)), some (.int (nI (r))), some (.int (nI (p + 1))), none]) dX10_ring_107 rfl rfl (by decide) rfl ?_
        refine ex_goto (tgt := 23) dX10_ring_110 (by decide) ?_
        refine ih (p + 1) i2 (by omega) hf2 (fun j hj => ?_) (fun j hj1 hj2 => ?_)
        · by_cases e : j = p
          · rw [e, hv, hve]
          · rw [hoth j e]; exact h1 j (by omega)
        · rw [hoth j (by omega)]; exact h2 j (by omega) hj2
      by_cases op0 : op (15 * r + p) = 0
      · rw [if_pos op0] at o1
        have X := NX i1 0 hf e0 (by unfold eqm; rw [ej, op0, if_neg (by decide), if_neg (by decide)]; rfl) (fun _ _ => rfl)
        refine ex_iload_n (i := 2) dX10_ring_23 rfl rfl ?_
        refine ex_bipush (v := nI 15) dX10_ring_24 (by decide) ?_
        refine ex_icmp_geN (tgt := 113) dX10_ring_26 (by decide) (by omega) (by omega) (fun h26 => by omega) (fun h26 => ?_)
        refine ex_bipush (v := nI 15) dX10_ring_29 (by decide) ?_
        refine ex_iload_n (i := 1) dX10_ring_31 rfl rfl ?_
        refine ex_imulN dX10_ring_32 ?_
        refine ex_iload_n (i := 2) dX10_ring_33 rfl rfl ?_
        refine ex_iaddN dX10_ring_34 ?_
        refine ex_istore_n (L' := [some (.ref (56)), some (.int (nI (r))), some (.int (nI (p))), some (.int (nI ((15 * r) + p)))]) dX10_ring_35 (i := 3) rfl (by decide) rfl ?_
        refine ex_aload_n (i := 0) dX10_ring_36 rfl rfl ?_
        refine ex_getR (v := .ref (62)) dX10_ring_37 fl_Model_25 rfl rfl (by decide) rfl ?_
        refine ex_iload_n (i := 3) dX10_ring_40 rfl rfl ?_
        refine ex_ialdN dX10_ring_41 rfl (by decide) (by omega) rfl ?_
        refine ex_asI (y := (-1)) o1 ?_
        refine ex_if_le (tgt := 71) dX10_ring_42 (by decide) (fun h42 => ?_) (fun h42 => by exact absurd (by decide) h42)
        refine ex_aload_n (i := 0) dX10_ring_71 rfl rfl ?_
        refine ex_getR (v := .ref (62)) dX10_ring_72 fl_Model_25 rfl rfl (by decide) rfl ?_
        refine ex_iload_n (i := 3) dX10_ring_75 rfl rfl ?_
        refine ex_ialdN dX10_ring_76 rfl (by decide) (by omega) rfl ?_
        refine ex_asI (y := (-1)) o1 ?_
        refine ex_iconst (v := nI 1) dX10_ring_77 (by decide) ?_
        refine ex_icmp_le (tgt := 107) dX10_ring_78 (by decide) (fun h78 => ?_) (fun h78 => by exact absurd (by decide) h78)
        exact ex_less (L' := [some (.ref 56), some (.int (nI r)), some (.int (nI p)), none]) (by simp [xSub]) X
      · rw [if_neg op0] at o1
        by_cases op1 : op (15 * r + p) = 1
        · have X := NX i1 0 hf e0 (by unfold eqm; rw [ej, op1, if_neg (by decide), if_neg (by decide)]; rfl) (fun _ _ => rfl)
          refine ex_iload_n (i := 2) dX10_ring_23 rfl rfl ?_
          refine ex_bipush (v := nI 15) dX10_ring_24 (by decide) ?_
          refine ex_icmp_geN (tgt := 113) dX10_ring_26 (by decide) (by omega) (by omega) (fun h26 => by omega) (fun h26 => ?_)
          refine ex_bipush (v := nI 15) dX10_ring_29 (by decide) ?_
          refine ex_iload_n (i := 1) dX10_ring_31 rfl rfl ?_
          refine ex_imulN dX10_ring_32 ?_
          refine ex_iload_n (i := 2) dX10_ring_33 rfl rfl ?_
          refine ex_iaddN dX10_ring_34 ?_
          refine ex_istore_n (L' := [some (.ref (56)), some (.int (nI (r))), some (.int (nI (p))), some (.int (nI ((15 * r) + p)))]) dX10_ring_35 (i := 3) rfl (by decide) rfl ?_
          refine ex_aload_n (i := 0) dX10_ring_36 rfl rfl ?_
          refine ex_getR (v := .ref (62)) dX10_ring_37 fl_Model_25 rfl rfl (by decide) rfl ?_
          refine ex_iload_n (i := 3) dX10_ring_40 rfl rfl ?_
          refine ex_ialdN dX10_ring_41 rfl (by decide) (by omega) rfl ?_
          refine ex_asN (a := op (15 * r + p) - 1) o1 ?_
          refine ex_if_leN (tgt := 71) dX10_ring_42 (by decide) (by omega) (fun h42 => ?_) (fun h42 => by omega)
          refine ex_aload_n (i := 0) dX10_ring_71 rfl rfl ?_
          refine ex_getR (v := .ref (62)) dX10_ring_72 fl_Model_25 rfl rfl (by decide) rfl ?_
          refine ex_iload_n (i := 3) dX10_ring_75 rfl rfl ?_
          refine ex_ialdN dX10_ring_76 rfl (by decide) (by omega) rfl ?_
          refine ex_asN (a := op (15 * r + p) - 1) o1 ?_
          refine ex_iconst (v := nI 1) dX10_ring_77 (by decide) ?_
          refine ex_icmp_leN (tgt := 107) dX10_ring_78 (by decide) (by omega) (by omega) (fun h78 => ?_) (fun h78 => by omega)
          exact ex_less (L' := [some (.ref 56), some (.int (nI r)), some (.int (nI p)), none]) (by simp [xSub]) X
        · obtain ⟨c, c1, c2, c3, c4⟩ := o4 (by omega)
          have hx15 := es.2.1 (15 * r + p) (by omega)
          have F1 : Fm [75] [] i (xU i1 75 p (nI (0 ||| 1 * 2 ^ xp (15 * r + p)))) := hf.U (by decide) (by decide)
          by_cases op2 : op (15 * r + p) = 2
          · have X := NX _ (0 ||| 1 * 2 ^ xp (15 * r + p)) F1 (by rw [xU_at]; simp only [upd, if_true]) (by unfold eqm; rw [ej, if_pos (by omega), if_neg (by omega), Nat.zero_or, Nat.or_zero, Nat.one_mul]) (fun j hj => by rw [xU_at]; unfold upd; rw [if_neg hj])
            refine ex_iload_n (i := 2) dX10_ring_23 rfl rfl ?_
            refine ex_bipush (v := nI 15) dX10_ring_24 (by decide) ?_
            refine ex_icmp_geN (tgt := 113) dX10_ring_26 (by decide) (by omega) (by omega) (fun h26 => by omega) (fun h26 => ?_)
            refine ex_bipush (v := nI 15) dX10_ring_29 (by decide) ?_
            refine ex_iload_n (i := 1) dX10_ring_31 rfl rfl ?_
            refine ex_imulN dX10_ring_32 ?_
            refine ex_iload_n (i := 2) dX10_ring_33 rfl rfl ?_
            refine ex_iaddN dX10_ring_34 ?_
            refine ex_istore_n (L' := [some (.ref (56)), some (.int (nI (r))), some (.int (nI (p))), some (.int (nI ((15 * r) + p)))]) dX10_ring_35 (i := 3) rfl (by decide) rfl ?_
            refine ex_aload_n (i := 0) dX10_ring_36 rfl rfl ?_
            refine ex_getR (v := .ref (62)) dX10_ring_37 fl_Model_25 rfl rfl (by decide) rfl ?_
            refine ex_iload_n (i := 3) dX10_ring_40 rfl rfl ?_
            refine ex_ialdN dX10_ring_41 rfl (by decide) (by omega) rfl ?_
            refine ex_asN (a := op (15 * r + p) - 1) o1 ?_
            refine ex_if_leN (tgt := 71) dX10_ring_42 (by decide) (by omega) (fun h42 => by omega) (fun h42 => ?_)
            refine ex_aload_n (i := 0) dX10_ring_45 rfl rfl ?_
            refine ex_iload_n (i := 2) dX10_ring_46 rfl rfl ?_
            refine ex_aload_n (i := 0) dX10_ring_47 rfl rfl ?_
            refine ex_getR (v := .ref (63)) dX10_ring_48 fl_Model_28 rfl rfl (by decide) rfl ?_
            refine ex_iload_n (i := 3) dX10_ring_51 rfl rfl ?_
            refine ex_ialdN dX10_ring_52 rfl (by decide) (by omega) rfl ?_
            refine ex_asN (a := c) c1 ?_
            refine ex_bipush (v := nI 10) dX10_ring_53 (by decide) ?_
            refine ex_idivN dX10_ring_55 (by omega) (by decide) (by decide) ?_
            refine ex_iconst (v := nI 3) dX10_ring_56 (by decide) ?_
            refine ex_imulN dX10_ring_57 ?_
            refine ex_aload_n (i := 0) dX10_ring_58 rfl rfl ?_
            refine ex_getR (v := .ref (63)) dX10_ring_59 fl_Model_28 rfl rfl (by decide) rfl ?_
            refine ex_iload_n (i := 3) dX10_ring_62 rfl rfl ?_
            refine ex_ialdN dX10_ring_63 rfl (by decide) (by omega) rfl ?_
            refine ex_asN (a := c) c1 ?_
            refine ex_bipush (v := nI 10) dX10_ring_64 (by decide) ?_
            refine ex_iremN dX10_ring_66 (by omega) (by decide) (by decide) ?_
            refine ex_iaddN dX10_ring_67 ?_
            refine ex_asN (a := xp (15 * r + p)) (by rw [← c4]) ?_
            refine ex_cV (ν := m_Model_hang) (a := 56) (ci := 10) (as := [.int (nI (p)), .int (nI (xp (15 * r + p)))]) dX10_ring_68 ln_Model_189 mf_Model_hang rfl (Nat.le_of_ble_eq_true rfl) rfl rfl np_Model_hang rfl rfl ⟨(Nat.le_of_ble_eq_true rfl), (Nat.le_of_ble_eq_true rfl), (Nat.le_of_ble_eq_true rfl), (Nat.le_of_ble_eq_true rfl)⟩ (by decide) ?_
            refine sp_Model_hang (v := 0) (by omega) hx15 e0 ?_
            refine ⟨_, rfl, ?_⟩
            refine ex_aload_n (i := 0) dX10_ring_71 rfl rfl ?_
            refine ex_getR (v := .ref (62)) dX10_ring_72 fl_Model_25 rfl rfl (by decide) rfl ?_
            refine ex_iload_n (i := 3) dX10_ring_75 rfl rfl ?_
            refine ex_ialdN dX10_ring_76 rfl (by decide) (by omega) rfl ?_
            refine ex_asN (a := op (15 * r + p) - 1) o1 ?_
            refine ex_iconst (v := nI 1) dX10_ring_77 (by decide) ?_
            refine ex_icmp_leN (tgt := 107) dX10_ring_78 (by decide) (by omega) (by omega) (fun h78 => ?_) (fun h78 => by omega)
            exact ex_less (L' := [some (.ref 56), some (.int (nI r)), some (.int (nI p)), none]) (by simp [xSub]) X
          · obtain ⟨c', c1', c2', c3', c4'⟩ := o5 (by omega)
            have hy15 := es.2.2 (15 * r + p) (by omega)
            have e1 : xU i1 75 p (nI (0 ||| 1 * 2 ^ xp (15 * r + p))) 75 p = nI (0 ||| 1 * 2 ^ xp (15 * r + p)) := by rw [xU_at]; simp only [upd, if_true]
            have X := NX (xU (xU i1 75 p (nI (0 ||| 1 * 2 ^ xp (15 * r + p)))) 75 p (nI ((0 ||| 1 * 2 ^ xp (15 * r + p)) ||| 1 * 2 ^ yp (15 * r + p)))) ((0 ||| 1 * 2 ^ xp (15 * r + p)) ||| 1 * 2 ^ yp (15 * r + p)) (F1.U (by decide) (by decide)) (by rw [xU_at]; simp only [upd, if_true]) (by unfold eqm; rw [ej, if_pos (by omega), if_pos (by omega), Nat.zero_or, Nat.one_mul, Nat.one_mul]) (fun j hj => by rw [xU_at, xU_at]; unfold upd; rw [if_neg hj, if_neg hj])
            refine ex_iload_n (i := 2) dX10_ring_23 rfl rfl ?_
            refine ex_bipush (v := nI 15) dX10_ring_24 (by decide) ?_
            refine ex_icmp_geN (tgt := 113) dX10_ring_26 (by decide) (by omega) (by omega) (fun h26 => by omega) (fun h26 => ?_)
            refine ex_bipush (v := nI 15) dX10_ring_29 (by decide) ?_
            refine ex_iload_n (i := 1) dX10_ring_31 rfl rfl ?_
            refine ex_imulN dX10_ring_32 ?_
            refine ex_iload_n (i := 2) dX10_ring_33 rfl rfl ?_
            refine ex_iaddN dX10_ring_34 ?_
            refine ex_istore_n (L' := [some (.ref (56)), some (.int (nI (r))), some (.int (nI (p))), some (.int (nI ((15 * r) + p)))]) dX10_ring_35 (i := 3) rfl (by decide) rfl ?_
            refine ex_aload_n (i := 0) dX10_ring_36 rfl rfl ?_
            refine ex_getR (v := .ref (62)) dX10_ring_37 fl_Model_25 rfl rfl (by decide) rfl ?_
            refine ex_iload_n (i := 3) dX10_ring_40 rfl rfl ?_
            refine ex_ialdN dX10_ring_41 rfl (by decide) (by omega) rfl ?_
            refine ex_asN (a := op (15 * r + p) - 1) o1 ?_
            refine ex_if_leN (tgt := 71) dX10_ring_42 (by decide) (by omega) (fun h42 => by omega) (fun h42 => ?_)
            refine ex_aload_n (i := 0) dX10_ring_45 rfl rfl ?_
            refine ex_iload_n (i := 2) dX10_ring_46 rfl rfl ?_
            refine ex_aload_n (i := 0) dX10_ring_47 rfl rfl ?_
            refine ex_getR (v := .ref (63)) dX10_ring_48 fl_Model_28 rfl rfl (by decide) rfl ?_
            refine ex_iload_n (i := 3) dX10_ring_51 rfl rfl ?_
            refine ex_ialdN dX10_ring_52 rfl (by decide) (by omega) rfl ?_
            refine ex_asN (a := c) c1 ?_
            refine ex_bipush (v := nI 10) dX10_ring_53 (by decide) ?_
            refine ex_idivN dX10_ring_55 (by omega) (by decide) (by decide) ?_
            refine ex_iconst (v := nI 3) dX10_ring_56 (by decide) ?_
            refine ex_imulN dX10_ring_57 ?_
            refine ex_aload_n (i := 0) dX10_ring_58 rfl rfl ?_
            refine ex_getR (v := .ref (63)) dX10_ring_59 fl_Model_28 rfl rfl (by decide) rfl ?_
            refine ex_iload_n (i := 3) dX10_ring_62 rfl rfl ?_
            refine ex_ialdN dX10_ring_63 rfl (by decide) (by omega) rfl ?_
            refine ex_asN (a := c) c1 ?_
            refine ex_bipush (v := nI 10) dX10_ring_64 (by decide) ?_
            refine ex_iremN dX10_ring_66 (by omega) (by decide) (by decide) ?_
            refine ex_iaddN dX10_ring_67 ?_
            refine ex_asN (a := xp (15 * r + p)) (by rw [← c4]) ?_
            refine ex_cV (ν := m_Model_hang) (a := 56) (ci := 10) (as := [.int (nI (p)), .int (nI (xp (15 * r + p)))]) dX10_ring_68 ln_Model_189 mf_Model_hang rfl (Nat.le_of_ble_eq_true rfl) rfl rfl np_Model_hang rfl rfl ⟨(Nat.le_of_ble_eq_true rfl), (Nat.le_of_ble_eq_true rfl), (Nat.le_of_ble_eq_true rfl), (Nat.le_of_ble_eq_true rfl)⟩ (by decide) ?_
            refine sp_Model_hang (v := 0) (by omega) hx15 e0 ?_
            refine ⟨_, rfl, ?_⟩
            refine ex_aload_n (i := 0) dX10_ring_71 rfl rfl ?_
            refine ex_getR (v := .ref (62)) dX10_ring_72 fl_Model_25 rfl rfl (by decide) rfl ?_
            refine ex_iload_n (i := 3) dX10_ring_75 rfl rfl ?_
            refine ex_ialdN dX10_ring_76 rfl (by decide) (by omega) rfl ?_
            refine ex_asN (a := op (15 * r + p) - 1) o1 ?_
            refine ex_iconst (v := nI 1) dX10_ring_77 (by decide) ?_
            refine ex_icmp_leN (tgt := 107) dX10_ring_78 (by decide) (by omega) (by omega) (fun h78 => by omega) (fun h78 => ?_)
            refine ex_aload_n (i := 0) dX10_ring_81 rfl rfl ?_
            refine ex_iload_n (i := 2) dX10_ring_82 rfl rfl ?_
            refine ex_aload_n (i := 0) dX10_ring_83 rfl rfl ?_
            refine ex_getR (v := .ref (64)) dX10_ring_84 fl_Model_31 rfl rfl (by decide) rfl ?_
            refine ex_iload_n (i := 3) dX10_ring_87 rfl rfl ?_
            refine ex_ialdN dX10_ring_88 rfl (by decide) (by omega) rfl ?_
            refine ex_asN (a := c') c1' ?_
            refine ex_bipush (v := nI 10) dX10_ring_89 (by decide) ?_
            refine ex_idivN dX10_ring_91 (by omega) (by decide) (by decide) ?_
            refine ex_iconst (v := nI 3) dX10_ring_92 (by decide) ?_
            refine ex_imulN dX10_ring_93 ?_
            refine ex_aload_n (i := 0) dX10_ring_94 rfl rfl ?_
            refine ex_getR (v := .ref (64)) dX10_ring_95 fl_Model_31 rfl rfl (by decide) rfl ?_
            refine ex_iload_n (i := 3) dX10_ring_98 rfl rfl ?_
            refine ex_ialdN dX10_ring_99 rfl (by decide) (by omega) rfl ?_
            refine ex_asN (a := c') c1' ?_
            refine ex_bipush (v := nI 10) dX10_ring_100 (by decide) ?_
            refine ex_iremN dX10_ring_102 (by omega) (by decide) (by decide) ?_
            refine ex_iaddN dX10_ring_103 ?_
            refine ex_asN (a := yp (15 * r + p)) (by rw [← c4']) ?_
            refine ex_cV (ν := m_Model_hang) (a := 56) (ci := 10) (as := [.int (nI (p)), .int (nI (yp (15 * r + p)))]) dX10_ring_104 ln_Model_189 mf_Model_hang rfl (Nat.le_of_ble_eq_true rfl) rfl rfl np_Model_hang rfl rfl ⟨(Nat.le_of_ble_eq_true rfl), (Nat.le_of_ble_eq_true rfl), (Nat.le_of_ble_eq_true rfl), (Nat.le_of_ble_eq_true rfl)⟩ (by decide) ?_
            refine sp_Model_hang (by omega) hy15 e1 ?_
            refine ⟨_, rfl, ?_⟩
            exact ex_less (L' := [some (.ref 56), some (.int (nI r)), some (.int (nI p)), none]) (by simp [xSub]) X
  -- cleared
  have Z1 : ∀ d p i1, p + d = 15 → Fm [75] [] i i1 → (∀ j, j < p → i1 75 j = nI 0) → Wx m_Model_ring 2 [some (.ref 56), some (.int (nI r)), some (.int (nI p)), none] [] (94, g, i1, q, RT t) (0, 0) Q := by
    intro d
    induction d with
    | zero =>
      intro p i1 hpd hf h
      have e : p = 15 := hpd
      subst e
      refine ex_iload_n (i := 2) dX10_ring_2 rfl rfl ?_
      refine ex_bipush (v := nI 15) dX10_ring_3 (by decide) ?_
      refine ex_icmp_geN (tgt := 21) dX10_ring_5 (by decide) (by decide) (by decide) (fun h5 => ?_) (fun h5 => by exact absurd h5 (by decide))
      refine ex_iconst (v := nI 0) dX10_ring_21 (by decide) ?_
      refine ex_istore_n (L' := [some (.ref (56)), some (.int (nI (r))), some (.int (nI (0))), none]) dX10_ring_22 (i := 2) rfl (by decide) rfl ?_
      exact EQ2 15 0 i1 rfl hf (fun j hj => by omega) (fun j _ hj => h j hj)
    | succ d ih =>
      intro p i1 hpd hf h
      refine ex_iload_n (i := 2) dX10_ring_2 rfl rfl ?_
      refine ex_bipush (v := nI 15) dX10_ring_3 (by decide) ?_
      refine ex_icmp_geN (tgt := 21) dX10_ring_5 (by decide) (by omega) (by omega) (fun h5 => by omega) (fun h5 => ?_)
      refine ex_aload_n (i := 0) dX10_ring_8 rfl rfl ?_
      refine ex_getR (v := .ref (75)) dX10_ring_9 fl_Model_65 rfl rfl (by decide) rfl ?_
      refine ex_iload_n (i := 2) dX10_ring_12 rfl rfl ?_
      refine ex_iconst (v := nI 0) dX10_ring_13 (by decide) ?_
      refine ex_iastN dX10_ring_14 rfl (by decide) (by omega) ?_
      refine ex_iincN (L' := [some (.ref (56)), some (.int (nI (r))), some (.int (nI (p + 1))), none]) dX10_ring_15 rfl rfl (by decide) rfl ?_
      refine ex_goto (tgt := 2) dX10_ring_18 (by decide) ?_
      refine ih (p + 1) _ (by omega) (hf.U (by decide) (by decide)) (fun j hj => ?_)
      rw [xU_at]; unfold upd
      by_cases e : j = p
      · rw [if_pos e]
      · rw [if_neg e]; exact h j (by omega)
  refine ex_iconst (v := nI 0) dX10_ring_0 (by decide) ?_
  refine ex_istore_n (L' := [some (.ref (56)), some (.int (nI (r))), some (.int (nI (0))), none]) dX10_ring_1 (i := 2) rfl (by decide) rfl ?_
  exact Z1 15 0 i rfl Fm.rf (fun j h => by omega)
end S73
