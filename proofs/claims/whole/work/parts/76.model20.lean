/-! ===== the reference: make, shifts ===== -/
/-- the nodes at work, as the machine of numbers has them -/
def WK (md : Nat) (nd tk : Nat → Int32) (i1 : Nat → Nat → Int32) : Prop := ∀ j, j < md → i1 81 j = nd (j * 8 + 0) ∧ i1 82 j = nd (j * 8 + 1) ∧ i1 83 j = nd (j * 8 + 2) ∧ i1 84 j = nd (j * 8 + 3) ∧ i1 85 j = tk j
/-- the stack -/
def SK (hi : Nat) (ss sn : Nat → Nat) (md S : Nat) (i1 : Nat → Nat → Int32) : Prop := (∀ j, j ≤ hi → i1 79 j = nI (ss j) ∧ ss j < S) ∧ ∀ j, 1 ≤ j → j ≤ hi → i1 80 j = nI (sn j) ∧ sn j < md
theorem SK.fm {hi md S : Nat} {ss sn : Nat → Nat} {i i' : Nat → Nat → Int32} {l ks : List Nat} (h : SK hi ss sn md S i) (hf : Fm l ks i i') (h1 : 79 ∉ l) (h2 : 80 ∉ l) : SK hi ss sn md S i' :=
  ⟨fun j hj => by rw [hf.1 79 h1 (by decide)]; exact h.1 j hj, fun j a b => by rw [hf.1 80 h2 (by decide)]; exact h.2 j a b⟩
theorem rnN_k {nd : Nat → Int32} {md j k : Nat} {x y : Int32} (hk : k < 4) : rnN nd md x y (j * 8 + k) = if j = md then (if k = 0 then x else if k = 1 then y else if k = 2 then -1 else nI 0) else nd (j * 8 + k) := by
  unfold rnN upd
  by_cases e : j = md
  · rw [if_pos e, e]
    rcases (show k = 0 ∨ k = 1 ∨ k = 2 ∨ k = 3 by omega) with rfl | rfl | rfl | rfl
    · rw [if_neg (by omega), if_neg (by omega), if_neg (by omega), if_pos rfl]; rfl
    · rw [if_neg (by omega), if_neg (by omega), if_pos rfl]; rfl
    · rw [if_neg (by omega), if_pos rfl]; rfl
    · rw [if_pos rfl]; rfl
  · rw [if_neg e, if_neg (by omega), if_neg (by omega), if_neg (by omega), if_neg (by omega)]
theorem scN_k {nd : Nat → Int32} {a k c j m : Nat} (hm : m < 4) (hk : 1 ≤ k ∧ k ≤ 4) : scN nd a k c (j * 8 + m) = if j = c ∧ m = 2 then nI a else if j = c ∧ m = 3 then nI k else nd (j * 8 + m) := by
  unfold scN upd
  by_cases e : j = c
  · rw [e]
    rcases (show m = 0 ∨ m = 1 ∨ m = 2 ∨ m = 3 by omega) with rfl | rfl | rfl | rfl
    · rw [if_neg (by omega), if_neg (by omega), if_neg (by omega), if_neg (by omega), if_neg (by omega)]
    · rw [if_neg (by omega), if_neg (by omega), if_neg (by omega), if_neg (by omega), if_neg (by omega)]
    · rw [if_neg (by omega), if_pos rfl, if_pos ⟨rfl, rfl⟩]
    · rw [if_pos rfl, if_neg (by omega), if_pos ⟨rfl, rfl⟩]
  · rw [if_neg (by omega), if_neg (by omega), if_neg (by omega), if_neg (fun z => e z.1), if_neg (fun z => e z.1)]
section S76
variable {g : Nat} {i : Nat → Nat → Int32} {q : Nat → Nat → Int64} {t : Bool} {Q : xRes → xMem → Prop} {n : Nat} {sy : Nat → Nat → Nat} {D : Nat → Nat → Int32} {G : Nat → Nat → Nat} {nt S : Nat} {TT : Nat → Nat}
theorem sp_Model_make {a : Nat} {x y z : Int32} (h35 : i 56 35 = nI a) (ha : a < 150)
    (hQ : ∀ i1, Fm [81, 82, 83, 84, 85] [35] i i1 → i1 56 35 = nI (a + 1) → i1 81 = upd (i 81) a x → i1 82 = upd (i 82) a y → i1 83 = upd (i 83) a (-1) → i1 84 = upd (i 84) a (nI 0) → i1 85 = upd (i 85) a z → Q (.ok none) (94, g, i1, q, RT t)) :
    Wx m_Model_make 0 [some (.ref 56), some (.int x), some (.int y), some (.int z)] [] (94, g, i, q, RT t) (0, 0) Q := by
  refine ex_aload_n (i := 0) dX10_make_0 rfl rfl ?_
  refine ex_getR (v := .ref (81)) dX10_make_1 fl_Model_83 rfl rfl (by decide) rfl ?_
  refine ex_aload_n (i := 0) dX10_make_4 rfl rfl ?_
  refine ex_getI dX10_make_5 fl_Model_227 rfl rfl (by decide) ?_
  refine ex_asN (a := a) h35 ?_
  refine ex_iload_n (i := 1) dX10_make_8 rfl rfl ?_
  refine ex_iastN dX10_make_9 rfl (by decide) (by omega) ?_
  refine ex_aload_n (i := 0) dX10_make_10 rfl rfl ?_
  refine ex_getR (v := .ref (82)) dX10_make_11 fl_Model_86 rfl rfl (by decide) rfl ?_
  refine ex_aload_n (i := 0) dX10_make_14 rfl rfl ?_
  refine ex_getI dX10_make_15 fl_Model_227 rfl rfl (by decide) ?_
  refine ex_asN (a := a) h35 ?_
  refine ex_iload_n (i := 2) dX10_make_18 rfl rfl ?_
  refine ex_iastN dX10_make_19 rfl (by decide) (by omega) ?_
  refine ex_aload_n (i := 0) dX10_make_20 rfl rfl ?_
  refine ex_getR (v := .ref (85)) dX10_make_21 fl_Model_95 rfl rfl (by decide) rfl ?_
  refine ex_aload_n (i := 0) dX10_make_24 rfl rfl ?_
  refine ex_getI dX10_make_25 fl_Model_227 rfl rfl (by decide) ?_
  refine ex_asN (a := a) h35 ?_
  refine ex_iload_n (i := 3) dX10_make_28 rfl rfl ?_
  refine ex_iastN dX10_make_29 rfl (by decide) (by omega) ?_
  refine ex_aload_n (i := 0) dX10_make_30 rfl rfl ?_
  refine ex_getR (v := .ref (83)) dX10_make_31 fl_Model_89 rfl rfl (by decide) rfl ?_
  refine ex_aload_n (i := 0) dX10_make_34 rfl rfl ?_
  refine ex_getI dX10_make_35 fl_Model_227 rfl rfl (by decide) ?_
  refine ex_asN (a := a) h35 ?_
  refine ex_iconst (v := -1) dX10_make_38 (by decide) ?_
  refine ex_iastN dX10_make_39 rfl (by decide) (by omega) ?_
  refine ex_aload_n (i := 0) dX10_make_40 rfl rfl ?_
  refine ex_getR (v := .ref (84)) dX10_make_41 fl_Model_92 rfl rfl (by decide) rfl ?_
  refine ex_aload_n (i := 0) dX10_make_44 rfl rfl ?_
  refine ex_getI dX10_make_45 fl_Model_227 rfl rfl (by decide) ?_
  refine ex_asN (a := a) h35 ?_
  refine ex_iconst (v := nI 0) dX10_make_48 (by decide) ?_
  refine ex_iastN dX10_make_49 rfl (by decide) (by omega) ?_
  refine ex_aload_n (i := 0) dX10_make_50 rfl rfl ?_
  refine ex_dup dX10_make_51 rfl ?_
  refine ex_getI dX10_make_52 fl_Model_227 rfl rfl (by decide) ?_
  refine ex_asN (a := a) h35 ?_
  refine ex_iconst (v := nI 1) dX10_make_55 (by decide) ?_
  refine ex_iaddN dX10_make_56 ?_
  refine ex_putI dX10_make_57 fl_Model_227 cf_10 rfl (Or.inl rfl) rfl rfl rfl (by decide) ?_
  refine ex_ret dX10_make_60 rfl ?_
  refine hQ _ ((((((Fm.rf.U (by decide) (by decide)).U (by decide) (by decide)).U (by decide) (by decide)).U (by decide) (by decide)).U (by decide) (by decide)).F (by decide)) ?_ ?_ ?_ ?_ ?_ ?_
  · simp [xU, upd]
  · simp [xU]
  · simp [xU]
  · simp [xU]
  · simp [xU]
  · simp [xU]
theorem WK.make {md : Nat} {nd tk : Nat → Int32} {i1 i2 : Nat → Nat → Int32} {x y z : Int32} (h : WK md nd tk i1) (e81 : i2 81 = upd (i1 81) md x) (e82 : i2 82 = upd (i1 82) md y) (e83 : i2 83 = upd (i1 83) md (-1)) (e84 : i2 84 = upd (i1 84) md (nI 0)) (e85 : i2 85 = upd (i1 85) md z) : WK (md + 1) (rnN nd md x y) (upd tk md z) i2 := by
  intro j hj
  rw [e81, e82, e83, e84, e85, rnN_k (by decide), rnN_k (by decide), rnN_k (by decide), rnN_k (by decide)]
  unfold upd
  by_cases e : j = md
  · rw [if_pos e, if_pos e, if_pos e, if_pos e, if_pos e, if_pos e, if_pos e, if_pos e, if_pos e, if_pos e]
    exact ⟨rfl, rfl, rfl, rfl, rfl⟩
  · rw [if_neg e, if_neg e, if_neg e, if_neg e, if_neg e, if_neg e, if_neg e, if_neg e, if_neg e, if_neg e]
    exact h j (by omega)
theorem WK.kid {md k c : Nat} {nd tk : Nat → Int32} {i1 i2 : Nat → Nat → Int32} (h : WK (md + 1) nd tk i1) (hk : 1 ≤ k ∧ k ≤ 4) (e81 : i2 81 = i1 81) (e82 : i2 82 = i1 82) (e83 : i2 83 = upd (i1 83) c (nI md)) (e84 : i2 84 = upd (i1 84) c (nI k)) (e85 : i2 85 = i1 85) : WK (md + 1) (scN nd md k c) tk i2 := by
  intro j hj
  obtain ⟨a, b, c1, d, e⟩ := h j hj
  rw [e81, e82, e83, e84, e85, scN_k (by decide) hk, scN_k (by decide) hk, scN_k (by decide) hk, scN_k (by decide) hk]
  unfold upd
  by_cases z : j = c
  · rw [if_pos z, if_pos z, if_neg (by omega), if_neg (by omega), if_neg (by omega), if_neg (by omega), if_pos ⟨z, rfl⟩, if_neg (by omega), if_pos ⟨z, rfl⟩]
    exact ⟨a, b, rfl, rfl, e⟩
  · rw [if_neg z, if_neg z, if_neg (fun y => z y.1), if_neg (fun y => z y.1), if_neg (fun y => z y.1), if_neg (fun y => z y.1), if_neg (fun y => z y.1), if_neg (fun y => z y.1), if_neg (fun y => z y.1), if_neg (fun y => z y.1)]
    exact ⟨a, b, c1, d, e⟩
theorem lp_Model_shifts {R : Int32 → Nat → (Nat → Int32) → (Nat → Int32) → Prop} (rg : RG i n sy) (h27 : i 56 27 = nI nt) (hnt : nt ≤ 40) (hTT : ∀ j, j < nt → i 77 j = nI (TT j) ∧ 1 ≤ TT j ∧ TT j ≤ 6) (hS : S ≤ 50) (hD : ∀ s x, s < S → x < 7 → i 73 (7 * s + x) = D s x) (hG : ∀ s x, s < S → 8 ≤ x → x < 14 → i 67 (14 * s + x) = nI (G s x) ∧ G s x < S) (hDS : ∀ s x k, s < S → x < 7 → D s x = nI k → 0 < k → k < 50 → k < S)
    (hQ0 : ∀ md nd tk i1, R (-1) md nd tk → Fm [79, 80, 81, 82, 83, 84, 85] [35, 44] i i1 → i1 56 35 = nI md → md ≤ 150 → WK md nd tk i1 → i1 56 44 = i 56 44 → Q (.ok (some (.int (nI 0)))) (94, g, i1, q, RT t))
    (hQ2 : ∀ md nd tk i1, R (-2) md nd tk → Fm [79, 80, 81, 82, 83, 84, 85] [35, 44] i i1 → i1 56 44 = i 56 44 → Q (.ok (some (.int (nI 2)))) (94, g, i1, q, RT t))
    (hQ3 : ∀ k md nd tk i1, R (nI k) md nd tk → k ≤ nt → Fm [79, 80, 81, 82, 83, 84, 85] [35, 44] i i1 → i1 56 44 = nI k → Q (.ok (some (.int (nI 3)))) (94, g, i1, q, RT t)) :
    ∀ f nx hi md ss sn nd tk i1, f + md = 150 → nx ≤ nt → hi ≤ md → Fm [79, 80, 81, 82, 83, 84, 85] [35, 44] i i1 → i1 56 35 = nI md → i1 56 44 = i 56 44 → SK hi ss sn md S i1 → WK md nd tk i1 → LrP D G n sy nt TT R f nx (hi + 1) md ss sn nd tk →
      Wx m_Model_shifts 16 [some (.ref 56), some (.int (nI hi)), some (.int (nI nx)), none, none, none] [] (94, g, i1, q, RT t) (0, 0) Q := by
  have gw := rg.2.2.2.2
  have hn := gw.1
  intro f
  induction f with
  | zero =>
    intro nx hi md ss sn nd tk i1 hf hnx hhi hfm h35 h44 hsk hwk hL
    have hmd : md = 150 := by omega
    have hs := hsk.1 hi (Nat.le_refl _)
    have hx7 : tkA nt TT nx < 7 := by
      unfold tkA; split
      · rename_i hlt; have := (hTT nx hlt).2; omega
      · omega
    have hd : i1 73 (7 * ss hi + tkA nt TT nx) = D (ss hi) (tkA nt TT nx) := by rw [hfm.1 73 (by decide) (by decide)]; exact hD _ _ hs.2 hx7
    have e27 : i1 56 27 = nI nt := by rw [hfm.2 27 (by decide)]; exact h27
    unfold LrP at hL
    rw [show hi + 1 - 1 = hi by omega] at hL
    obtain ⟨vd, hvd⟩ : ∃ vd, vd = D (ss hi) (tkA nt TT nx) := ⟨_, rfl⟩
    rw [← hvd] at hL hd
    have H50 : Wx m_Model_shifts 50 [some (.ref 56), some (.int (nI hi)), some (.int (nI nx)), some (.int vd), none, none] [] (94, g, i1, q, RT t) (0, 0) Q := by
      by_cases c1 : vd = nI 1000
      · rw [if_pos c1] at hL
        refine ex_iload_n (i := 3) dX10_shifts_50 rfl rfl ?_
        refine ex_sipush (v := nI 1000) dX10_shifts_51 (by decide) ?_
        refine ex_icmp_ne (tgt := 59) dX10_shifts_54 (by decide) (fun h54 => by exact absurd c1 h54) (fun h54 => ?_)
        refine ex_iconst (v := nI 0) dX10_shifts_57 (by decide) ?_
        refine ex_iret dX10_shifts_58 rfl rfl ?_
        exact hQ0 md nd tk i1 hL hfm h35 (by omega) hwk h44
      · rw [if_neg c1] at hL
        by_cases c2 : vd = nI 0
        · rw [if_pos c2] at hL
          refine ex_iload_n (i := 3) dX10_shifts_50 rfl rfl ?_
          refine ex_sipush (v := nI 1000) dX10_shifts_51 (by decide) ?_
          refine ex_icmp_ne (tgt := 59) dX10_shifts_54 (by decide) (fun h54 => ?_) (fun h54 => by exact absurd h54 c1)
          refine ex_iload_n (i := 3) dX10_shifts_59 rfl rfl ?_
          refine ex_if_ne (tgt := 70) dX10_shifts_60 (by decide) (fun h60 => by exact absurd c2 h60) (fun h60 => ?_)
          refine ex_aload_n (i := 0) dX10_shifts_63 rfl rfl ?_
          refine ex_iload_n (i := 2) dX10_shifts_64 rfl rfl ?_
          refine ex_putI dX10_shifts_65 fl_Model_120 cf_10 rfl (Or.inl rfl) rfl rfl rfl (by decide) ?_
          refine ex_iconst (v := nI 3) dX10_shifts_68 (by decide) ?_
          refine ex_iret dX10_shifts_69 rfl rfl ?_
          exact hQ3 nx md nd tk _ hL hnx (hfm.F (by decide)) (by rw [xU_at]; simp [upd])
        · rw [if_neg c2] at hL
          refine ex_iload_n (i := 3) dX10_shifts_50 rfl rfl ?_
          refine ex_sipush (v := nI 1000) dX10_shifts_51 (by decide) ?_
          refine ex_icmp_ne (tgt := 59) dX10_shifts_54 (by decide) (fun h54 => ?_) (fun h54 => by exact absurd h54 c1)
          refine ex_iload_n (i := 3) dX10_shifts_59 rfl rfl ?_
          refine ex_if_ne (tgt := 70) dX10_shifts_60 (by decide) (fun h60 => ?_) (fun h60 => by exact absurd h60 c2)
          refine ex_aload_n (i := 0) dX10_shifts_70 rfl rfl ?_
          refine ex_getI dX10_shifts_71 fl_Model_227 rfl rfl (by decide) ?_
          refine ex_asN (a := md) h35 ?_
          refine ex_sipush (v := nI 150) dX10_shifts_74 (by decide) ?_
          refine ex_icmp_neN (tgt := 82) dX10_shifts_77 (by decide) (by omega) (by omega) (fun h77 => by omega) (fun h77 => ?_)
          refine ex_iconst (v := nI 2) dX10_shifts_80 (by decide) ?_
          refine ex_iret dX10_shifts_81 rfl rfl ?_
          exact hQ2 md nd tk i1 hL hfm h44
    by_cases hx : nx < nt
    · have e : tkA nt TT nx = TT nx := if_pos hx
      rw [e] at hd
      have e77 : i1 77 nx = nI (TT nx) := by rw [hfm.1 77 (by decide) (by decide)]; exact (hTT nx hx).1
      refine ex_aload_n (i := 0) dX10_shifts_16 rfl rfl ?_
      refine ex_getR (v := .ref (73)) dX10_shifts_17 fl_Model_59 rfl rfl (by decide) rfl ?_
      refine ex_bipush (v := nI 7) dX10_shifts_20 (by decide) ?_
      refine ex_aload_n (i := 0) dX10_shifts_22 rfl rfl ?_
      refine ex_getR (v := .ref (79)) dX10_shifts_23 fl_Model_77 rfl rfl (by decide) rfl ?_
      refine ex_iload_n (i := 1) dX10_shifts_26 rfl rfl ?_
      refine ex_ialdN dX10_shifts_27 rfl (by decide) (by omega) rfl ?_
      refine ex_asN (a := ss hi) hs.1 ?_
      refine ex_imulN dX10_shifts_28 ?_
      refine ex_iload_n (i := 2) dX10_shifts_29 rfl rfl ?_
      refine ex_aload_n (i := 0) dX10_shifts_30 rfl rfl ?_
      refine ex_getI dX10_shifts_31 fl_Model_224 rfl rfl (by decide) ?_
      refine ex_asN (a := nt) e27 ?_
      refine ex_icmp_geN (tgt := 46) dX10_shifts_34 (by decide) (by omega) (by omega) (fun h34 => by omega) (fun h34 => ?_)
      refine ex_aload_n (i := 0) dX10_shifts_37 rfl rfl ?_
      refine ex_getR (v := .ref (77)) dX10_shifts_38 fl_Model_71 rfl rfl (by decide) rfl ?_
      refine ex_iload_n (i := 2) dX10_shifts_41 rfl rfl ?_
      refine ex_ialdN dX10_shifts_42 rfl (by decide) (by omega) rfl ?_
      refine ex_asN (a := TT nx) e77 ?_
      refine ex_goto (tgt := 47) dX10_shifts_43 (by decide) ?_
      refine ex_iaddN dX10_shifts_47 ?_
      refine ex_ialdN dX10_shifts_48 rfl (by decide) (by omega) rfl ?_
      refine ex_asI (y := vd) hd ?_
      refine ex_istore_n (L' := [some (.ref (56)), some (.int (nI (hi))), some (.int (nI (nx))), some (.int (vd)), none, none]) dX10_shifts_49 (i := 3) rfl (by decide) rfl ?_
      exact H50
    · have e : tkA nt TT nx = 0 := if_neg hx
      rw [e] at hd
      refine ex_aload_n (i := 0) dX10_shifts_16 rfl rfl ?_
      refine ex_getR (v := .ref (73)) dX10_shifts_17 fl_Model_59 rfl rfl (by decide) rfl ?_
      refine ex_bipush (v := nI 7) dX10_shifts_20 (by decide) ?_
      refine ex_aload_n (i := 0) dX10_shifts_22 rfl rfl ?_
      refine ex_getR (v := .ref (79)) dX10_shifts_23 fl_Model_77 rfl rfl (by decide) rfl ?_
      refine ex_iload_n (i := 1) dX10_shifts_26 rfl rfl ?_
      refine ex_ialdN dX10_shifts_27 rfl (by decide) (by omega) rfl ?_
      refine ex_asN (a := ss hi) hs.1 ?_
      refine ex_imulN dX10_shifts_28 ?_
      refine ex_iload_n (i := 2) dX10_shifts_29 rfl rfl ?_
      refine ex_aload_n (i := 0) dX10_shifts_30 rfl rfl ?_
      refine ex_getI dX10_shifts_31 fl_Model_224 rfl rfl (by decide) ?_
      refine ex_asN (a := nt) e27 ?_
      refine ex_icmp_geN (tgt := 46) dX10_shifts_34 (by decide) (by omega) (by omega) (fun h34 => ?_) (fun h34 => by omega)
      refine ex_iconst (v := nI 0) dX10_shifts_46 (by decide) ?_
      refine ex_iaddN dX10_shifts_47 ?_
      refine ex_ialdN dX10_shifts_48 rfl (by decide) (by omega) rfl ?_
      refine ex_asI (y := vd) hd ?_
      refine ex_istore_n (L' := [some (.ref (56)), some (.int (nI (hi))), some (.int (nI (nx))), some (.int (vd)), none, none]) dX10_shifts_49 (i := 3) rfl (by decide) rfl ?_
      exact H50
  | succ f ih =>
    intro nx hi md ss sn nd tk i1 hf hnx hhi hfm h35 h44 hsk hwk hL
    have hmd : md < 150 := by omega
    have hs := hsk.1 hi (Nat.le_refl _)
    have hx7 : tkA nt TT nx < 7 := by
      unfold tkA; split
      · rename_i hlt; have := (hTT nx hlt).2; omega
      · omega
    have hd : i1 73 (7 * ss hi + tkA nt TT nx) = D (ss hi) (tkA nt TT nx) := by rw [hfm.1 73 (by decide) (by decide)]; exact hD _ _ hs.2 hx7
    have e27 : i1 56 27 = nI nt := by rw [hfm.2 27 (by decide)]; exact h27
    have rg1 := rg.fm hfm (by decide) (by decide) (by decide) (by decide)
    unfold LrP at hL
    rw [show hi + 1 - 1 = hi by omega] at hL
    obtain ⟨vd, hvd⟩ : ∃ vd, vd = D (ss hi) (tkA nt TT nx) := ⟨_, rfl⟩
    have hdS := fun k => hDS (ss hi) (tkA nt TT nx) k hs.2 hx7
    rw [← hvd] at hL hd hdS
    have H50 : Wx m_Model_shifts 50 [some (.ref 56), some (.int (nI hi)), some (.int (nI nx)), some (.int vd), none, none] [] (94, g, i1, q, RT t) (0, 0) Q := by
      by_cases c1 : vd = nI 1000
      · rw [if_pos c1] at hL
        refine ex_iload_n (i := 3) dX10_shifts_50 rfl rfl ?_
        refine ex_sipush (v := nI 1000) dX10_shifts_51 (by decide) ?_
        refine ex_icmp_ne (tgt := 59) dX10_shifts_54 (by decide) (fun h54 => by exact absurd c1 h54) (fun h54 => ?_)
        refine ex_iconst (v := nI 0) dX10_shifts_57 (by decide) ?_
        refine ex_iret dX10_shifts_58 rfl rfl ?_
        exact hQ0 md nd tk i1 hL hfm h35 (by omega) hwk h44
      · rw [if_neg c1] at hL
        by_cases c2 : vd = nI 0
        · rw [if_pos c2] at hL
          refine ex_iload_n (i := 3) dX10_shifts_50 rfl rfl ?_
          refine ex_sipush (v := nI 1000) dX10_shifts_51 (by decide) ?_
          refine ex_icmp_ne (tgt := 59) dX10_shifts_54 (by decide) (fun h54 => ?_) (fun h54 => by exact absurd h54 c1)
          refine ex_iload_n (i := 3) dX10_shifts_59 rfl rfl ?_
          refine ex_if_ne (tgt := 70) dX10_shifts_60 (by decide) (fun h60 => by exact absurd c2 h60) (fun h60 => ?_)
          refine ex_aload_n (i := 0) dX10_shifts_63 rfl rfl ?_
          refine ex_iload_n (i := 2) dX10_shifts_64 rfl rfl ?_
          refine ex_putI dX10_shifts_65 fl_Model_120 cf_10 rfl (Or.inl rfl) rfl rfl rfl (by decide) ?_
          refine ex_iconst (v := nI 3) dX10_shifts_68 (by decide) ?_
          refine ex_iret dX10_shifts_69 rfl rfl ?_
          exact hQ3 nx md nd tk _ hL hnx (hfm.F (by decide)) (by rw [xU_at]; simp [upd])
        · rw [if_neg c2] at hL
          rcases hL with ⟨s, ds, hs0, hs50, hx, hL⟩ | ⟨r, hb, ds, hr, hh, hb1, hG50, hL⟩
          · have hsS := hdS s ds hs0 hs50
            have etk : tkA nt TT nx = TT nx := if_pos hx
            rw [etk] at hL
            have e77 : i1 77 nx = nI (TT nx) := by rw [hfm.1 77 (by decide) (by decide)]; exact (hTT nx hx).1
            rw [ds] at c1 c2 ⊢
            refine ex_iload_n (i := 3) dX10_shifts_50 rfl rfl ?_
            refine ex_sipush (v := nI 1000) dX10_shifts_51 (by decide) ?_
            refine ex_icmp_neN (tgt := 59) dX10_shifts_54 (by decide) (by omega) (by omega) (fun h54 => ?_) (fun h54 => by exact absurd (by rw [h54]) c1)
            refine ex_iload_n (i := 3) dX10_shifts_59 rfl rfl ?_
            refine ex_if_neN (tgt := 70) dX10_shifts_60 (by decide) (by omega) (fun h60 => ?_) (fun h60 => by omega)
            refine ex_aload_n (i := 0) dX10_shifts_70 rfl rfl ?_
            refine ex_getI dX10_shifts_71 fl_Model_227 rfl rfl (by decide) ?_
            refine ex_asN (a := md) h35 ?_
            refine ex_sipush (v := nI 150) dX10_shifts_74 (by decide) ?_
            refine ex_icmp_neN (tgt := 82) dX10_shifts_77 (by decide) (by omega) (by omega) (fun h77 => ?_) (fun h77 => by omega)
            refine ex_iload_n (i := 3) dX10_shifts_82 rfl rfl ?_
            refine ex_if_leN (tgt := 114) dX10_shifts_83 (by decide) (by omega) (fun h83 => by omega) (fun h83 => ?_)
            refine ex_aload_n (i := 0) dX10_shifts_86 rfl rfl ?_
            refine ex_aload_n (i := 0) dX10_shifts_87 rfl rfl ?_
            refine ex_getR (v := .ref (77)) dX10_shifts_88 fl_Model_71 rfl rfl (by decide) rfl ?_
            refine ex_iload_n (i := 2) dX10_shifts_91 rfl rfl ?_
            refine ex_ialdN dX10_shifts_92 rfl (by decide) (by omega) rfl ?_
            refine ex_asN (a := TT nx) e77 ?_
            refine ex_iconst (v := -1) dX10_shifts_93 (by decide) ?_
            refine ex_iload_n (i := 2) dX10_shifts_94 rfl rfl ?_
            refine ex_cV (ν := m_Model_make) (a := 56) (ci := 10) (as := [.int (nI (TT nx)), .int ((-1)), .int (nI (nx))]) dX10_shifts_95 ln_Model_230 mf_Model_make rfl (Nat.le_of_ble_eq_true rfl) rfl rfl np_Model_make rfl rfl ⟨(Nat.le_of_ble_eq_true rfl), (Nat.le_of_ble_eq_true rfl), (Nat.le_of_ble_eq_true rfl), (Nat.le_of_ble_eq_true rfl)⟩ (by decide) ?_
            refine sp_Model_make h35 hmd (fun i2 m1 m2 m3 m4 m5 m6 m7 => ?_)
            have hf2 : Fm [79, 80, 81, 82, 83, 84, 85] [35, 44] i i2 := hfm.tr (m1.mono (by decide) (by decide))
            have e442 : i2 56 44 = i 56 44 := (m1.2 44 (by decide)).trans h44
            have hsk2 := hsk.fm m1 (by decide) (by decide)
            have hwk2 := hwk.make m3 m4 m5 m6 m7
            refine ⟨_, rfl, ?_⟩
            refine ex_iincN (L' := [some (.ref (56)), some (.int (nI (hi))), some (.int (nI (nx + 1))), some (.int (nI (s))), none, none]) dX10_shifts_98 rfl rfl (by decide) rfl ?_
            refine ex_iincN (L' := [some (.ref (56)), some (.int (nI (hi + 1))), some (.int (nI (nx + 1))), some (.int (nI (s))), none, none]) dX10_shifts_101 rfl rfl (by decide) rfl ?_
            refine ex_aload_n (i := 0) dX10_shifts_104 rfl rfl ?_
            refine ex_getR (v := .ref (79)) dX10_shifts_105 fl_Model_77 rfl rfl (by decide) rfl ?_
            refine ex_iload_n (i := 1) dX10_shifts_108 rfl rfl ?_
            refine ex_iload_n (i := 3) dX10_shifts_109 rfl rfl ?_
            refine ex_iastN dX10_shifts_110 rfl (by decide) (by omega) ?_
            refine ex_goto (tgt := 233) dX10_shifts_111 (by decide) ?_
            refine ex_aload_n (i := 0) dX10_shifts_233 rfl rfl ?_
            refine ex_getR (v := .ref (80)) dX10_shifts_234 fl_Model_80 rfl rfl (by decide) rfl ?_
            refine ex_iload_n (i := 1) dX10_shifts_237 rfl rfl ?_
            refine ex_aload_n (i := 0) dX10_shifts_238 rfl rfl ?_
            refine ex_getI dX10_shifts_239 fl_Model_227 rfl rfl (by decide) ?_
            refine ex_asI (y := i2 (56) (35)) (by first | rfl | simp [xU, upd]) ?_
            refine ex_asN (a := md + 1) m2 ?_
            refine ex_iconst (v := nI 1) dX10_shifts_242 (by decide) ?_
            refine ex_isubN dX10_shifts_243 (by omega) ?_
            refine ex_iastN dX10_shifts_244 rfl (by decide) (by omega) ?_
            refine ex_goto (tgt := 16) dX10_shifts_245 (by decide) ?_
            refine ex_less (L' := [some (.ref 56), some (.int (nI (hi + 1))), some (.int (nI (nx + 1))), none, none, none]) (by simp [xSub]) (ih (nx + 1) (hi + 1) (md + 1) _ _ _ _ _ (by omega) (by omega) (by omega) ((hf2.U (by decide) (by decide)).U (by decide) (by decide)) ?_ ?_ ⟨fun j hj => ?_, fun j h1 hj => ?_⟩ (fun j hj => ?_) hL)
            · rw [xU_ne _ _ _ (show (56 : Nat) ≠ 80 by decide), xU_ne _ _ _ (show (56 : Nat) ≠ 79 by decide)]; exact m2
            · rw [xU_ne _ _ _ (show (56 : Nat) ≠ 80 by decide), xU_ne _ _ _ (show (56 : Nat) ≠ 79 by decide)]; exact e442
            · rw [xU_ne _ _ _ (show (79 : Nat) ≠ 80 by decide), xU_at]; unfold upd upN
              by_cases e : j = hi + 1
              · rw [if_pos e, if_pos e]; exact ⟨rfl, hsS⟩
              · rw [if_neg e, if_neg e]; exact hsk2.1 j (by omega)
            · rw [xU_at, xU_ne _ _ _ (show (80 : Nat) ≠ 79 by decide)]; unfold upd upN
              by_cases e : j = hi + 1
              · rw [if_pos e, if_pos e]; exact ⟨rfl, by omega⟩
              · rw [if_neg e, if_neg e]; exact ⟨(hsk2.2 j h1 (by omega)).1, by have := (hsk2.2 j h1 (by omega)).2; omega⟩
            · have := hwk2 j hj
              rw [xU_ne _ _ _ (show (81 : Nat) ≠ 80 by decide), xU_ne _ _ _ (show (81 : Nat) ≠ 79 by decide), xU_ne _ _ _ (show (82 : Nat) ≠ 80 by decide), xU_ne _ _ _ (show (82 : Nat) ≠ 79 by decide), xU_ne _ _ _ (show (83 : Nat) ≠ 80 by decide), xU_ne _ _ _ (show (83 : Nat) ≠ 79 by decide), xU_ne _ _ _ (show (84 : Nat) ≠ 80 by decide), xU_ne _ _ _ (show (84 : Nat) ≠ 79 by decide), xU_ne _ _ _ (show (85 : Nat) ≠ 80 by decide), xU_ne _ _ _ (show (85 : Nat) ≠ 79 by decide)]
              exact this
          · have hr14 : r < 14 := by omega
            have hrd := rd_1 hr14
            have hl4 := lnR_le sy r
            have hlf := gw.2.2.1 r hr
            have e57 := rg1.2.1 r hr
            have e59 := rg1.2.2.2.1 r hr
            obtain ⟨hq, rfl⟩ : ∃ hq, hb = hq + 1 := ⟨hb - 1, by omega⟩
            rw [Nat.add_sub_cancel] at hL
            obtain ⟨ndF, hndF⟩ : ∃ ndF, ndF = chN sn (hq + 1) md (lnR sy r) 1 (rnN nd md (nI (sy r 0)) (nI r)) := ⟨_, rfl⟩
            rw [← hndF] at hL
            have hsq := hsk.1 hq (by omega)
            have KL : ∀ d k nd' i', k + d = lnR sy r + 1 → 1 ≤ k → Fm [79, 80, 81, 82, 83, 84, 85] [35, 44] i i' → i' 56 35 = nI (md + 1) → i' 56 44 = i 56 44 → SK hi ss sn md S i' → WK (md + 1) nd' (upd tk md (-1)) i' → chN sn (hq + 1) md d k nd' = ndF → Wx m_Model_shifts 146 [some (.ref 56), some (.int (nI hq)), some (.int (nI nx)), none, some (.int (nI r)), some (.int (nI k))] [] (94, g, i', q, RT t) (0, 0) Q := by
              intro d
              induction d with
              | zero =>
                intro k nd' i' hk hk1 b1 b2 b3 b4 b5 b6
                have ek : k = lnR sy r + 1 := hk
                have b6 : nd' = ndF := b6
                have rg' := rg.fm b1 (by decide) (by decide) (by decide) (by decide)
                have e59' := rg'.2.2.2.1 r hr
                have e57' := rg'.2.1 r hr
                have hGq := hG (ss hq) (sy r 0) hsq.2 (by omega) (by omega)
                have e67 : i' 67 (14 * ss hq + sy r 0) = nI (G (ss hq) (sy r 0)) := by rw [b1.1 67 (by decide) (by decide)]; exact hGq.1
                have e79 := (b4.1 hq (by omega)).1
                refine ex_iload dX10_shifts_146 rfl ?_
                refine ex_aload_n (i := 0) dX10_shifts_148 rfl rfl ?_
                refine ex_getR (v := .ref (59)) dX10_shifts_149 fl_Model_16 rfl rfl (by decide) rfl ?_
                refine ex_iload dX10_shifts_152 rfl ?_
                refine ex_ialdN dX10_shifts_154 rfl (by decide) (by omega) rfl ?_
                refine ex_asN (a := lnR sy r) e59' ?_
                refine ex_icmp_gtN (tgt := 200) dX10_shifts_155 (by decide) (by omega) (by omega) (fun h155 => ?_) (fun h155 => by omega)
                refine ex_iincN (L' := [some (.ref (56)), some (.int (nI (hq + 1))), some (.int (nI (nx))), none, some (.int (nI (r))), some (.int (nI (k)))]) dX10_shifts_200 rfl rfl (by decide) rfl ?_
                refine ex_aload_n (i := 0) dX10_shifts_203 rfl rfl ?_
                refine ex_getR (v := .ref (79)) dX10_shifts_204 fl_Model_77 rfl rfl (by decide) rfl ?_
                refine ex_iload_n (i := 1) dX10_shifts_207 rfl rfl ?_
                refine ex_aload_n (i := 0) dX10_shifts_208 rfl rfl ?_
                refine ex_getR (v := .ref (67)) dX10_shifts_209 fl_Model_41 rfl rfl (by decide) rfl ?_
                refine ex_bipush (v := nI 14) dX10_shifts_212 (by decide) ?_
                refine ex_aload_n (i := 0) dX10_shifts_214 rfl rfl ?_
                refine ex_getR (v := .ref (79)) dX10_shifts_215 fl_Model_77 rfl rfl (by decide) rfl ?_
                refine ex_iload_n (i := 1) dX10_shifts_218 rfl rfl ?_
                refine ex_iconst (v := nI 1) dX10_shifts_219 (by decide) ?_
                refine ex_isubN dX10_shifts_220 (by omega) ?_
                refine ex_ialdN dX10_shifts_221 rfl (by decide) (by omega) rfl ?_
                refine ex_asN (a := ss hq) e79 ?_
                refine ex_imulN dX10_shifts_222 ?_
                refine ex_aload_n (i := 0) dX10_shifts_223 rfl rfl ?_
                refine ex_getR (v := .ref (57)) dX10_shifts_224 fl_Model_7 rfl rfl (by decide) rfl ?_
                refine ex_iload dX10_shifts_227 rfl ?_
                refine ex_ialdN dX10_shifts_229 rfl (by decide) (by omega) rfl ?_
                refine ex_asN (a := sy r 0) e57' ?_
                refine ex_iaddN dX10_shifts_230 ?_
                refine ex_ialdN dX10_shifts_231 rfl (by decide) (by omega) rfl ?_
                refine ex_asN (a := G (ss hq) (sy r 0)) e67 ?_
                refine ex_iastN dX10_shifts_232 rfl (by decide) (by omega) ?_
                refine ex_aload_n (i := 0) dX10_shifts_233 rfl rfl ?_
                refine ex_getR (v := .ref (80)) dX10_shifts_234 fl_Model_80 rfl rfl (by decide) rfl ?_
                refine ex_iload_n (i := 1) dX10_shifts_237 rfl rfl ?_
                refine ex_aload_n (i := 0) dX10_shifts_238 rfl rfl ?_
                refine ex_getI dX10_shifts_239 fl_Model_227 rfl rfl (by decide) ?_
                refine ex_asN (a := md + 1) b2 ?_
                refine ex_iconst (v := nI 1) dX10_shifts_242 (by decide) ?_
                refine ex_isubN dX10_shifts_243 (by omega) ?_
                refine ex_iastN dX10_shifts_244 rfl (by decide) (by omega) ?_
                refine ex_goto (tgt := 16) dX10_shifts_245 (by decide) ?_
                refine ex_less (L' := [some (.ref 56), some (.int (nI (hq + 1))), some (.int (nI nx)), none, none, none]) (by simp [xSub]) (ih nx (hq + 1) (md + 1) _ _ ndF _ _ (by omega) hnx (by omega) ((b1.U (by decide) (by decide)).U (by decide) (by decide)) ?_ ?_ ⟨fun j hj => ?_, fun j h1 hj => ?_⟩ (fun j hj => ?_) hL)
                · rw [xU_ne _ _ _ (show (56 : Nat) ≠ 80 by decide), xU_ne _ _ _ (show (56 : Nat) ≠ 79 by decide)]; exact b2
                · rw [xU_ne _ _ _ (show (56 : Nat) ≠ 80 by decide), xU_ne _ _ _ (show (56 : Nat) ≠ 79 by decide)]; exact b3
                · rw [xU_ne _ _ _ (show (79 : Nat) ≠ 80 by decide), xU_at]; unfold upd upN
                  by_cases e : j = hq + 1
                  · rw [if_pos e, if_pos e]; exact ⟨rfl, hGq.2⟩
                  · rw [if_neg e, if_neg e]; exact b4.1 j (by omega)
                · rw [xU_at, xU_ne _ _ _ (show (80 : Nat) ≠ 79 by decide)]; unfold upd upN
                  by_cases e : j = hq + 1
                  · rw [if_pos e, if_pos e]; exact ⟨rfl, by omega⟩
                  · rw [if_neg e, if_neg e]; exact ⟨(b4.2 j h1 (by omega)).1, by have := (b4.2 j h1 (by omega)).2; omega⟩
                · have := b5 j hj
                  rw [b6] at this
                  rw [xU_ne _ _ _ (show (81 : Nat) ≠ 80 by decide), xU_ne _ _ _ (show (81 : Nat) ≠ 79 by decide), xU_ne _ _ _ (show (82 : Nat) ≠ 80 by decide), xU_ne _ _ _ (show (82 : Nat) ≠ 79 by decide), xU_ne _ _ _ (show (83 : Nat) ≠ 80 by decide), xU_ne _ _ _ (show (83 : Nat) ≠ 79 by decide), xU_ne _ _ _ (show (84 : Nat) ≠ 80 by decide), xU_ne _ _ _ (show (84 : Nat) ≠ 79 by decide), xU_ne _ _ _ (show (85 : Nat) ≠ 80 by decide), xU_ne _ _ _ (show (85 : Nat) ≠ 79 by decide)]
                  exact this
              | succ d ih2 =>
                intro k nd' i' hk hk1 b1 b2 b3 b4 b5 b6
                have rg' := rg.fm b1 (by decide) (by decide) (by decide) (by decide)
                have e59' := rg'.2.2.2.1 r hr
                obtain ⟨e80, hsn⟩ := b4.2 (hq + k) (by omega) (by omega)
                refine ex_iload dX10_shifts_146 rfl ?_
                refine ex_aload_n (i := 0) dX10_shifts_148 rfl rfl ?_
                refine ex_getR (v := .ref (59)) dX10_shifts_149 fl_Model_16 rfl rfl (by decide) rfl ?_
                refine ex_iload dX10_shifts_152 rfl ?_
                refine ex_ialdN dX10_shifts_154 rfl (by decide) (by omega) rfl ?_
                refine ex_asN (a := lnR sy r) e59' ?_
                refine ex_icmp_gtN (tgt := 200) dX10_shifts_155 (by decide) (by omega) (by omega) (fun h155 => by omega) (fun h155 => ?_)
                refine ex_aload_n (i := 0) dX10_shifts_158 rfl rfl ?_
                refine ex_getR (v := .ref (83)) dX10_shifts_159 fl_Model_89 rfl rfl (by decide) rfl ?_
                refine ex_aload_n (i := 0) dX10_shifts_162 rfl rfl ?_
                refine ex_getR (v := .ref (80)) dX10_shifts_163 fl_Model_80 rfl rfl (by decide) rfl ?_
                refine ex_iload_n (i := 1) dX10_shifts_166 rfl rfl ?_
                refine ex_iload dX10_shifts_167 rfl ?_
                refine ex_iaddN dX10_shifts_169 ?_
                refine ex_ialdN dX10_shifts_170 rfl (by decide) (by omega) rfl ?_
                refine ex_asN (a := sn (hq + k)) e80 ?_
                refine ex_aload_n (i := 0) dX10_shifts_171 rfl rfl ?_
                refine ex_getI dX10_shifts_172 fl_Model_227 rfl rfl (by decide) ?_
                refine ex_asN (a := md + 1) b2 ?_
                refine ex_iconst (v := nI 1) dX10_shifts_175 (by decide) ?_
                refine ex_isubN dX10_shifts_176 (by omega) ?_
                refine ex_iastN dX10_shifts_177 rfl (by decide) (by omega) ?_
                refine ex_aload_n (i := 0) dX10_shifts_178 rfl rfl ?_
                refine ex_getR (v := .ref (84)) dX10_shifts_179 fl_Model_92 rfl rfl (by decide) rfl ?_
                refine ex_aload_n (i := 0) dX10_shifts_182 rfl rfl ?_
                refine ex_getR (v := .ref (80)) dX10_shifts_183 fl_Model_80 rfl rfl (by decide) rfl ?_
                refine ex_iload_n (i := 1) dX10_shifts_186 rfl rfl ?_
                refine ex_iload dX10_shifts_187 rfl ?_
                refine ex_iaddN dX10_shifts_189 ?_
                refine ex_ialdN dX10_shifts_190 rfl (by decide) (by omega) rfl ?_
                refine ex_asN (a := sn (hq + k)) e80 ?_
                refine ex_iload dX10_shifts_191 rfl ?_
                refine ex_iastN dX10_shifts_193 rfl (by decide) (by omega) ?_
                refine ex_iincN (L' := [some (.ref (56)), some (.int (nI (hq))), some (.int (nI (nx))), none, some (.int (nI (r))), some (.int (nI (k + 1)))]) dX10_shifts_194 rfl rfl (by decide) rfl ?_
                refine ex_goto (tgt := 146) dX10_shifts_197 (by decide) ?_
                refine ih2 (k + 1) (scN nd' md k (sn (hq + k))) _ (by omega) (by omega) ((b1.U (by decide) (by decide)).U (by decide) (by decide)) ?_ ?_ ⟨?_, ?_⟩ (b5.kid ⟨hk1, by omega⟩ ?_ ?_ ?_ ?_ ?_) ?_
                · rw [xU_ne _ _ _ (show (56 : Nat) ≠ 84 by decide), xU_ne _ _ _ (show (56 : Nat) ≠ 83 by decide)]; exact b2
                · rw [xU_ne _ _ _ (show (56 : Nat) ≠ 84 by decide), xU_ne _ _ _ (show (56 : Nat) ≠ 83 by decide)]; exact b3
                · rw [xU_ne _ _ _ (show (79 : Nat) ≠ 84 by decide), xU_ne _ _ _ (show (79 : Nat) ≠ 83 by decide)]; exact b4.1
                · rw [xU_ne _ _ _ (show (80 : Nat) ≠ 84 by decide), xU_ne _ _ _ (show (80 : Nat) ≠ 83 by decide)]; exact b4.2
                · simp [xU]
                · simp [xU]
                · simp [xU]
                · simp [xU]
                · simp [xU]
                · rw [← b6, show hq + k = hq + 1 + k - 1 by omega]; rfl
            rw [ds] at c1 c2 ⊢
            refine ex_iload_n (i := 3) dX10_shifts_50 rfl rfl ?_
            refine ex_sipush (v := nI 1000) dX10_shifts_51 (by decide) ?_
            refine ex_icmp_ne (tgt := 59) dX10_shifts_54 (by decide) (fun h54 => ?_) (fun h54 => by exact absurd h54 c1)
            refine ex_iload_n (i := 3) dX10_shifts_59 rfl rfl ?_
            refine ex_if_ne (tgt := 70) dX10_shifts_60 (by decide) (fun h60 => ?_) (fun h60 => by exact absurd h60 c2)
            refine ex_aload_n (i := 0) dX10_shifts_70 rfl rfl ?_
            refine ex_getI dX10_shifts_71 fl_Model_227 rfl rfl (by decide) ?_
            refine ex_asN (a := md) h35 ?_
            refine ex_sipush (v := nI 150) dX10_shifts_74 (by decide) ?_
            refine ex_icmp_neN (tgt := 82) dX10_shifts_77 (by decide) (by omega) (by omega) (fun h77 => ?_) (fun h77 => by omega)
            refine ex_iload_n (i := 3) dX10_shifts_82 rfl rfl ?_
            refine ex_if_le (tgt := 114) dX10_shifts_83 (by decide) (fun h83 => ?_) (fun h83 => by exact absurd hrd.2 h83)
            refine ex_iconst (v := -1) dX10_shifts_114 (by decide) ?_
            refine ex_iload_n (i := 3) dX10_shifts_115 rfl rfl ?_
            refine ex_isub dX10_shifts_116 ?_
            refine ex_asN (a := r) hrd.1 ?_
            refine ex_istore (L' := [some (.ref (56)), some (.int (nI (hi))), some (.int (nI (nx))), some (.int ((-1 - nI r))), some (.int (nI (r))), none]) dX10_shifts_117 (by decide) rfl ?_
            refine ex_aload_n (i := 0) dX10_shifts_119 rfl rfl ?_
            refine ex_aload_n (i := 0) dX10_shifts_120 rfl rfl ?_
            refine ex_getR (v := .ref (57)) dX10_shifts_121 fl_Model_7 rfl rfl (by decide) rfl ?_
            refine ex_iload dX10_shifts_124 rfl ?_
            refine ex_ialdN dX10_shifts_126 rfl (by decide) (by omega) rfl ?_
            refine ex_asN (a := sy r 0) e57 ?_
            refine ex_iload dX10_shifts_127 rfl ?_
            refine ex_iconst (v := -1) dX10_shifts_129 (by decide) ?_
            refine ex_cV (ν := m_Model_make) (a := 56) (ci := 10) (as := [.int (nI (sy r 0)), .int (nI (r)), .int ((-1))]) dX10_shifts_130 ln_Model_230 mf_Model_make rfl (Nat.le_of_ble_eq_true rfl) rfl rfl np_Model_make rfl rfl ⟨(Nat.le_of_ble_eq_true rfl), (Nat.le_of_ble_eq_true rfl), (Nat.le_of_ble_eq_true rfl), (Nat.le_of_ble_eq_true rfl)⟩ (by decide) ?_
            refine sp_Model_make h35 hmd (fun i2 m1 m2 m3 m4 m5 m6 m7 => ?_)
            have hf2 : Fm [79, 80, 81, 82, 83, 84, 85] [35, 44] i i2 := hfm.tr (m1.mono (by decide) (by decide))
            have e442 : i2 56 44 = i 56 44 := (m1.2 44 (by decide)).trans h44
            have hsk2 := hsk.fm m1 (by decide) (by decide)
            have hwk2 := hwk.make m3 m4 m5 m6 m7
            have e592 : i2 59 r = nI (lnR sy r) := by rw [m1.1 59 (by decide) (by decide)]; exact e59
            refine ⟨_, rfl, ?_⟩
            refine ex_iload_n (i := 1) dX10_shifts_133 rfl rfl ?_
            refine ex_aload_n (i := 0) dX10_shifts_134 rfl rfl ?_
            refine ex_getR (v := .ref (59)) dX10_shifts_135 fl_Model_16 rfl rfl (by decide) rfl ?_
            refine ex_iload dX10_shifts_138 rfl ?_
            refine ex_ialdN dX10_shifts_140 rfl (by decide) (by omega) rfl ?_
            refine ex_asN (a := lnR sy r) (by first | exact e59 | exact e592) ?_
            refine ex_isubN dX10_shifts_141 (by omega) ?_
            refine ex_asN (a := hq) (by rw [show hi - lnR sy r = hq by omega]) ?_
            refine ex_istore_n (L' := [some (.ref (56)), some (.int (nI (hq))), some (.int (nI (nx))), some (.int ((-1 - nI r))), some (.int (nI (r))), none]) dX10_shifts_142 (i := 1) rfl (by decide) rfl ?_
            refine ex_iconst (v := nI 1) dX10_shifts_143 (by decide) ?_
            refine ex_istore (L' := [some (.ref (56)), some (.int (nI (hq))), some (.int (nI (nx))), some (.int ((-1 - nI r))), some (.int (nI (r))), some (.int (nI (1)))]) dX10_shifts_144 (by decide) rfl ?_
            exact ex_less (L' := [some (.ref 56), some (.int (nI hq)), some (.int (nI nx)), none, some (.int (nI r)), some (.int (nI 1))]) (by simp [xSub]) (KL (lnR sy r) 1 _ i2 (by omega) (Nat.le_refl _) hf2 m2 e442 hsk2 hwk2 hndF.symm)
    by_cases hx : nx < nt
    · have e : tkA nt TT nx = TT nx := if_pos hx
      rw [e] at hd
      have e77 : i1 77 nx = nI (TT nx) := by rw [hfm.1 77 (by decide) (by decide)]; exact (hTT nx hx).1
      refine ex_aload_n (i := 0) dX10_shifts_16 rfl rfl ?_
      refine ex_getR (v := .ref (73)) dX10_shifts_17 fl_Model_59 rfl rfl (by decide) rfl ?_
      refine ex_bipush (v := nI 7) dX10_shifts_20 (by decide) ?_
      refine ex_aload_n (i := 0) dX10_shifts_22 rfl rfl ?_
      refine ex_getR (v := .ref (79)) dX10_shifts_23 fl_Model_77 rfl rfl (by decide) rfl ?_
      refine ex_iload_n (i := 1) dX10_shifts_26 rfl rfl ?_
      refine ex_ialdN dX10_shifts_27 rfl (by decide) (by omega) rfl ?_
      refine ex_asN (a := ss hi) hs.1 ?_
      refine ex_imulN dX10_shifts_28 ?_
      refine ex_iload_n (i := 2) dX10_shifts_29 rfl rfl ?_
      refine ex_aload_n (i := 0) dX10_shifts_30 rfl rfl ?_
      refine ex_getI dX10_shifts_31 fl_Model_224 rfl rfl (by decide) ?_
      refine ex_asN (a := nt) e27 ?_
      refine ex_icmp_geN (tgt := 46) dX10_shifts_34 (by decide) (by omega) (by omega) (fun h34 => by omega) (fun h34 => ?_)
      refine ex_aload_n (i := 0) dX10_shifts_37 rfl rfl ?_
      refine ex_getR (v := .ref (77)) dX10_shifts_38 fl_Model_71 rfl rfl (by decide) rfl ?_
      refine ex_iload_n (i := 2) dX10_shifts_41 rfl rfl ?_
      refine ex_ialdN dX10_shifts_42 rfl (by decide) (by omega) rfl ?_
      refine ex_asN (a := TT nx) e77 ?_
      refine ex_goto (tgt := 47) dX10_shifts_43 (by decide) ?_
      refine ex_iaddN dX10_shifts_47 ?_
      refine ex_ialdN dX10_shifts_48 rfl (by decide) (by omega) rfl ?_
      refine ex_asI (y := vd) hd ?_
      refine ex_istore_n (L' := [some (.ref (56)), some (.int (nI (hi))), some (.int (nI (nx))), some (.int (vd)), none, none]) dX10_shifts_49 (i := 3) rfl (by decide) rfl ?_
      exact H50
    · have e : tkA nt TT nx = 0 := if_neg hx
      rw [e] at hd
      refine ex_aload_n (i := 0) dX10_shifts_16 rfl rfl ?_
      refine ex_getR (v := .ref (73)) dX10_shifts_17 fl_Model_59 rfl rfl (by decide) rfl ?_
      refine ex_bipush (v := nI 7) dX10_shifts_20 (by decide) ?_
      refine ex_aload_n (i := 0) dX10_shifts_22 rfl rfl ?_
      refine ex_getR (v := .ref (79)) dX10_shifts_23 fl_Model_77 rfl rfl (by decide) rfl ?_
      refine ex_iload_n (i := 1) dX10_shifts_26 rfl rfl ?_
      refine ex_ialdN dX10_shifts_27 rfl (by decide) (by omega) rfl ?_
      refine ex_asN (a := ss hi) hs.1 ?_
      refine ex_imulN dX10_shifts_28 ?_
      refine ex_iload_n (i := 2) dX10_shifts_29 rfl rfl ?_
      refine ex_aload_n (i := 0) dX10_shifts_30 rfl rfl ?_
      refine ex_getI dX10_shifts_31 fl_Model_224 rfl rfl (by decide) ?_
      refine ex_asN (a := nt) e27 ?_
      refine ex_icmp_geN (tgt := 46) dX10_shifts_34 (by decide) (by omega) (by omega) (fun h34 => ?_) (fun h34 => by omega)
      refine ex_iconst (v := nI 0) dX10_shifts_46 (by decide) ?_
      refine ex_iaddN dX10_shifts_47 ?_
      refine ex_ialdN dX10_shifts_48 rfl (by decide) (by omega) rfl ?_
      refine ex_asI (y := vd) hd ?_
      refine ex_istore_n (L' := [some (.ref (56)), some (.int (nI (hi))), some (.int (nI (nx))), some (.int (vd)), none, none]) dX10_shifts_49 (i := 3) rfl (by decide) rfl ?_
      exact H50
theorem sp_Model_shifts {R : Int32 → Nat → (Nat → Int32) → (Nat → Int32) → Prop} (rg : RG i n sy) (h27 : i 56 27 = nI nt) (hnt : nt ≤ 40) (hTT : ∀ j, j < nt → i 77 j = nI (TT j) ∧ 1 ≤ TT j ∧ TT j ≤ 6) (hS : S ≤ 50) (hS0 : 0 < S) (hD : ∀ s x, s < S → x < 7 → i 73 (7 * s + x) = D s x) (hG : ∀ s x, s < S → 8 ≤ x → x < 14 → i 67 (14 * s + x) = nI (G s x) ∧ G s x < S) (hDS : ∀ s x k, s < S → x < 7 → D s x = nI k → 0 < k → k < 50 → k < S)
    {ss sn : Nat → Nat} {nd tk : Nat → Int32} (hL : LrP D G n sy nt TT R 150 0 1 0 (upN ss 0 0) sn nd tk)
    (hQ0 : ∀ md nd tk i1, R (-1) md nd tk → Fm [79, 80, 81, 82, 83, 84, 85] [35, 44] i i1 → i1 56 35 = nI md → md ≤ 150 → WK md nd tk i1 → i1 56 44 = i 56 44 → Q (.ok (some (.int (nI 0)))) (94, g, i1, q, RT t))
    (hQ2 : ∀ md nd tk i1, R (-2) md nd tk → Fm [79, 80, 81, 82, 83, 84, 85] [35, 44] i i1 → i1 56 44 = i 56 44 → Q (.ok (some (.int (nI 2)))) (94, g, i1, q, RT t))
    (hQ3 : ∀ k md nd tk i1, R (nI k) md nd tk → k ≤ nt → Fm [79, 80, 81, 82, 83, 84, 85] [35, 44] i i1 → i1 56 44 = nI k → Q (.ok (some (.int (nI 3)))) (94, g, i1, q, RT t)) :
    Wx m_Model_shifts 0 [some (.ref 56), none, none, none, none, none] [] (94, g, i, q, RT t) (0, 0) Q := by
  refine ex_iconst (v := nI 0) dX10_shifts_0 (by decide) ?_
  refine ex_istore_n (L' := [some (.ref (56)), some (.int (nI (0))), none, none, none, none]) dX10_shifts_1 (i := 1) rfl (by decide) rfl ?_
  refine ex_iconst (v := nI 0) dX10_shifts_2 (by decide) ?_
  refine ex_istore_n (L' := [some (.ref (56)), some (.int (nI (0))), some (.int (nI (0))), none, none, none]) dX10_shifts_3 (i := 2) rfl (by decide) rfl ?_
  refine ex_aload_n (i := 0) dX10_shifts_4 rfl rfl ?_
  refine ex_getR (v := .ref (79)) dX10_shifts_5 fl_Model_77 rfl rfl (by decide) rfl ?_
  refine ex_iconst (v := nI 0) dX10_shifts_8 (by decide) ?_
  refine ex_iconst (v := nI 0) dX10_shifts_9 (by decide) ?_
  refine ex_iastN dX10_shifts_10 rfl (by decide) (by omega) ?_
  refine ex_aload_n (i := 0) dX10_shifts_11 rfl rfl ?_
  refine ex_iconst (v := nI 0) dX10_shifts_12 (by decide) ?_
  refine ex_putI dX10_shifts_13 fl_Model_227 cf_10 rfl (Or.inl rfl) rfl rfl rfl (by decide) ?_
  refine lp_Model_shifts rg h27 hnt hTT hS hD hG hDS hQ0 hQ2 hQ3 150 0 0 0 (upN ss 0 0) sn nd tk _ rfl (Nat.zero_le _) (Nat.le_refl _) ((Fm.rf.U (by decide) (by decide)).F (by decide)) (by rw [xU_at]; simp [upd]) ?_ ⟨fun j hj => ?_, fun j h1 hj => by omega⟩ (fun j hj => by omega) hL
  · rw [xU_at]; simp only [upd]; rw [if_neg (by decide), xU_ne _ _ _ (show (56 : Nat) ≠ 79 by decide)]
  · have e : j = 0 := by omega
    subst e
    rw [xU_ne _ _ _ (show (79 : Nat) ≠ 56 by decide), xU_at]; simp only [upd, upN, if_true]
    exact ⟨trivial, hS0⟩
end S76
