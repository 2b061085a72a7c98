/-! ===== Row, LongRow, Grid: any of them, at any time ===== -/
theorem l56 {a ζ : Nat} (h : a < 56) : a < 56 + ζ := Nat.lt_add_right ζ h
def xSet (f : Nat → Nat → Int32) (a : Nat) (h : Nat → Int32) : Nat → Nat → Int32 := fun q => if q = a then h else f q
def xSetL (f : Nat → Nat → Int64) (a : Nat) (h : Nat → Int64) : Nat → Nat → Int64 := fun q => if q = a then h else f q
theorem xSet_at (f : Nat → Nat → Int32) (a : Nat) (h : Nat → Int32) : xSet f a h a = h := by unfold xSet; rw [if_pos rfl]
theorem xSet_ne (f : Nat → Nat → Int32) {a b : Nat} (h : Nat → Int32) (hb : b ≠ a) : xSet f a h b = f b := by unfold xSet; rw [if_neg hb]
theorem xSet_self (f : Nat → Nat → Int32) (a : Nat) : xSet f a (f a) = f := by funext q; unfold xSet; by_cases h : q = a <;> simp [h]
theorem xSet_set (f : Nat → Nat → Int32) (a : Nat) (h h2 : Nat → Int32) : xSet (xSet f a h) a h2 = xSet f a h2 := by funext q; unfold xSet; by_cases h : q = a <;> simp [h]
theorem xU_set (f : Nat → Nat → Int32) (a k : Nat) (h : Nat → Int32) (x : Int32) : xU (xSet f a h) a k x = xSet f a (upd h k x) := by funext q; unfold xU xSet; by_cases h : q = a <;> simp [h]
theorem xU_self (f : Nat → Nat → Int32) (a k : Nat) (x : Int32) : xU f a k x = xSet f a (upd (f a) k x) := by funext q; unfold xU xSet; by_cases h : q = a <;> simp [h]
theorem xSetL_at (f : Nat → Nat → Int64) (a : Nat) (h : Nat → Int64) : xSetL f a h a = h := by unfold xSetL; rw [if_pos rfl]
theorem xSetL_ne (f : Nat → Nat → Int64) {a b : Nat} (h : Nat → Int64) (hb : b ≠ a) : xSetL f a h b = f b := by unfold xSetL; rw [if_neg hb]
theorem xSetL_self (f : Nat → Nat → Int64) (a : Nat) : xSetL f a (f a) = f := by funext q; unfold xSetL; by_cases h : q = a <;> simp [h]
theorem xUL_set (f : Nat → Nat → Int64) (a k : Nat) (h : Nat → Int64) (x : Int64) : xUL (xSetL f a h) a k x = xSetL f a (vp_updL h k x) := by funext q; unfold xUL xSetL; by_cases h : q = a <;> simp [h]
theorem xUL_self (f : Nat → Nat → Int64) (a k : Nat) (x : Int64) : xUL f a k x = xSetL f a (vp_updL (f a) k x) := by funext q; unfold xUL xSetL; by_cases h : q = a <;> simp [h]
/-- zeros below k -/
def zb (f : Nat → Int32) (k : Nat) : Nat → Int32 := fun j => if j < k then 0 else f j
def zbL (f : Nat → Int64) (k : Nat) : Nat → Int64 := fun j => if j < k then 0 else f j
theorem zb_0 (f : Nat → Int32) : zb f 0 = f := by funext j; simp [zb]
theorem zb_s (f : Nat → Int32) (k : Nat) : upd (zb f k) k 0 = zb f (k + 1) := by
  funext j; unfold upd zb
  by_cases h : j = k
  · simp [h]
  · have : (j < k + 1) ↔ j < k := by omega
    simp [h, this]
theorem zbL_0 (f : Nat → Int64) : zbL f 0 = f := by funext j; simp [zbL]
theorem zbL_s (f : Nat → Int64) (k : Nat) : vp_updL (zbL f k) k 0 = zbL f (k + 1) := by
  funext j; unfold vp_updL zbL
  by_cases h : j = k
  · simp [h]
  · have : (j < k + 1) ↔ j < k := by omega
    simp [h, this]
section S13
variable {n g : Nat} {i : Nat → Nat → Int32} {q : Nat → Nat → Int64} {rr : Nat → Nat → Value} {Q : xRes → xMem → Prop} {r c N : Nat}
theorem sp_Row_get {k : Nat} (hr : rr r 0 = .ref c) (hs : SHl[r]? = some (.inl 6)) (hc : SHl[c]? = some (.inr (0, N))) (ha : r < n) (hb : c < n) (hk : k < N) (hQ : Q (.ok (some (.int (i c k)))) (n, g, i, q, rr)) : Wx m_Row_get 0 [some (.ref r), some (.int (nI k))] [] (n, g, i, q, rr) (0, 0) Q := by
  have hN := sh_len hc
  refine ex_iload_n (i := 1) dX6_get_0 rfl rfl ?_
  refine ex_if_ltN (tgt := 22) dX6_get_1 (by decide) (by omega) ?_
  refine ex_iload_n (i := 1) dX6_get_4 rfl rfl ?_
  refine ex_aload_n (i := 0) dX6_get_5 rfl rfl ?_
  refine ex_getR (v := .ref (c)) dX6_get_6 fl_Row_13 rfl hs ha hr ?_
  refine ex_alen (v := nI N) dX6_get_9 hc hb rfl ?_
  refine ex_icmp_geN (tgt := 22) dX6_get_10 (by decide) (by omega) (by omega) (fun h10 => by omega) (fun h10 => ?_)
  refine ex_aload_n (i := 0) dX6_get_13 rfl rfl ?_
  refine ex_getR (v := .ref (c)) dX6_get_14 fl_Row_13 rfl hs ha hr ?_
  refine ex_iload_n (i := 1) dX6_get_17 rfl rfl ?_
  refine ex_ialdN dX6_get_18 hc hb (by omega) rfl ?_
  refine ex_goto (tgt := 23) dX6_get_19 (by decide) ?_
  refine ex_iret dX6_get_23 rfl rfl ?_
  exact hQ
theorem sp_Row_get_out {x : Int32} (hr : rr r 0 = .ref c) (hs : SHl[r]? = some (.inl 6)) (hc : SHl[c]? = some (.inr (0, N))) (ha : r < n) (hb : c < n) (hk : x < 0 ∨ nI N ≤ x) (hQ : Q (.ok (some (.int (nI 0)))) (n, g, i, q, rr)) : Wx m_Row_get 0 [some (.ref r), some (.int x)] [] (n, g, i, q, rr) (0, 0) Q := by
  have hN := sh_len hc
  refine ex_iload_n (i := 1) dX6_get_0 rfl rfl ?_
  refine ex_if_lt (tgt := 22) dX6_get_1 (by decide) (fun h1 => ?_) (fun h1 => ?_)
  · refine ex_iconst (v := nI 0) dX6_get_22 (by decide) ?_
    refine ex_iret dX6_get_23 rfl rfl ?_
    exact hQ
  · refine ex_iload_n (i := 1) dX6_get_4 rfl rfl ?_
    refine ex_aload_n (i := 0) dX6_get_5 rfl rfl ?_
    refine ex_getR (v := .ref (c)) dX6_get_6 fl_Row_13 rfl hs ha hr ?_
    refine ex_alen (v := nI N) dX6_get_9 hc hb rfl ?_
    refine ex_icmp_ge (tgt := 22) dX6_get_10 (by decide) (fun h10 => ?_) (fun h10 => by exact absurd (hk.resolve_left h1) h10)
    refine ex_iconst (v := nI 0) dX6_get_22 (by decide) ?_
    refine ex_iret dX6_get_23 rfl rfl ?_
    exact hQ
theorem sp_Row_set {k : Nat} {x : Int32} (hr : rr r 0 = .ref c) (hs : SHl[r]? = some (.inl 6)) (hc : SHl[c]? = some (.inr (0, N))) (ha : r < n) (hb : c < n) (hk : k < N) (hQ : Q (.ok none) (n, g, xU i c k x, q, rr)) : Wx m_Row_set 0 [some (.ref r), some (.int (nI k)), some (.int x)] [] (n, g, i, q, rr) (0, 0) Q := by
  have hN := sh_len hc
  refine ex_iload_n (i := 1) dX6_set_0 rfl rfl ?_
  refine ex_if_ltN (tgt := 20) dX6_set_1 (by decide) (by omega) ?_
  refine ex_iload_n (i := 1) dX6_set_4 rfl rfl ?_
  refine ex_aload_n (i := 0) dX6_set_5 rfl rfl ?_
  refine ex_getR (v := .ref (c)) dX6_set_6 fl_Row_13 rfl hs ha hr ?_
  refine ex_alen (v := nI N) dX6_set_9 hc hb rfl ?_
  refine ex_icmp_geN (tgt := 20) dX6_set_10 (by decide) (by omega) (by omega) (fun h10 => by omega) (fun h10 => ?_)
  refine ex_aload_n (i := 0) dX6_set_13 rfl rfl ?_
  refine ex_getR (v := .ref (c)) dX6_set_14 fl_Row_13 rfl hs ha hr ?_
  refine ex_iload_n (i := 1) dX6_set_17 rfl rfl ?_
  refine ex_iload_n (i := 2) dX6_set_18 rfl rfl ?_
  refine ex_iastN dX6_set_19 hc hb (by omega) ?_
  refine ex_ret dX6_set_20 rfl ?_
  exact hQ
theorem sp_Row_set_out {y : Int32} {x : Int32} (hr : rr r 0 = .ref c) (hs : SHl[r]? = some (.inl 6)) (hc : SHl[c]? = some (.inr (0, N))) (ha : r < n) (hb : c < n) (hk : y < 0 ∨ nI N ≤ y) (hQ : Q (.ok none) (n, g, i, q, rr)) : Wx m_Row_set 0 [some (.ref r), some (.int y), some (.int x)] [] (n, g, i, q, rr) (0, 0) Q := by
  have hN := sh_len hc
  refine ex_iload_n (i := 1) dX6_set_0 rfl rfl ?_
  refine ex_if_lt (tgt := 20) dX6_set_1 (by decide) (fun h1 => ?_) (fun h1 => ?_)
  · refine ex_ret dX6_set_20 rfl ?_
    exact hQ
  · refine ex_iload_n (i := 1) dX6_set_4 rfl rfl ?_
    refine ex_aload_n (i := 0) dX6_set_5 rfl rfl ?_
    refine ex_getR (v := .ref (c)) dX6_set_6 fl_Row_13 rfl hs ha hr ?_
    refine ex_alen (v := nI N) dX6_set_9 hc hb rfl ?_
    refine ex_icmp_ge (tgt := 20) dX6_set_10 (by decide) (fun h10 => ?_) (fun h10 => by exact absurd (hk.resolve_left h1) h10)
    refine ex_ret dX6_set_20 rfl ?_
    exact hQ
theorem sp_Row_wipe_loop (hr : rr r 0 = .ref c) (hs : SHl[r]? = some (.inl 6)) (hc : SHl[c]? = some (.inr (0, N))) (ha : r < n) (hb : c < n) (hQ : Q (.ok none) (n, g, xSet i c (zb (i c) (N)), q, rr)) : ∀ d k, k + d = N → Wx m_Row_wipe 2 [some (.ref r), some (.int (nI k))] [] (n, g, xSet i c (zb (i c) (k)), q, rr) (0, 0) Q := by
  have hN := sh_len hc
  intro d
  induction d with
  | zero =>
    intro k hk
    refine ex_iload_n (i := 1) dX6_wipe_2 rfl rfl ?_
    refine ex_aload_n (i := 0) dX6_wipe_3 rfl rfl ?_
    refine ex_getR (v := .ref (c)) dX6_wipe_4 fl_Row_13 rfl hs ha hr ?_
    refine ex_alen (v := nI N) dX6_wipe_7 hc hb rfl ?_
    refine ex_icmp_geN (tgt := 24) dX6_wipe_8 (by decide) (by omega) (by omega) (fun h8 => ?_) (fun h8 => by omega)
    refine ex_ret dX6_wipe_24 rfl ?_
    rw [show k = N by omega]; exact hQ
  | succ d ih =>
    intro k hk
    refine ex_iload_n (i := 1) dX6_wipe_2 rfl rfl ?_
    refine ex_aload_n (i := 0) dX6_wipe_3 rfl rfl ?_
    refine ex_getR (v := .ref (c)) dX6_wipe_4 fl_Row_13 rfl hs ha hr ?_
    refine ex_alen (v := nI N) dX6_wipe_7 hc hb rfl ?_
    refine ex_icmp_geN (tgt := 24) dX6_wipe_8 (by decide) (by omega) (by omega) (fun h8 => by omega) (fun h8 => ?_)
    refine ex_aload_n (i := 0) dX6_wipe_11 rfl rfl ?_
    refine ex_getR (v := .ref (c)) dX6_wipe_12 fl_Row_13 rfl hs ha hr ?_
    refine ex_iload_n (i := 1) dX6_wipe_15 rfl rfl ?_
    refine ex_iconst (v := nI 0) dX6_wipe_16 (by decide) ?_
    refine ex_iastN dX6_wipe_17 hc hb (by omega) ?_
    refine ex_iincN (L' := [some (.ref (r)), some (.int (nI (k + 1)))]) dX6_wipe_18 rfl rfl (by decide) rfl ?_
    refine ex_goto (tgt := 2) dX6_wipe_21 (by decide) ?_
    rw [xU_set, nI_0, zb_s]
    exact ih (k + 1) (by omega)
theorem sp_Row_wipe (hr : rr r 0 = .ref c) (hs : SHl[r]? = some (.inl 6)) (hc : SHl[c]? = some (.inr (0, N))) (ha : r < n) (hb : c < n) (hQ : Q (.ok none) (n, g, xSet i c (zb (i c) (N)), q, rr)) : Wx m_Row_wipe 0 [some (.ref r), none] [] (n, g, i, q, rr) (0, 0) Q := by
  refine ex_iconst (v := nI 0) dX6_wipe_0 (by decide) ?_
  refine ex_istore_n (L' := [some (.ref (r)), some (.int (nI (0)))]) dX6_wipe_1 (i := 1) rfl (by decide) rfl ?_
  have h := sp_Row_wipe_loop hr hs hc ha hb hQ N 0 (by omega)
  rw [zb_0, xSet_self] at h
  exact h
theorem sp_LongRow_get {k : Nat} (hr : rr r 0 = .ref c) (hs : SHl[r]? = some (.inl 3)) (hc : SHl[c]? = some (.inr (2, N))) (ha : r < n) (hb : c < n) (hk : k < N) (hQ : Q (.ok (some (.long (q c k)))) (n, g, i, q, rr)) : Wx m_LongRow_get 0 [some (.ref r), some (.int (nI k))] [] (n, g, i, q, rr) (0, 0) Q := by
  have hN := sh_len hc
  refine ex_iload_n (i := 1) dX3_get_0 rfl rfl ?_
  refine ex_if_ltN (tgt := 22) dX3_get_1 (by decide) (by omega) ?_
  refine ex_iload_n (i := 1) dX3_get_4 rfl rfl ?_
  refine ex_aload_n (i := 0) dX3_get_5 rfl rfl ?_
  refine ex_getR (v := .ref (c)) dX3_get_6 fl_LongRow_13 rfl hs ha hr ?_
  refine ex_alen (v := nI N) dX3_get_9 hc hb rfl ?_
  refine ex_icmp_geN (tgt := 22) dX3_get_10 (by decide) (by omega) (by omega) (fun h10 => by omega) (fun h10 => ?_)
  refine ex_aload_n (i := 0) dX3_get_13 rfl rfl ?_
  refine ex_getR (v := .ref (c)) dX3_get_14 fl_LongRow_13 rfl hs ha hr ?_
  refine ex_iload_n (i := 1) dX3_get_17 rfl rfl ?_
  refine ex_laldN dX3_get_18 hc hb (by omega) rfl ?_
  refine ex_goto (tgt := 23) dX3_get_19 (by decide) ?_
  refine ex_lret dX3_get_23 rfl ?_
  exact hQ
theorem sp_LongRow_get_out {x : Int32} (hr : rr r 0 = .ref c) (hs : SHl[r]? = some (.inl 3)) (hc : SHl[c]? = some (.inr (2, N))) (ha : r < n) (hb : c < n) (hk : x < 0 ∨ nI N ≤ x) (hQ : Q (.ok (some (.long 0))) (n, g, i, q, rr)) : Wx m_LongRow_get 0 [some (.ref r), some (.int x)] [] (n, g, i, q, rr) (0, 0) Q := by
  have hN := sh_len hc
  refine ex_iload_n (i := 1) dX3_get_0 rfl rfl ?_
  refine ex_if_lt (tgt := 22) dX3_get_1 (by decide) (fun h1 => ?_) (fun h1 => ?_)
  · refine ex_lconst (v := 0) dX3_get_22 (by decide) ?_
    refine ex_lret dX3_get_23 rfl ?_
    exact hQ
  · refine ex_iload_n (i := 1) dX3_get_4 rfl rfl ?_
    refine ex_aload_n (i := 0) dX3_get_5 rfl rfl ?_
    refine ex_getR (v := .ref (c)) dX3_get_6 fl_LongRow_13 rfl hs ha hr ?_
    refine ex_alen (v := nI N) dX3_get_9 hc hb rfl ?_
    refine ex_icmp_ge (tgt := 22) dX3_get_10 (by decide) (fun h10 => ?_) (fun h10 => by exact absurd (hk.resolve_left h1) h10)
    refine ex_lconst (v := 0) dX3_get_22 (by decide) ?_
    refine ex_lret dX3_get_23 rfl ?_
    exact hQ
theorem sp_LongRow_set {k : Nat} {x : Int64} (hr : rr r 0 = .ref c) (hs : SHl[r]? = some (.inl 3)) (hc : SHl[c]? = some (.inr (2, N))) (ha : r < n) (hb : c < n) (hk : k < N) (hQ : Q (.ok none) (n, g, i, xUL q c k x, rr)) : Wx m_LongRow_set 0 [some (.ref r), some (.int (nI k)), some (.long x), none] [] (n, g, i, q, rr) (0, 0) Q := by
  have hN := sh_len hc
  refine ex_iload_n (i := 1) dX3_set_0 rfl rfl ?_
  refine ex_if_ltN (tgt := 20) dX3_set_1 (by decide) (by omega) ?_
  refine ex_iload_n (i := 1) dX3_set_4 rfl rfl ?_
  refine ex_aload_n (i := 0) dX3_set_5 rfl rfl ?_
  refine ex_getR (v := .ref (c)) dX3_set_6 fl_LongRow_13 rfl hs ha hr ?_
  refine ex_alen (v := nI N) dX3_set_9 hc hb rfl ?_
  refine ex_icmp_geN (tgt := 20) dX3_set_10 (by decide) (by omega) (by omega) (fun h10 => by omega) (fun h10 => ?_)
  refine ex_aload_n (i := 0) dX3_set_13 rfl rfl ?_
  refine ex_getR (v := .ref (c)) dX3_set_14 fl_LongRow_13 rfl hs ha hr ?_
  refine ex_iload_n (i := 1) dX3_set_17 rfl rfl ?_
  refine ex_lload_n (i := 2) dX3_set_18 rfl rfl ?_
  refine ex_lastN dX3_set_19 hc hb (by omega) ?_
  refine ex_ret dX3_set_20 rfl ?_
  exact hQ
theorem sp_LongRow_set_out {y : Int32} {x : Int64} (hr : rr r 0 = .ref c) (hs : SHl[r]? = some (.inl 3)) (hc : SHl[c]? = some (.inr (2, N))) (ha : r < n) (hb : c < n) (hk : y < 0 ∨ nI N ≤ y) (hQ : Q (.ok none) (n, g, i, q, rr)) : Wx m_LongRow_set 0 [some (.ref r), some (.int y), some (.long x), none] [] (n, g, i, q, rr) (0, 0) Q := by
  have hN := sh_len hc
  refine ex_iload_n (i := 1) dX3_set_0 rfl rfl ?_
  refine ex_if_lt (tgt := 20) dX3_set_1 (by decide) (fun h1 => ?_) (fun h1 => ?_)
  · refine ex_ret dX3_set_20 rfl ?_
    exact hQ
  · refine ex_iload_n (i := 1) dX3_set_4 rfl rfl ?_
    refine ex_aload_n (i := 0) dX3_set_5 rfl rfl ?_
    refine ex_getR (v := .ref (c)) dX3_set_6 fl_LongRow_13 rfl hs ha hr ?_
    refine ex_alen (v := nI N) dX3_set_9 hc hb rfl ?_
    refine ex_icmp_ge (tgt := 20) dX3_set_10 (by decide) (fun h10 => ?_) (fun h10 => by exact absurd (hk.resolve_left h1) h10)
    refine ex_ret dX3_set_20 rfl ?_
    exact hQ
theorem sp_LongRow_wipe_loop (hr : rr r 0 = .ref c) (hs : SHl[r]? = some (.inl 3)) (hc : SHl[c]? = some (.inr (2, N))) (ha : r < n) (hb : c < n) (hQ : Q (.ok none) (n, g, i, xSetL q c (zbL (q c) (N)), rr)) : ∀ d k, k + d = N → Wx m_LongRow_wipe 2 [some (.ref r), some (.int (nI k))] [] (n, g, i, xSetL q c (zbL (q c) (k)), rr) (0, 0) Q := by
  have hN := sh_len hc
  intro d
  induction d with
  | zero =>
    intro k hk
    refine ex_iload_n (i := 1) dX3_wipe_2 rfl rfl ?_
    refine ex_aload_n (i := 0) dX3_wipe_3 rfl rfl ?_
    refine ex_getR (v := .ref (c)) dX3_wipe_4 fl_LongRow_13 rfl hs ha hr ?_
    refine ex_alen (v := nI N) dX3_wipe_7 hc hb rfl ?_
    refine ex_icmp_geN (tgt := 24) dX3_wipe_8 (by decide) (by omega) (by omega) (fun h8 => ?_) (fun h8 => by omega)
    refine ex_ret dX3_wipe_24 rfl ?_
    rw [show k = N by omega]; exact hQ
  | succ d ih =>
    intro k hk
    refine ex_iload_n (i := 1) dX3_wipe_2 rfl rfl ?_
    refine ex_aload_n (i := 0) dX3_wipe_3 rfl rfl ?_
    refine ex_getR (v := .ref (c)) dX3_wipe_4 fl_LongRow_13 rfl hs ha hr ?_
    refine ex_alen (v := nI N) dX3_wipe_7 hc hb rfl ?_
    refine ex_icmp_geN (tgt := 24) dX3_wipe_8 (by decide) (by omega) (by omega) (fun h8 => by omega) (fun h8 => ?_)
    refine ex_aload_n (i := 0) dX3_wipe_11 rfl rfl ?_
    refine ex_getR (v := .ref (c)) dX3_wipe_12 fl_LongRow_13 rfl hs ha hr ?_
    refine ex_iload_n (i := 1) dX3_wipe_15 rfl rfl ?_
    refine ex_lconst (v := 0) dX3_wipe_16 (by decide) ?_
    refine ex_lastN dX3_wipe_17 hc hb (by omega) ?_
    refine ex_iincN (L' := [some (.ref (r)), some (.int (nI (k + 1)))]) dX3_wipe_18 rfl rfl (by decide) rfl ?_
    refine ex_goto (tgt := 2) dX3_wipe_21 (by decide) ?_
    rw [xUL_set, zbL_s]
    exact ih (k + 1) (by omega)
theorem sp_LongRow_wipe (hr : rr r 0 = .ref c) (hs : SHl[r]? = some (.inl 3)) (hc : SHl[c]? = some (.inr (2, N))) (ha : r < n) (hb : c < n) (hQ : Q (.ok none) (n, g, i, xSetL q c (zbL (q c) (N)), rr)) : Wx m_LongRow_wipe 0 [some (.ref r), none] [] (n, g, i, q, rr) (0, 0) Q := by
  refine ex_iconst (v := nI 0) dX3_wipe_0 (by decide) ?_
  refine ex_istore_n (L' := [some (.ref (r)), some (.int (nI (0)))]) dX3_wipe_1 (i := 1) rfl (by decide) rfl ?_
  have h := sp_LongRow_wipe_loop hr hs hc ha hb hQ N 0 (by omega)
  rw [zbL_0, xSetL_self] at h
  exact h
end S13
