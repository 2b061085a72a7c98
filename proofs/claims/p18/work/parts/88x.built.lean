/-! ===== what a build leaves, as the parse needs it ===== -/
theorem GW_z : GW 0 (fun _ _ => 0) := ⟨by decide, fun _ _ _ _ _ => Or.inl rfl, fun r h => absurd h (Nat.not_lt_zero r), fun _ _ _ => rfl, fun _ _ _ _ _ _ => rfl, fun _ _ _ _ _ _ => rfl, rfl, fun h => absurd h (Nat.lt_irrefl 0), fun _ => rfl⟩
theorem isF_z : isF 0 (fun _ _ => 0) (fun _ => 0) := ⟨fun r h => absurd h (Nat.not_lt_zero r), fun _ _ _ => sub_0, fun _ => Nat.zero_lt_succ _⟩
def KSo (n : Nat) (ks : List Nat) : Prop := ∀ K, K ∈ ks → K < 2 ^ 60 ∧ okK n K
theorem stp_o {n : Nat} {sy : Nat → Nat → Nat} {ks : List Nat} {s x : Nat} (hn : n ≤ 14) (h : KSo n ks) (hs : s < ks.length) (h1 : 1 ≤ x) : KSo n (stp n sy ks s x) := by
  unfold stp
  split
  · exact h
  · intro K hK
    rw [List.mem_append, List.mem_singleton] at hK
    rcases hK with hK | rfl
    · exact h K hK
    · exact ⟨nkU_lt (Nat.le_refl _), okK_nx hn (h _ (gtD_mem hs)).2 (by omega)⟩
theorem bfs_o {n : Nat} {sy : Nat → Nat → Nat} (hn : n ≤ 14) : ∀ {m s x : Nat} {ks : List Nat}, 1 ≤ x → KSo n ks → KSo n (bfs n sy m s x ks)
  | 0, _, _, _, _, h => h
  | m + 1, s, x, ks, hx, h => by
    by_cases hs : s < ks.length
    · by_cases h14 : x < 14
      · rw [bfs_x hs h14]; exact bfs_o hn (by omega) (stp_o hn h hs hx)
      · rw [bfs_s hs h14]; exact bfs_o hn (by omega) h
    · rw [bfs_end (by omega)]; exact h
theorem KS_o {n : Nat} {sy : Nat → Nat → Nat} (hn : n ≤ 14) : KSo n (KS n sy) := bfs_o hn (by omega) (fun K hK => by
  have : K = 0 := by simpa using hK
  subst this; exact ⟨Nat.two_pow_pos 60, okK_0⟩)
theorem KS_0 {n : Nat} {sy : Nat → Nat → Nat} : 0 < (KS n sy).length ∧ (KS n sy).getD 0 0 = 0 := by
  have h : [0] <+: KS n sy := bfs_pre
  refine ⟨?_, pre_getD h (by decide)⟩
  have h1 : 1 ≤ (KS n sy).length := h.length_le
  omega
theorem tab_of {n : Nat} {sy : Nat → Nat → Nat} {op xp yp fi lv kd : Nat → Nat} {i1 : Nat → Nat → Int32} (gw : GW n sy) (n0 : 0 < n) (hf : isF n sy fi) (hB : BL n sy op xp yp fi lv kd i1) :
    ∃ S T pr F, LCt n sy T S pr ∧ CLa n sy fi T S F ∧ (∀ s it, s < S → it < 75 → pr s it → F (s * 75 + it) ≠ 0) ∧ (F 70).testBit 0 = true ∧ i1 16 6 = nI S ∧ (∀ s x, s < S → 1 ≤ x → x < 14 → i1 24 (s * 14 + x) = nI (T s x)) ∧ (∀ j, j < 7 * S → i1 26 j = DcA sy lv kd F T j) ∧ i1 16 7 = nI (cjF (DcA sy lv kd F T) (7 * S)) := by
  obtain ⟨F0, F, tr, fl, ⟨b1, b2, b3⟩, b4, b5, b6, ⟨b7, b8, b9, b10, b11⟩, ⟨b12, b13⟩, -⟩ := hB
  have hn := gw.1
  have k0 := KS_0 (n := n) (sy := sy)
  have hnz : ∀ j, 0 < j → j < (KS n sy).length → (KS n sy).getD j 0 ≠ 0 := fun j hj hl z => by
    have h1 := idx_getD (KS_i (n := n) (sy := sy)).1 hl
    have h2 := idx_getD (KS_i (n := n) (sy := sy)).1 k0.1
    rw [z] at h1
    rw [k0.2] at h2
    omega
  have lc := lct_of gw ⟨b2, b3, k0.2⟩ hnz (fun j => by
    by_cases c : j < (KS n sy).length
    · exact KS_o hn _ (gtD_mem c)
    · have : (KS n sy).getD j 0 = 0 := by rw [List.getD_eq_getElem?_getD, List.getElem?_eq_none (by omega)]; rfl
      rw [this]; exact ⟨Nat.two_pow_pos 60, okK_0⟩) (fun s x hs h1 h2 => (b4 s x hs h1 h2).1)
  obtain ⟨hF1, hF2⟩ := F_base n0 gw lc hf b6 b9 b10
  exact ⟨_, _, _, F, lc, b11, hF1, hF2, b1, fun s x hs h1 h2 => (b4 s x hs h1 h2).2, b13, b12⟩
