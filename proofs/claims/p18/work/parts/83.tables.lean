/-! ===== mathematics: class and reference have one table ===== -/
theorem gtD_mem {l : List Nat} {j : Nat} (h : j < l.length) : l.getD j 0 ∈ l := by
  rw [List.getD_eq_getElem?_getD, List.getElem?_eq_getElem h, Option.getD_some]; exact List.getElem_mem h
theorem mem_gtD {l : List Nat} {K : Nat} (h : K ∈ l) : ∃ j, j < l.length ∧ l.getD j 0 = K := by
  obtain ⟨j, hj, e⟩ := List.getElem_of_mem h
  exact ⟨j, hj, by rw [List.getD_eq_getElem?_getD, List.getElem?_eq_getElem hj, Option.getD_some]; exact e⟩
/-- no kernel comes twice, and each is gone to -/
def KSi (n : Nat) (sy : Nat → Nat → Nat) (ks : List Nat) : Prop := ks.Nodup ∧ ∀ K, K ∈ ks → K = 0 ∨ ∃ j x, j < ks.length ∧ 1 ≤ x ∧ x < 14 ∧ K = nx n sy (ks.getD j 0) x
theorem stp_i {n : Nat} {sy : Nat → Nat → Nat} {ks : List Nat} {s x : Nat} (h : KSi n sy ks) (hs : s < ks.length) (h1 : 1 ≤ x) (hx : x < 14) : KSi n sy (stp n sy ks s x) := by
  unfold stp
  split
  · exact h
  · rename_i hc
    have hm : ¬ nx n sy (ks.getD s 0) x ∈ ks := fun z => hc (Or.inr z)
    have e : ∀ j, j < ks.length → (ks ++ [nx n sy (ks.getD s 0) x]).getD j 0 = ks.getD j 0 := fun j hj => pre_getD (List.prefix_append _ _) hj
    refine ⟨?_, fun K hK => ?_⟩
    · rw [List.nodup_append]
      refine ⟨h.1, by simp, fun a ha b hb z => ?_⟩
      rw [List.mem_singleton] at hb
      exact hm (by rw [← hb, ← z]; exact ha)
    · rw [List.mem_append, List.mem_singleton] at hK
      rcases hK with hK | hK
      · rcases h.2 K hK with z | ⟨j, x', h2, h3, h4, h5⟩
        · exact Or.inl z
        · exact Or.inr ⟨j, x', by rw [List.length_append]; omega, h3, h4, by rw [e j h2]; exact h5⟩
      · exact Or.inr ⟨s, x, by rw [List.length_append]; omega, h1, hx, by rw [e s hs]; exact hK⟩
theorem bfs_i {n : Nat} {sy : Nat → Nat → Nat} : ∀ {m s x : Nat} {ks : List Nat}, 1 ≤ x → KSi n sy ks → KSi n sy (bfs n sy m s x ks)
  | 0, _, _, _, _, h => h
  | m + 1, s, x, ks, hx, h => by
    by_cases hs : s < ks.length
    · by_cases h14 : x < 14
      · rw [bfs_x hs h14]; exact bfs_i (by omega) (stp_i h hs hx h14)
      · rw [bfs_s hs h14]; exact bfs_i (by omega) h
    · rw [bfs_end (by omega)]; exact h
theorem KS_i {n : Nat} {sy : Nat → Nat → Nat} : KSi n sy (KS n sy) := bfs_i (by omega) ⟨by simp, fun K hK => Or.inl (by simpa using hK)⟩
theorem idx_getD {l : List Nat} (h : l.Nodup) {j : Nat} (hj : j < l.length) : l.idxOf (l.getD j 0) = j := by
  rw [List.getD_eq_getElem?_getD, List.getElem?_eq_getElem hj, Option.getD_some]
  exact List.Nodup.idxOf_getElem h j hj
/-- only one state ends the goal -/
theorem goal_st {n : Nat} {sy : Nat → Nat → Nat} (gw : GW n sy) (n0 : 0 < n) (h1 : ∀ j, 0 < j → j < (KS n sy).length → (KS n sy).getD j 0 ≠ 0) (lc : LCt n sy (tg n sy (KS n sy)) (KS n sy).length (fun s it => clP n sy (kst ((KS n sy).getD s 0)) it)) {s : Nat} (hs : s < (KS n sy).length) (h : clP n sy (kst ((KS n sy).getD s 0)) 71) : s = tg n sy (KS n sy) 0 (sy 0 0) := by
  have hlf := gw.2.2.1 0 n0
  have h2 := h
  rw [clP_ker (by decide) (by decide)] at h2
  have hne : (KS n sy).getD s 0 ≠ 0 := fun e => h2 (by rw [e, Nat.zero_and])
  obtain ⟨j, x, j1, j2, j3, j4⟩ := (KS_i.2 _ (gtD_mem hs)).resolve_left hne
  rw [j4, nx_tb (by omega) (by decide)] at h2
  have hj0 : j = 0 := lc.2.2.2.1.2 j j1 h2.1
  have hx : x = sy 0 0 := by
    rw [← h2.2]
    show (if 70 % 5 < 4 then sy (70 / 5) (70 % 5 + 1) else 0) = _
    rw [if_pos (by decide)]
    exact gw.2.2.2.2.2.2.2.1 n0
  subst hj0 hx
  unfold tg
  rw [← j4, if_neg hne, idx_getD KS_i.1 hs]