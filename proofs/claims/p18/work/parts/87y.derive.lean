/-! ===== mathematics: what is derived, node by node ===== -/
/-- a rule's right side -/
def rhL (sy : Nat → Nat → Nat) (r : Nat) : List Nat := (List.range (lnR sy r)).map (fun k => sy r (k + 1))
/-- what waits (the first of it first: symbols, and 20 + r for rule r behind its right side) gives the nodes w in f steps, the first symbol always first -/
def Drv (n : Nat) (sy : Nat → Nat → Nat) : Nat → List Nat → List Nat → Prop
  | 0, σ, w => σ = [] ∧ w = []
  | f + 1, σ, w => match σ with
    | [] => w = []
    | e :: σ' => (8 ≤ e ∧ e < 20 ∧ ∃ r, r < n ∧ sy r 0 = e ∧ Drv n sy f (rhL sy r ++ (20 + r) :: σ') w) ∨ ((e < 8 ∨ 20 ≤ e) ∧ ∃ w', w = e :: w' ∧ Drv n sy f σ' w')
/-- the tokens among nodes -/
def tks (w : List Nat) : List Nat := w.filter (fun e => decide (e < 8))
/-- the first of them, 0 if there is none -/
def hdT (w : List Nat) : Nat := (tks w).headD 0
theorem tks_tm {e : Nat} {w : List Nat} (h : e < 8) : tks (e :: w) = e :: tks w := by
  unfold tks; rw [List.filter_cons, if_pos (by simpa using h)]
theorem tks_rl {e : Nat} {w : List Nat} (h : ¬ e < 8) : tks (e :: w) = tks w := by
  unfold tks; rw [List.filter_cons, if_neg (by simpa using h)]
theorem tks_app {a b : List Nat} : tks (a ++ b) = tks a ++ tks b := by unfold tks; rw [List.filter_append]
theorem hdT_tm {e : Nat} {w : List Nat} (h : e < 8) : hdT (e :: w) = e := by unfold hdT; rw [tks_tm h]; rfl
theorem hdT_rl {e : Nat} {w : List Nat} (h : ¬ e < 8) : hdT (e :: w) = hdT w := by unfold hdT; rw [tks_rl h]
theorem hdT_l {a b : List Nat} (h : tks a ≠ []) : hdT (a ++ b) = hdT a := by
  unfold hdT; rw [tks_app]
  cases e : tks a with
  | nil => exact absurd e h
  | cons x l => rfl
theorem hdT_r {a b : List Nat} (h : tks a = []) : hdT (a ++ b) = hdT b := by
  unfold hdT; rw [tks_app, h]; rfl
theorem hdT_n {a : List Nat} (h : tks a = []) : hdT a = 0 := by unfold hdT; rw [h]; rfl
section S87y
variable {n : Nat} {sy : Nat → Nat → Nat}
theorem drv_nil : ∀ {f : Nat} {w : List Nat}, Drv n sy f [] w → w = []
  | 0, _, h => h.2
  | _ + 1, _, h => h
theorem drv_nt {f e r : Nat} {σ w : List Nat} (h8 : 8 ≤ e) (h20 : e < 20) (hr : r < n) (he : sy r 0 = e) (h : Drv n sy f (rhL sy r ++ (20 + r) :: σ) w) : Drv n sy (f + 1) (e :: σ) w := Or.inl ⟨h8, h20, r, hr, he, h⟩
theorem drv_out {f e : Nat} {σ w : List Nat} (he : e < 8 ∨ 20 ≤ e) (h : Drv n sy f σ w) : Drv n sy (f + 1) (e :: σ) (e :: w) := Or.inr ⟨he, w, rfl, h⟩
theorem drv_split : ∀ {f : Nat} {α σ w : List Nat}, Drv n sy f (α ++ σ) w → ∃ f1 f2 w1 w2, f1 ≤ f ∧ f2 ≤ f ∧ w = w1 ++ w2 ∧ Drv n sy f1 α w1 ∧ Drv n sy f2 σ w2
  | 0, α, σ, w, h => by
    obtain ⟨h1, h2⟩ := h
    obtain ⟨ha, hs⟩ := List.append_eq_nil_iff.mp h1
    exact ⟨0, 0, [], [], Nat.le_refl _, Nat.le_refl _, h2, ⟨ha, rfl⟩, ⟨hs, rfl⟩⟩
  | f + 1, [], σ, w, h => ⟨0, f + 1, [], w, Nat.zero_le _, Nat.le_refl _, rfl, ⟨rfl, rfl⟩, h⟩
  | f + 1, e :: α, σ, w, h => by
    have hz : (8 ≤ e ∧ e < 20 ∧ ∃ r, r < n ∧ sy r 0 = e ∧ Drv n sy f (rhL sy r ++ (20 + r) :: (α ++ σ)) w) ∨ ((e < 8 ∨ 20 ≤ e) ∧ ∃ w', w = e :: w' ∧ Drv n sy f (α ++ σ) w') := h
    clear h
    rcases hz with ⟨h8, h20, r, hr, he, hy⟩ | ⟨he, w', rfl, hy⟩
    · rw [← List.cons_append, ← List.append_assoc] at hy
      obtain ⟨f1, f2, w1, w2, a1, a2, a3, a4, a5⟩ := drv_split hy
      exact ⟨f1 + 1, f2, w1, w2, by omega, by omega, a3, drv_nt h8 h20 hr he a4, a5⟩
    · obtain ⟨f1, f2, w1, w2, a1, a2, rfl, a4, a5⟩ := drv_split hy
      exact ⟨f1 + 1, f2, e :: w1, w2, by omega, by omega, rfl, drv_out he a4, a5⟩
theorem rhL_len (r : Nat) : (rhL sy r).length = lnR sy r := by unfold rhL; rw [List.length_map, List.length_range]
theorem rhL_get {r j : Nat} (h : j < lnR sy r) : (rhL sy r)[j]? = some (sy r (j + 1)) := by
  unfold rhL; rw [List.getElem?_map, List.getElem?_range h]; rfl
theorem rhL_drop {r k : Nat} (h : k < lnR sy r) : (rhL sy r).drop k = sy r (k + 1) :: (rhL sy r).drop (k + 1) := by
  have hk : k < (rhL sy r).length := by rw [rhL_len]; exact h
  rw [List.drop_eq_getElem_cons hk]
  congr 1
  have := rhL_get h
  rw [List.getElem?_eq_getElem hk] at this
  exact Option.some.inj this
theorem rhL_end {r : Nat} : (rhL sy r).drop (lnR sy r) = [] := List.drop_of_length_le (by rw [rhL_len]; exact Nat.le_refl _)
/-- a symbol -/
def syO (x : Nat) : Prop := 1 ≤ x ∧ x ≤ 6 ∨ 8 ≤ x ∧ x ≤ 13
theorem rhL_ok (gw : GW n sy) {r x : Nat} (hr : r < 15) (h : x ∈ rhL sy r) : syO x := by
  unfold rhL at h
  obtain ⟨k, hk, rfl⟩ := List.mem_map.mp h
  have hk := List.mem_range.mp hk
  have hl := lnR_le sy r
  rcases gw.2.1 r (k + 1) hr (by omega) (by omega) with z | z
  · exact absurd z (Nat.ne_of_gt (lnR_nz (by omega) (by omega)))
  · exact z
/-- w, derived from β, begins as FIRST tells -/
def Fsq (fi : Nat → Nat) (β w : List Nat) : Prop := (tks w = [] → ∀ x ∈ β, fsT fi x % 2 = 1) ∧ (tks w ≠ [] → 1 ≤ hdT w ∧ hdT w ≤ 6 ∧ ∃ (j x : Nat), β[j]? = some x ∧ (fsT fi x).testBit (hdT w) = true ∧ ∀ (j' x' : Nat), j' < j → β[j']? = some x' → fsT fi x' % 2 = 1)
theorem fsq_cons {fi : Nat → Nat} {x : Nat} {β w1 w2 : List Nat} (h1 : Fsq fi [x] w1) (h2 : Fsq fi β w2) : Fsq fi (x :: β) (w1 ++ w2) := by
  refine ⟨fun h => ?_, fun h => ?_⟩
  · rw [tks_app] at h
    obtain ⟨e1, e2⟩ := List.append_eq_nil_iff.mp h
    intro y hy
    rcases List.mem_cons.mp hy with rfl | hy
    · exact h1.1 e1 _ List.mem_cons_self
    · exact h2.1 e2 y hy
  · by_cases e1 : tks w1 = []
    · have e2 : tks w2 ≠ [] := fun z => h (by rw [tks_app, e1, z]; rfl)
      rw [hdT_r e1]
      obtain ⟨a, b, j, y, c1, c2, c3⟩ := h2.2 e2
      refine ⟨a, b, j + 1, y, by simpa using c1, c2, fun j' x' hj hx => ?_⟩
      cases j' with
      | zero =>
        have : x = x' := by simpa using hx
        rw [← this]; exact h1.1 e1 _ List.mem_cons_self
      | succ j' => exact c3 j' x' (by omega) (by simpa using hx)
    · rw [hdT_l e1]
      obtain ⟨a, b, j, y, c1, c2, c3⟩ := h1.2 e1
      have hj : j = 0 := by
        cases j with
        | zero => rfl
        | succ j => simp at c1
      subst hj
      have : x = y := by simpa using c1
      subst this
      exact ⟨a, b, 0, x, rfl, c2, fun j' _ hj => by omega⟩
theorem fsq_all (gw : GW n sy) {fi : Nat → Nat} (hf : isF n sy fi) : ∀ f f' β w, f' ≤ f → (∀ x ∈ β, syO x) → Drv n sy f' β w → Fsq fi β w := by
  intro f
  induction f with
  | zero =>
    intro f' β w hf' hβ h
    have e : f' = 0 := by omega
    subst e
    obtain ⟨rfl, rfl⟩ := h
    exact ⟨fun _ x hx => (by cases hx), fun z => absurd rfl z⟩
  | succ f ih =>
    have one : ∀ f' x w, f' ≤ f + 1 → syO x → Drv n sy f' [x] w → Fsq fi [x] w := fun f' x w hf' hx h => by
      cases f' with
      | zero => exact absurd h.1 (by simp)
      | succ g =>
        rcases h with ⟨h8, h20, r, hr, he, h⟩ | ⟨he, w', rfl, h⟩
        · obtain ⟨f1, f2, w1, w2, a1, a2, rfl, a4, a5⟩ := drv_split h
          have hs := ih f1 (rhL sy r) w1 (by omega) (fun y hy => rhL_ok gw (by have := gw.1; omega) hy) a4
          have e2 : tks w2 = [] := by
            cases f2 with
            | zero => exact absurd a5.1 (by simp)
            | succ f2 =>
              rcases a5 with ⟨z1, z2, _⟩ | ⟨_, w3, rfl, a5⟩
              · omega
              · rw [tks_rl (by omega), drv_nil a5]; rfl
          have hr15 : r < 15 := by have := gw.1; omega
          have hcl : sub (sfx fi sy r 0) (fi x) := by rw [← he]; exact hf.1 r hr
          have hfx : fsT fi x = fi x := by unfold fsT; rw [if_neg (by omega)]
          have hl4 := lnR_le sy r
          refine ⟨fun z y hy => ?_, fun z => ?_⟩
          · rw [List.mem_singleton] at hy
            subst hy
            rw [tks_app] at z
            have z1 := (List.append_eq_nil_iff.mp z).1
            have hn : sfx fi sy r 0 % 2 = 1 := (sfx_nul gw hr15 (by omega)).mpr (fun k _ hk => hs.1 z1 _ (List.mem_of_getElem? (rhL_get hk)))
            rw [hfx]
            exact tb0.mp (hcl 0 (tb0.mpr hn))
          · have z1 : tks w1 ≠ [] := fun q => z (by rw [tks_app, q, e2]; rfl)
            rw [hdT_l z1]
            obtain ⟨b1, b2, j, y, c1, c2, c3⟩ := hs.2 z1
            refine ⟨b1, b2, 0, x, rfl, ?_, fun j' _ hj => by omega⟩
            rw [hfx]
            have hj : j < lnR sy r := by
              have := (List.getElem?_eq_some_iff.mp c1).1
              rw [rhL_len] at this; exact this
            have ey : y = sy r (j + 1) := by rw [rhL_get hj] at c1; exact (Option.some.inj c1).symm
            refine hcl _ ((sfx_bit gw hr15 (by omega) (by omega)).mpr ⟨j, Nat.zero_le _, hj, by rw [← ey]; exact c2, fun j' _ hj' => c3 j' _ hj' (rhL_get (by omega))⟩)
        · have e3 : w' = [] := drv_nil h
          subst e3
          have hx6 : 1 ≤ x ∧ x ≤ 6 := by
            unfold syO at hx; omega
          have ht : tks [x] = [x] := by rw [tks_tm (by omega)]; rfl
          have hd : hdT [x] = x := hdT_tm (by omega)
          refine ⟨fun z => (by rw [ht] at z; cases z), fun _ => ?_⟩
          rw [hd]
          refine ⟨hx6.1, hx6.2, 0, x, rfl, ?_, fun j' _ hj => by omega⟩
          unfold fsT
          rw [if_pos hx6]
          exact Nat.testBit_two_pow_self
    intro f' β
    induction β generalizing f' with
    | nil =>
      intro w hf' hβ h
      rw [drv_nil h]
      exact ⟨fun _ x hx => (by cases hx), fun z => absurd rfl z⟩
    | cons x β ihb =>
      intro w hf' hβ h
      obtain ⟨f1, f2, w1, w2, a1, a2, rfl, a4, a5⟩ := drv_split (α := [x]) (σ := β) h
      exact fsq_cons (one f1 x w1 (by omega) (hβ x List.mem_cons_self) a4) (ihb f2 w2 (by omega) (fun y hy => hβ y (List.mem_cons_of_mem _ hy)) a5)
theorem fsq_of (gw : GW n sy) {fi : Nat → Nat} (hf : isF n sy fi) {f : Nat} {β w : List Nat} (hβ : ∀ x ∈ β, syO x) (h : Drv n sy f β w) : Fsq fi β w := fsq_all gw hf f f β w (Nat.le_refl _) hβ h
/-- what follows a symbol is among what its item gives to that symbol's rules -/
theorem giv_has (gw : GW n sy) {fi : Nat → Nat} (hf : isF n sy fi) {r k own f : Nat} {σ w : List Nat} (hr : r < 15) (hk : k < lnR sy r) (hown : ∀ f w, Drv n sy f σ w → own.testBit (hdT w) = true) (h : Drv n sy f ((rhL sy r).drop (k + 1) ++ σ) w) : (giv fi sy (r * 5 + k) own).testBit (hdT w) = true := by
  have hl4 := lnR_le sy r
  have ed : (r * 5 + k) / 5 = r := by omega
  have em : (r * 5 + k) % 5 = k := by omega
  obtain ⟨f1, f2, w1, w2, a1, a2, rfl, a4, a5⟩ := drv_split h
  have hs := fsq_of gw hf (fun x hx => rhL_ok gw hr (List.mem_of_mem_drop hx)) a4
  rw [giv_tb gw (by omega) (by omega), ed, em]
  have hget : ∀ j, k + 1 + j < lnR sy r → ((rhL sy r).drop (k + 1))[j]? = some (sy r (k + 1 + j + 1)) := fun j hj => by
    rw [List.getElem?_drop]; exact rhL_get hj
  by_cases e1 : tks w1 = []
  · right
    refine ⟨fun k' h1 h2 => ?_, ?_⟩
    · refine hs.1 e1 _ (List.mem_of_getElem? (i := k' - (k + 1)) ?_)
      rw [hget _ (by omega), show k + 1 + (k' - (k + 1)) + 1 = k' + 1 by omega]
    · rw [hdT_r e1]; exact hown _ _ a5
  · left
    rw [hdT_l e1]
    obtain ⟨b1, b2, j, y, c1, c2, c3⟩ := hs.2 e1
    refine ⟨by omega, ?_⟩
    have hj : k + 1 + j < lnR sy r := by
      have := (List.getElem?_eq_some_iff.mp c1).1
      rw [List.length_drop, rhL_len] at this; omega
    have ey : y = sy r (k + 1 + j + 1) := by rw [hget j hj] at c1; exact (Option.some.inj c1).symm
    refine (sfx_bit gw hr (by omega) (by omega)).mpr ⟨k + 1 + j, by omega, hj, by rw [← ey]; exact c2, fun j' h1 h2 => ?_⟩
    have := c3 (j' - (k + 1)) (sy r (j' + 1)) (by omega) (by rw [hget _ (by omega), show k + 1 + (j' - (k + 1)) + 1 = j' + 1 by omega])
    exact this
end S87y
