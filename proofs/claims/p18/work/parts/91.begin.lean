/-! ===== the law: its beginning ===== -/
def IWl : List ((Nat × Nat) × Int32) := [((0, 8), (-1)), ((0, 7), nI (0)), ((51, 2), nI (0)), ((52, 1), nI (8)), ((52, 0), nI (150)), ((46, 2), nI (0)), ((47, 1), nI (8)), ((47, 0), nI (150)), ((32, 7), nI (0)), ((32, 6), nI (0)), ((27, 3), nI (0)), ((16, 7), nI (0)), ((16, 6), nI (0)), ((25, 1), nI (7)), ((25, 0), nI (50)), ((23, 1), nI (14)), ((23, 0), nI (50)), ((21, 1), nI (75)), ((21, 0), nI (50)), ((1, 8), nI (0)), ((1, 7), nI (0)), ((14, 1), nI (15)), ((14, 0), nI (14)), ((12, 1), nI (15)), ((12, 0), nI (14)), ((10, 1), nI (15)), ((10, 0), nI (14)), ((2, 1), nI (5)), ((2, 0), nI (15))]
def RWl : List ((Nat × Nat) × Nat) := [((0, 6), 51), ((51, 1), 54), ((54, 0), 55), ((51, 0), 52), ((52, 2), 53), ((0, 5), 46), ((46, 1), 49), ((49, 0), 50), ((46, 0), 47), ((47, 2), 48), ((0, 4), 41), ((41, 2), 44), ((44, 0), 45), ((41, 1), 42), ((42, 0), 43), ((41, 0), 1), ((0, 3), 32), ((32, 5), 39), ((39, 0), 40), ((32, 4), 37), ((37, 0), 38), ((32, 3), 35), ((35, 0), 36), ((32, 2), 33), ((33, 0), 34), ((32, 1), 16), ((32, 0), 1), ((0, 2), 27), ((27, 2), 30), ((30, 0), 31), ((27, 1), 28), ((28, 0), 29), ((27, 0), 1), ((0, 1), 16), ((16, 5), 25), ((25, 2), 26), ((16, 4), 23), ((23, 2), 24), ((16, 3), 21), ((21, 2), 22), ((16, 2), 19), ((19, 0), 20), ((16, 1), 17), ((17, 0), 18), ((16, 0), 1), ((0, 0), 1), ((1, 6), 14), ((14, 2), 15), ((1, 5), 12), ((12, 2), 13), ((1, 4), 10), ((10, 2), 11), ((1, 3), 8), ((8, 0), 9), ((1, 2), 6), ((6, 0), 7), ((1, 1), 4), ((4, 0), 5), ((1, 0), 2), ((2, 2), 3)]
theorem iB_hi {i0 : Nat → Nat → Int32} {l : List ((Nat × Nat) × Int32)} {c a : Nat} (h : (l.all fun p => decide (p.1.1 < c)) = true) (ha : c ≤ a) : iB i0 l a = i0 a := by
  funext k
  unfold iB
  rw [lkN h a k ha]
theorem hiW {i0 : Nat → Nat → Int32} {a : Nat} (h : 56 ≤ a) : iB i0 IWl a = i0 a := iB_hi (l := IWl) (c := 56) rfl h
theorem lkW56 : ∀ a k, 56 ≤ a → IWl.lookup (a, k) = none := lkN (l := IWl) (c := 56) rfl
def rtO (a k : Nat) : Option Nat := if a = 0 then (if k = 5 then some 46 else if k = 6 then some 51 else ((RTl.lookup 0).getD [])[k]?) else ((RTl.lookup a).getD [])[k]?
theorem RT_rtO {a k : Nat} : RT false a k = match rtO a k with | some v => .ref v | none => .null := by
  unfold RT rtO
  by_cases h : a = 0
  · rw [if_pos h, if_pos h]
    by_cases h5 : k = 5
    · rw [if_pos h5, if_pos h5]; rfl
    · rw [if_neg h5, if_neg h5]
      by_cases h6 : k = 6
      · rw [if_pos h6, if_pos h6]; rfl
      · rw [if_neg h6, if_neg h6]
        cases ((List.lookup 0 RTl).getD [])[k]? <;> rfl
  · rw [if_neg h, if_neg h]
    cases ((List.lookup a RTl).getD [])[k]? <;> rfl
theorem rt_all : ∀ a ∈ List.range 56, ∀ k ∈ List.range 9, (match SHl[a]? with | some (.inl ci) => decide (k < xNf ci) && decide (xTy ci k ≠ 0) | _ => false) = true → RWl.lookup (a, k) = rtO a k := by decide +kernel
theorem xNf_9 : ∀ ci, ci < 10 → xNf ci ≤ 9 := by decide +kernel
theorem SHl_10 : ∀ a ∈ List.range 56, (match SHl[a]? with | some (.inl ci) => decide (ci < 10) | _ => true) = true := by decide +kernel
section S91
variable {μ ν : xMeth} {pc : Nat} {L0 : xLoc} {st stk : List Value} {M : xMem} {K : Nat × Nat} {Q : xRes → xMem → Prop} {idx : Nat} {as : List Value}
theorem ex_rq {Lc : xLoc} {n g : Nat} {i : Nat → Nat → Int32} {q : Nat → Nat → Int64} {r r' : Nat → Nat → Value} (hr : ∀ a ci k, a < n → SHl[a]? = some (.inl ci) → k < xNf ci → xTy ci k ≠ 0 → r a k = r' a k) (k : Wx μ pc Lc st (n, g, i, q, r') K Q) : Wx μ pc Lc st (n, g, i, q, r) K Q := by
  intro p l e s m args below meth c R base b D T CT ST QF hC hF H locs cells slots ls hS hL hc hs
  have hw : xWl base b T (n, g, i, q, r) = xWl base b T (n, g, i, q, r') := by
    unfold xWl
    apply List.map_congr_left
    intro a ha
    have ha := List.mem_range.mp ha
    congr 1
    unfold xE
    cases hs9 : SHl[a]? with
    | none => rfl
    | some v =>
      cases v with
      | inr w => rfl
      | inl ci =>
        show Sum.inr (ci, (List.range (xNf ci)).map (xFv base b ci (n, g, i, q, r) a)) = Sum.inr (ci, (List.range (xNf ci)).map (xFv base b ci (n, g, i, q, r') a))
        congr 2
        apply List.map_congr_left
        intro j hj
        have hj := List.mem_range.mp hj
        unfold xFv
        by_cases h0 : xTy ci j = 0
        · rw [if_pos h0, if_pos h0]
        · rw [if_neg h0, if_neg h0]
          show xV base b (r a j) = xV base b (r' a j)
          rw [hr a ci j ha hs9 hj h0]
  have hS2 : xSt μ s base b D T H locs (n, g, i, q, r') := by
    unfold xSt at hS ⊢
    rw [← hw]; exact hS
  exact k p l e s m args below meth c R base b D T CT ST QF hC hF H locs cells slots ls hS2 hL hc hs
end S91
theorem lkE {β : Type} {c : Nat} : ∀ {l : List ((Nat × Nat) × β)}, (l.all fun p => decide (p.1.1 ≠ c)) = true → ∀ k, l.lookup (c, k) = none
  | [], _, _ => rfl
  | ((b, j), v) :: l, h, k => by
    rw [List.all_cons, Bool.and_eq_true] at h
    have h1 : b ≠ c := of_decide_eq_true h.1
    rw [lk_cons, if_neg (fun z => h1 z.1.symm)]
    exact lkE h.2 k
theorem iW0 {xs : Nat → Int32} {L c : Nat} (h : (IWl.all fun p => decide (p.1.1 ≠ c)) = true) (hc : c < 60) (j : Nat) : iB (i0L xs L) IWl c j = nI 0 := by
  unfold iB
  rw [lkE h j]
  show i0L xs L c j = nI 0
  unfold i0L
  rw [if_neg (by omega), if_neg (by omega)]; rfl
/-- what holds while rules are added -/
def LV (xs : Nat → Int32) (L : Nat) (i : Nat → Nat → Int32) (n : Nat) (sy : Nat → Nat → Nat) : Prop :=
  SC i ∧ SBd i ∧ GS i n sy ∧ (∃ f, Vw i 9 14 f ∧ isF n sy f) ∧ ES i (fun _ => 0) (fun _ => 0) (fun _ => 0) ∧ Vw i 5 7 (fun _ => 0) ∧ Vw i 7 7 (fun _ => 0) ∧ (i 0 7 = nI 0 ∧ i 32 6 = nI 0) ∧ i 4096 = xs ∧ i 4097 0 = nI L
theorem LV_0 {xs : Nat → Int32} {L : Nat} : LV xs L (iB (i0L xs L) IWl) 0 (fun _ _ => 0) := by
  refine ⟨⟨⟨rfl, rfl⟩, ⟨rfl, rfl⟩, ⟨rfl, rfl⟩, ⟨rfl, rfl⟩, ⟨rfl, rfl⟩, ⟨rfl, rfl⟩, ⟨rfl, rfl⟩, ⟨rfl, rfl⟩, rfl, rfl⟩, ⟨⟨fun _ => 0, fun j _ => iW0 rfl (by decide) j, fun _ _ => by show 0 < 256; decide⟩, fun s _ => iW0 rfl (by decide) _⟩, ⟨rfl, fun r k _ _ => iW0 rfl (by decide) _, GW_z⟩, ⟨fun _ => 0, fun j _ => iW0 rfl (by decide) j, isF_z⟩, ?_, fun j _ => iW0 rfl (by decide) j, fun j _ => iW0 rfl (by decide) j, ⟨rfl, rfl⟩, ?_, ?_⟩
  · exact ⟨fun j _ => iW0 rfl (by decide) j, fun j _ => iW0 rfl (by decide) j, fun j _ => iW0 rfl (by decide) j, fun _ => Nat.zero_le _, fun j h => absurd (show 2 ≤ 0 from h) (by decide), fun j h => absurd (show 3 ≤ 0 from h) (by decide)⟩
  · rw [hiW (by decide)]; rfl
  · rw [hiW (by decide)]; rfl
theorem LV.fr {xs : Nat → Int32} {L n : Nat} {sy : Nat → Nat → Nat} {i i1 : Nat → Nat → Int32} {l : List Nat} (h : LV xs L i n sy) (hf : Fr l i i1) (hl : ∀ c ∈ l, 56 ≤ c ∧ c < 4096) : LV xs L i1 n sy := by
  obtain ⟨a, ⟨⟨F, b1, b2⟩, b3⟩, c, ⟨f, d1, d2⟩, e, f1, f2, ⟨g1, g2⟩, h1, h2⟩ := h
  have ne : ∀ c, c < 56 ∨ 4096 ≤ c → i1 c = i c := fun c hc => hf c (fun z => by have := hl c z; omega)
  have fr : Fr [100] i i1 → True := fun _ => trivial
  refine ⟨?_, ⟨⟨F, fun j hj => by rw [ne 22 (by decide)]; exact b1 j hj, b2⟩, fun s hs => by rw [ne 24 (by decide)]; exact b3 s hs⟩, ⟨by rw [ne 1 (by decide)]; exact c.1, fun r k hr hk => by rw [ne 3 (by decide)]; exact c.2.1 r k hr hk, c.2.2⟩, ⟨f, fun j hj => by rw [ne 9 (by decide)]; exact d1 j hj, d2⟩, ⟨fun j hj => by rw [ne 11 (by decide)]; exact e.1 j hj, fun j hj => by rw [ne 13 (by decide)]; exact e.2.1 j hj, fun j hj => by rw [ne 15 (by decide)]; exact e.2.2.1 j hj, e.2.2.2⟩, fun j hj => by rw [ne 5 (by decide)]; exact f1 j hj, fun j hj => by rw [ne 7 (by decide)]; exact f2 j hj, ⟨by rw [ne 0 (by decide)]; exact g1, by rw [ne 32 (by decide)]; exact g2⟩, by rw [ne 4096 (by decide)]; exact h1, by rw [ne 4097 (by decide)]; exact h2⟩
  unfold SC at a ⊢
  rw [ne 2 (by decide), ne 10 (by decide), ne 12 (by decide), ne 14 (by decide), ne 21 (by decide), ne 23 (by decide), ne 25 (by decide), ne 47 (by decide), ne 52 (by decide)]
  exact a
theorem lw_begin {xs : Nat → Int32} {L : Nat} {Q : xRes → xMem → Prop} (hL3 : L ≤ 260) (hN : ∀ sm rl, (sm = 1 ∧ rl = 6 ∨ sm = 0 ∧ 1 ≤ rl ∧ rl ≤ 4) → Wx m_Law_law 56 [some (.ref 4096), some (.ref 0), some (.int (nI sm)), some (.int (nI rl)), some (.ref 56), some (.ref 57), none, none, none, none, none, none, none, none, none] [] (58, 0, iB (i0L xs L) IWl, q0L, RT false) (1000, 10000) Q) :
    Wx m_Law_law 0 [some (.ref 4096), none, none, none, none, none, none, none, none, none, none, none, none, none, none] [] (0, 0, i0L xs L, q0L, r0L) (600086, 7301442) Q := by
  have h0 : ∀ a, a < 60 → i0L xs L a = fun _ => 0 := fun a ha => by
    funext k
    unfold i0L
    rw [if_neg (by omega), if_neg (by omega)]
  have h96 : iB (i0L xs L) IWl 4096 = xs := by rw [hiW (by decide)]; rfl
  have h97 : iB (i0L xs L) IWl 4097 0 = nI L := by rw [hiW (by decide)]; rfl
  have X8 : Wx m_Law_law 8 [some (.ref 4096), some (.ref 0), none, none, none, none, none, none, none, none, none, none, none, none, none] [] (56, 0, iB (i0L xs L) IWl, q0L, RT false) (2000, 20000) Q := by
    have e41 : ∀ x, x ≤ 4 → nI x = nI 4 ∨ nI x ≠ nI 4 := fun x _ => Classical.em _
    obtain ⟨v3, hv3, e3⟩ := and_m (clX xs L 0) 3
    by_cases h4 : clX xs L 0 &&& nI 4 = nI 4
    · refine ex_aload_n (i := 0) dL_law_8 rfl rfl ?_
      refine ex_iconst (v := nI 0) dL_law_9 (by decide) ?_
      refine ex_cZL (ν := m_Law_cell) (as := [.ref (4096), .int (nI (0))]) (by decide) dL_law_10 ln_Law_39 mfZ_Law_cell np_Law_cell rfl rfl ⟨(Nat.le_of_ble_eq_true rfl), (Nat.le_of_ble_eq_true rfl), (Nat.le_of_ble_eq_true rfl), (Nat.le_of_ble_eq_true rfl)⟩ ?_
      refine sp_Law_cell (by decide) h97 hL3 h96 ?_
      refine ⟨_, rfl, ⟨rfl, rfl⟩, ?_⟩
      refine ex_iconst (v := nI 4) dL_law_13 (by decide) ?_
      refine ex_iand dL_law_14 ?_
      refine ex_iconst (v := nI 4) dL_law_15 (by decide) ?_
      refine ex_icmp_ne (tgt := 23) dL_law_16 (by decide) (fun h16 => by exact absurd h4 h16) (fun h16 => ?_)
      refine ex_iconst (v := nI 1) dL_law_19 (by decide) ?_
      refine ex_goto (tgt := 24) dL_law_20 (by decide) ?_
      refine ex_istore_n (L' := [some (.ref (4096)), some (.ref (0)), some (.int (nI (1))), none, none, none, none, none, none, none, none, none, none, none, none]) dL_law_24 (i := 2) rfl (by decide) rfl ?_
      refine ex_iload_n (i := 2) dL_law_25 rfl rfl ?_
      refine ex_if_eqN (tgt := 34) dL_law_26 (by decide) (by omega) (fun h26 => by exact absurd h26 (by decide)) (fun h26 => ?_)
      refine ex_bipush (v := nI 6) dL_law_29 (by decide) ?_
      refine ex_goto (tgt := 43) dL_law_31 (by decide) ?_
      refine ex_istore_n (L' := [some (.ref (4096)), some (.ref (0)), some (.int (nI (1))), some (.int (nI (6))), none, none, none, none, none, none, none, none, none, none, none]) dL_law_43 (i := 3) rfl (by decide) rfl ?_
      refine ex_bipush (v := nI 6) dL_law_44 (by decide) ?_
      refine ex_Kw (K := (1999 + 1, 19994 + 6)) ⟨by decide, by decide⟩ ?_
      refine ex_newaI (N := 6) dL_law_46 wr_int rfl rfl (by decide) ?_
      refine ex_mem (xZ_B (h0 56 (by decide)) (fun k => lkW56 56 k (by decide))) ?_
      refine ex_astore (L' := [some (.ref (4096)), some (.ref (0)), some (.int (nI (1))), some (.int (nI (6))), some (.ref (56)), none, none, none, none, none, none, none, none, none, none]) dL_law_48 (by decide) rfl ?_
      refine ex_bipush (v := nI 24) dL_law_50 (by decide) ?_
      refine ex_Kw (K := (1998 + 1, 19970 + 24)) ⟨by decide, by decide⟩ ?_
      refine ex_newaI (N := 24) dL_law_52 wr_int rfl rfl (by decide) ?_
      refine ex_mem (xZ_B (h0 57 (by decide)) (fun k => lkW56 57 k (by decide))) ?_
      refine ex_astore (L' := [some (.ref (4096)), some (.ref (0)), some (.int (nI (1))), some (.int (nI (6))), some (.ref (56)), some (.ref (57)), none, none, none, none, none, none, none, none, none]) dL_law_54 (by decide) rfl ?_
      exact ex_Kw ⟨by decide, by decide⟩ (hN 1 6 (Or.inl ⟨rfl, rfl⟩))
    · refine ex_aload_n (i := 0) dL_law_8 rfl rfl ?_
      refine ex_iconst (v := nI 0) dL_law_9 (by decide) ?_
      refine ex_cZL (ν := m_Law_cell) (as := [.ref (4096), .int (nI (0))]) (by decide) dL_law_10 ln_Law_39 mfZ_Law_cell np_Law_cell rfl rfl ⟨(Nat.le_of_ble_eq_true rfl), (Nat.le_of_ble_eq_true rfl), (Nat.le_of_ble_eq_true rfl), (Nat.le_of_ble_eq_true rfl)⟩ ?_
      refine sp_Law_cell (by decide) h97 hL3 h96 ?_
      refine ⟨_, rfl, ⟨rfl, rfl⟩, ?_⟩
      refine ex_iconst (v := nI 4) dL_law_13 (by decide) ?_
      refine ex_iand dL_law_14 ?_
      refine ex_iconst (v := nI 4) dL_law_15 (by decide) ?_
      refine ex_icmp_ne (tgt := 23) dL_law_16 (by decide) (fun h16 => ?_) (fun h16 => by exact absurd h16 h4)
      refine ex_iconst (v := nI 0) dL_law_23 (by decide) ?_
      refine ex_istore_n (L' := [some (.ref (4096)), some (.ref (0)), some (.int (nI (0))), none, none, none, none, none, none, none, none, none, none, none, none]) dL_law_24 (i := 2) rfl (by decide) rfl ?_
      refine ex_iload_n (i := 2) dL_law_25 rfl rfl ?_
      refine ex_if_eqN (tgt := 34) dL_law_26 (by decide) (by omega) (fun h26 => ?_) (fun h26 => by exact absurd h26 (by decide))
      refine ex_iconst (v := nI 1) dL_law_34 (by decide) ?_
      refine ex_aload_n (i := 0) dL_law_35 rfl rfl ?_
      refine ex_iconst (v := nI 0) dL_law_36 (by decide) ?_
      refine ex_cZL (ν := m_Law_cell) (as := [.ref (4096), .int (nI (0))]) (by decide) dL_law_37 ln_Law_39 mfZ_Law_cell np_Law_cell rfl rfl ⟨(Nat.le_of_ble_eq_true rfl), (Nat.le_of_ble_eq_true rfl), (Nat.le_of_ble_eq_true rfl), (Nat.le_of_ble_eq_true rfl)⟩ ?_
      refine sp_Law_cell (by decide) h97 hL3 h96 ?_
      refine ⟨_, rfl, ⟨rfl, rfl⟩, ?_⟩
      refine ex_iconst (v := nI 3) dL_law_40 (by decide) ?_
      refine ex_iand dL_law_41 ?_
      refine ex_asN (a := v3) e3 ?_
      refine ex_iaddN dL_law_42 ?_
      refine ex_istore_n (L' := [some (.ref (4096)), some (.ref (0)), some (.int (nI (0))), some (.int (nI (1 + v3))), none, none, none, none, none, none, none, none, none, none, none]) dL_law_43 (i := 3) rfl (by decide) rfl ?_
      refine ex_bipush (v := nI 6) dL_law_44 (by decide) ?_
      refine ex_Kw (K := (1999 + 1, 19994 + 6)) ⟨by decide, by decide⟩ ?_
      refine ex_newaI (N := 6) dL_law_46 wr_int rfl rfl (by decide) ?_
      refine ex_mem (xZ_B (h0 56 (by decide)) (fun k => lkW56 56 k (by decide))) ?_
      refine ex_astore (L' := [some (.ref (4096)), some (.ref (0)), some (.int (nI (0))), some (.int (nI (1 + v3))), some (.ref (56)), none, none, none, none, none, none, none, none, none, none]) dL_law_48 (by decide) rfl ?_
      refine ex_bipush (v := nI 24) dL_law_50 (by decide) ?_
      refine ex_Kw (K := (1998 + 1, 19970 + 24)) ⟨by decide, by decide⟩ ?_
      refine ex_newaI (N := 24) dL_law_52 wr_int rfl rfl (by decide) ?_
      refine ex_mem (xZ_B (h0 57 (by decide)) (fun k => lkW56 57 k (by decide))) ?_
      refine ex_astore (L' := [some (.ref (4096)), some (.ref (0)), some (.int (nI (0))), some (.int (nI (1 + v3))), some (.ref (56)), some (.ref (57)), none, none, none, none, none, none, none, none, none]) dL_law_54 (by decide) rfl ?_
      exact ex_Kw ⟨by decide, by decide⟩ (hN 0 (1 + v3) (Or.inr ⟨rfl, by omega, by omega⟩))
  refine ex_mem (i' := iB (i0L xs L) []) rfl ?_
  refine ex_rr (r' := rB []) rfl ?_
  refine ex_Kw (K := (600085 + 1, 7301433 + xNf 9)) ⟨by decide, by decide⟩ ?_
  refine ex_new (ci := 9) dL_law_0 cf_9 nw_Law_8.1 nw_Law_8.2.1 nw_Law_8.2.2 rfl ?_
  refine ex_mem (xZ_B (h0 0 (by decide)) (fun k => rfl)) ?_
  refine ex_rr (xZR_B (fun k => rfl)) ?_
  refine ex_dup dL_law_3 rfl ?_
  refine ex_callI (Kc := (55, 10288)) (K := (600030, 7291145)) (a := 0) (ci := 9) (as := []) (Qk := fun v M => v = none ∧ M = (56, 0, iB (i0L xs L) IWl, q0L, rB RWl)) dL_law_4 ln_Law_51 mf_Works_init rfl (Nat.le_of_ble_eq_true rfl) np_Works_init rfl (Nat.le_of_ble_eq_true rfl) (Nat.le_of_ble_eq_true rfl) ⟨(Nat.le_of_ble_eq_true rfl), (Nat.le_of_ble_eq_true rfl)⟩ (Or.inr (by rintro _ _ ⟨-, rfl⟩; exact ⟨hiW (a := 4096) (by decide), hiW (a := 4097) (by decide)⟩)) ⟨by decide, by decide⟩ (sp_Works_init_0 h0 ⟨none, rfl, rfl, rfl⟩) ?_
  rintro _ _ ⟨rfl, rfl⟩
  refine ex_astore_n (L' := [some (.ref (4096)), some (.ref (0)), none, none, none, none, none, none, none, none, none, none, none, none, none]) dL_law_7 (i := 1) rfl (by decide) rfl ?_
  refine ex_rq (r' := RT false) (fun a ci k ha hs hk ht => ?_) (ex_Kw ⟨by decide, by decide⟩ X8)
  have h11 := SHl_10 a (List.mem_range.mpr ha)
  rw [hs] at h11
  have hk46 := Nat.lt_of_lt_of_le hk (xNf_9 ci (of_decide_eq_true h11))
  have := rt_all a (List.mem_range.mpr ha) k (List.mem_range.mpr hk46) (by rw [hs]; simp [hk, ht])
  rw [RT_rtO, ← this]
  rfl
