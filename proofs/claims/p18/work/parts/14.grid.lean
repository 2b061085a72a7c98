/-! ===== Grid ===== -/
section S14
variable {n g : Nat} {i : Nat → Nat → Int32} {q : Nat → Nat → Int64} {rr : Nat → Nat → Value} {Q : xRes → xMem → Prop} {r c N R C : Nat}
theorem sp_Grid_index {a b : Nat} (hs : SHl[r]? = some (.inl 2)) (ha : r < n) (hg0 : i r 0 = nI R) (hg1 : i r 1 = nI C) (hR : R < 4096) (hC : C < 4096) (hA : a < R) (hB : b < C) (hQ : Q (.ok (some (.int (nI (a * C + b))))) (n, g, i, q, rr)) : Wx m_Grid_index 0 [some (.ref r), some (.int (nI a)), some (.int (nI b)), none] [] (n, g, i, q, rr) (0, 0) Q := by
  refine ex_iload_n (i := 1) dX2_index_0 rfl rfl ?_
  refine ex_if_ltN (tgt := 28) dX2_index_1 (by decide) (by omega) ?_
  refine ex_iload_n (i := 1) dX2_index_4 rfl rfl ?_
  refine ex_aload_n (i := 0) dX2_index_5 rfl rfl ?_
  refine ex_getI dX2_index_6 fl_Grid_7 rfl hs ha ?_
  refine ex_asN (a := R) hg0 ?_
  refine ex_icmp_geN (tgt := 28) dX2_index_9 (by decide) (by omega) (by omega) (fun h9 => by omega) (fun h9 => ?_)
  refine ex_iload_n (i := 2) dX2_index_12 rfl rfl ?_
  refine ex_if_ltN (tgt := 28) dX2_index_13 (by decide) (by omega) ?_
  refine ex_iload_n (i := 2) dX2_index_16 rfl rfl ?_
  refine ex_aload_n (i := 0) dX2_index_17 rfl rfl ?_
  refine ex_getI dX2_index_18 fl_Grid_13 rfl hs ha ?_
  refine ex_asN (a := C) hg1 ?_
  refine ex_icmp_geN (tgt := 28) dX2_index_21 (by decide) (by omega) (by omega) (fun h21 => by omega) (fun h21 => ?_)
  refine ex_iconst (v := nI 1) dX2_index_24 (by decide) ?_
  refine ex_goto (tgt := 29) dX2_index_25 (by decide) ?_
  refine ex_istore_n (L' := [some (.ref (r)), some (.int (nI (a))), some (.int (nI (b))), some (.int (nI (1)))]) dX2_index_29 (i := 3) rfl (by decide) rfl ?_
  refine ex_iload_n (i := 3) dX2_index_30 rfl rfl ?_
  refine ex_if_eqN (tgt := 45) dX2_index_31 (by decide) (by omega) (fun h31 => by exact absurd h31 (by decide)) (fun h31 => ?_)
  refine ex_iload_n (i := 1) dX2_index_34 rfl rfl ?_
  refine ex_aload_n (i := 0) dX2_index_35 rfl rfl ?_
  refine ex_getI dX2_index_36 fl_Grid_13 rfl hs ha ?_
  refine ex_asN (a := C) hg1 ?_
  refine ex_imulN dX2_index_39 ?_
  refine ex_iload_n (i := 2) dX2_index_40 rfl rfl ?_
  refine ex_iaddN dX2_index_41 ?_
  refine ex_goto (tgt := 46) dX2_index_42 (by decide) ?_
  refine ex_iret dX2_index_46 rfl rfl ?_
  exact hQ
theorem sp_Grid_index_out {x y : Int32} (hs : SHl[r]? = some (.inl 2)) (ha : r < n) (hg0 : i r 0 = nI R) (hg1 : i r 1 = nI C) (hout : x < 0 ∨ nI R ≤ x ∨ y < 0 ∨ nI C ≤ y) (hQ : Q (.ok (some (.int (-1)))) (n, g, i, q, rr)) : Wx m_Grid_index 0 [some (.ref r), some (.int x), some (.int y), none] [] (n, g, i, q, rr) (0, 0) Q := by
  refine ex_iload_n (i := 1) dX2_index_0 rfl rfl ?_
  refine ex_if_lt (tgt := 28) dX2_index_1 (by decide) (fun h1 => ?_) (fun h1 => ?_)
  · refine ex_iconst (v := nI 0) dX2_index_28 (by decide) ?_
    refine ex_istore_n (L' := [some (.ref (r)), some (.int (x)), some (.int (y)), some (.int (nI (0)))]) dX2_index_29 (i := 3) rfl (by decide) rfl ?_
    refine ex_iload_n (i := 3) dX2_index_30 rfl rfl ?_
    refine ex_if_eqN (tgt := 45) dX2_index_31 (by decide) (by omega) (fun h31 => ?_) (fun h31 => by exact absurd h31 (by decide))
    refine ex_iconst (v := -1) dX2_index_45 (by decide) ?_
    refine ex_iret dX2_index_46 rfl rfl ?_
    exact hQ
  · refine ex_iload_n (i := 1) dX2_index_4 rfl rfl ?_
    refine ex_aload_n (i := 0) dX2_index_5 rfl rfl ?_
    refine ex_getI dX2_index_6 fl_Grid_7 rfl hs ha ?_
    refine ex_asN (a := R) hg0 ?_
    refine ex_icmp_ge (tgt := 28) dX2_index_9 (by decide) (fun h9 => ?_) (fun h9 => ?_)
    · refine ex_iconst (v := nI 0) dX2_index_28 (by decide) ?_
      refine ex_istore_n (L' := [some (.ref (r)), some (.int (x)), some (.int (y)), some (.int (nI (0)))]) dX2_index_29 (i := 3) rfl (by decide) rfl ?_
      refine ex_iload_n (i := 3) dX2_index_30 rfl rfl ?_
      refine ex_if_eqN (tgt := 45) dX2_index_31 (by decide) (by omega) (fun h31 => ?_) (fun h31 => by exact absurd h31 (by decide))
      refine ex_iconst (v := -1) dX2_index_45 (by decide) ?_
      refine ex_iret dX2_index_46 rfl rfl ?_
      exact hQ
    · refine ex_iload_n (i := 2) dX2_index_12 rfl rfl ?_
      refine ex_if_lt (tgt := 28) dX2_index_13 (by decide) (fun h13 => ?_) (fun h13 => ?_)
      · refine ex_iconst (v := nI 0) dX2_index_28 (by decide) ?_
        refine ex_istore_n (L' := [some (.ref (r)), some (.int (x)), some (.int (y)), some (.int (nI (0)))]) dX2_index_29 (i := 3) rfl (by decide) rfl ?_
        refine ex_iload_n (i := 3) dX2_index_30 rfl rfl ?_
        refine ex_if_eqN (tgt := 45) dX2_index_31 (by decide) (by omega) (fun h31 => ?_) (fun h31 => by exact absurd h31 (by decide))
        refine ex_iconst (v := -1) dX2_index_45 (by decide) ?_
        refine ex_iret dX2_index_46 rfl rfl ?_
        exact hQ
      · refine ex_iload_n (i := 2) dX2_index_16 rfl rfl ?_
        refine ex_aload_n (i := 0) dX2_index_17 rfl rfl ?_
        refine ex_getI dX2_index_18 fl_Grid_13 rfl hs ha ?_
        refine ex_asN (a := C) hg1 ?_
        refine ex_icmp_ge (tgt := 28) dX2_index_21 (by decide) (fun h21 => ?_) (fun h21 => by exact absurd (((hout.resolve_left h1).resolve_left h9).resolve_left h13) h21)
        refine ex_iconst (v := nI 0) dX2_index_28 (by decide) ?_
        refine ex_istore_n (L' := [some (.ref (r)), some (.int (x)), some (.int (y)), some (.int (nI (0)))]) dX2_index_29 (i := 3) rfl (by decide) rfl ?_
        refine ex_iload_n (i := 3) dX2_index_30 rfl rfl ?_
        refine ex_if_eqN (tgt := 45) dX2_index_31 (by decide) (by omega) (fun h31 => ?_) (fun h31 => by exact absurd h31 (by decide))
        refine ex_iconst (v := -1) dX2_index_45 (by decide) ?_
        refine ex_iret dX2_index_46 rfl rfl ?_
        exact hQ
theorem sp_Grid_get {a b : Nat} (hr : rr r 2 = .ref c) (hs : SHl[r]? = some (.inl 2)) (hc : SHl[c]? = some (.inr (0, N))) (ha : r < n) (hb : c < n) (hg0 : i r 0 = nI R) (hg1 : i r 1 = nI C) (hRC : N = R * C) (hA : a < R) (hB : b < C) (hQ : Q (.ok (some (.int (i c (a * C + b))))) (n, g, i, q, rr)) : Wx m_Grid_get 0 [some (.ref r), some (.int (nI a)), some (.int (nI b)), none] [] (n, g, i, q, rr) (0, 0) Q := by
  have hN := sh_len hc
  have hlt : a * C + b < N := by
    have h2 : (a + 1) * C ≤ R * C := Nat.mul_le_mul_right C hA
    rw [Nat.succ_mul] at h2
    omega
  have hC1 : 1 * C ≤ R * C := Nat.mul_le_mul_right C (by omega)
  have hR1 : R * 1 ≤ R * C := Nat.mul_le_mul_left R (by omega)
  refine ex_aload_n (i := 0) dX2_get_0 rfl rfl ?_
  refine ex_iload_n (i := 1) dX2_get_1 rfl rfl ?_
  refine ex_iload_n (i := 2) dX2_get_2 rfl rfl ?_
  refine ex_cV (ν := m_Grid_index) (a := r) (ci := 2) (as := [.int (nI (a)), .int (nI (b))]) dX2_get_3 ln_Grid_26 mf_Grid_index hs ha rfl rfl np_Grid_index rfl rfl ⟨(Nat.le_of_ble_eq_true rfl), (Nat.le_of_ble_eq_true rfl), (Nat.le_of_ble_eq_true rfl), (Nat.le_of_ble_eq_true rfl)⟩ (by decide) ?_
  refine sp_Grid_index hs ha hg0 hg1 (by omega) (by omega) hA hB ?_
  refine ⟨_, rfl, ?_⟩
  refine ex_istore_n (L' := [some (.ref (r)), some (.int (nI (a))), some (.int (nI (b))), some (.int (nI (a * C + b)))]) dX2_get_6 (i := 3) rfl (by decide) rfl ?_
  refine ex_iload_n (i := 3) dX2_get_7 rfl rfl ?_
  refine ex_if_ltN (tgt := 29) dX2_get_8 (by decide) (by omega) ?_
  refine ex_iload_n (i := 3) dX2_get_11 rfl rfl ?_
  refine ex_aload_n (i := 0) dX2_get_12 rfl rfl ?_
  refine ex_getR (v := .ref (c)) dX2_get_13 fl_Grid_22 rfl hs ha hr ?_
  refine ex_alen (v := nI N) dX2_get_16 hc hb rfl ?_
  refine ex_icmp_geN (tgt := 29) dX2_get_17 (by decide) (by omega) (by omega) (fun h17 => by omega) (fun h17 => ?_)
  refine ex_aload_n (i := 0) dX2_get_20 rfl rfl ?_
  refine ex_getR (v := .ref (c)) dX2_get_21 fl_Grid_22 rfl hs ha hr ?_
  refine ex_iload_n (i := 3) dX2_get_24 rfl rfl ?_
  refine ex_ialdN dX2_get_25 hc hb (by omega) rfl ?_
  refine ex_goto (tgt := 30) dX2_get_26 (by decide) ?_
  refine ex_iret dX2_get_30 rfl rfl ?_
  exact hQ
theorem sp_Grid_get_out {x y : Int32} (hr : rr r 2 = .ref c) (hs : SHl[r]? = some (.inl 2)) (hc : SHl[c]? = some (.inr (0, N))) (ha : r < n) (hb : c < n) (hg0 : i r 0 = nI R) (hg1 : i r 1 = nI C) (hRC : N = R * C) (hout : x < 0 ∨ nI R ≤ x ∨ y < 0 ∨ nI C ≤ y) (hQ : Q (.ok (some (.int (nI 0)))) (n, g, i, q, rr)) : Wx m_Grid_get 0 [some (.ref r), some (.int x), some (.int y), none] [] (n, g, i, q, rr) (0, 0) Q := by
  refine ex_aload_n (i := 0) dX2_get_0 rfl rfl ?_
  refine ex_iload_n (i := 1) dX2_get_1 rfl rfl ?_
  refine ex_iload_n (i := 2) dX2_get_2 rfl rfl ?_
  refine ex_cV (ν := m_Grid_index) (a := r) (ci := 2) (as := [.int (x), .int (y)]) dX2_get_3 ln_Grid_26 mf_Grid_index hs ha rfl rfl np_Grid_index rfl rfl ⟨(Nat.le_of_ble_eq_true rfl), (Nat.le_of_ble_eq_true rfl), (Nat.le_of_ble_eq_true rfl), (Nat.le_of_ble_eq_true rfl)⟩ (by decide) ?_
  refine sp_Grid_index_out hs ha hg0 hg1 hout ?_
  refine ⟨_, rfl, ?_⟩
  refine ex_istore_n (L' := [some (.ref (r)), some (.int (x)), some (.int (y)), some (.int ((-1)))]) dX2_get_6 (i := 3) rfl (by decide) rfl ?_
  refine ex_iload_n (i := 3) dX2_get_7 rfl rfl ?_
  refine ex_if_lt (tgt := 29) dX2_get_8 (by decide) (fun h8 => ?_) (fun h8 => by exact absurd (by decide) h8)
  refine ex_iconst (v := nI 0) dX2_get_29 (by decide) ?_
  refine ex_iret dX2_get_30 rfl rfl ?_
  exact hQ
theorem sp_Grid_set {a b : Nat} {z : Int32} (hr : rr r 2 = .ref c) (hs : SHl[r]? = some (.inl 2)) (hc : SHl[c]? = some (.inr (0, N))) (ha : r < n) (hb : c < n) (hg0 : i r 0 = nI R) (hg1 : i r 1 = nI C) (hRC : N = R * C) (hA : a < R) (hB : b < C) (hQ : Q (.ok none) (n, g, xU i c (a * C + b) z, q, rr)) : Wx m_Grid_set 0 [some (.ref r), some (.int (nI a)), some (.int (nI b)), some (.int z), none] [] (n, g, i, q, rr) (0, 0) Q := by
  have hN := sh_len hc
  have hlt : a * C + b < N := by
    have h2 : (a + 1) * C ≤ R * C := Nat.mul_le_mul_right C hA
    rw [Nat.succ_mul] at h2
    omega
  have hC1 : 1 * C ≤ R * C := Nat.mul_le_mul_right C (by omega)
  have hR1 : R * 1 ≤ R * C := Nat.mul_le_mul_left R (by omega)
  refine ex_aload_n (i := 0) dX2_set_0 rfl rfl ?_
  refine ex_iload_n (i := 1) dX2_set_1 rfl rfl ?_
  refine ex_iload_n (i := 2) dX2_set_2 rfl rfl ?_
  refine ex_cV (ν := m_Grid_index) (a := r) (ci := 2) (as := [.int (nI (a)), .int (nI (b))]) dX2_set_3 ln_Grid_26 mf_Grid_index hs ha rfl rfl np_Grid_index rfl rfl ⟨(Nat.le_of_ble_eq_true rfl), (Nat.le_of_ble_eq_true rfl), (Nat.le_of_ble_eq_true rfl), (Nat.le_of_ble_eq_true rfl)⟩ (by decide) ?_
  refine sp_Grid_index hs ha hg0 hg1 (by omega) (by omega) hA hB ?_
  refine ⟨_, rfl, ?_⟩
  refine ex_istore (L' := [some (.ref (r)), some (.int (nI (a))), some (.int (nI (b))), some (.int (z)), some (.int (nI (a * C + b)))]) dX2_set_6 (by decide) rfl ?_
  refine ex_iload dX2_set_8 rfl ?_
  refine ex_if_ltN (tgt := 31) dX2_set_10 (by decide) (by omega) ?_
  refine ex_iload dX2_set_13 rfl ?_
  refine ex_aload_n (i := 0) dX2_set_15 rfl rfl ?_
  refine ex_getR (v := .ref (c)) dX2_set_16 fl_Grid_22 rfl hs ha hr ?_
  refine ex_alen (v := nI N) dX2_set_19 hc hb rfl ?_
  refine ex_icmp_geN (tgt := 31) dX2_set_20 (by decide) (by omega) (by omega) (fun h20 => by omega) (fun h20 => ?_)
  refine ex_aload_n (i := 0) dX2_set_23 rfl rfl ?_
  refine ex_getR (v := .ref (c)) dX2_set_24 fl_Grid_22 rfl hs ha hr ?_
  refine ex_iload dX2_set_27 rfl ?_
  refine ex_iload_n (i := 3) dX2_set_29 rfl rfl ?_
  refine ex_iastN dX2_set_30 hc hb (by omega) ?_
  refine ex_ret dX2_set_31 rfl ?_
  exact hQ
theorem sp_Grid_set_out {x y : Int32} {z : Int32} (hr : rr r 2 = .ref c) (hs : SHl[r]? = some (.inl 2)) (hc : SHl[c]? = some (.inr (0, N))) (ha : r < n) (hb : c < n) (hg0 : i r 0 = nI R) (hg1 : i r 1 = nI C) (hRC : N = R * C) (hout : x < 0 ∨ nI R ≤ x ∨ y < 0 ∨ nI C ≤ y) (hQ : Q (.ok none) (n, g, i, q, rr)) : Wx m_Grid_set 0 [some (.ref r), some (.int x), some (.int y), some (.int z), none] [] (n, g, i, q, rr) (0, 0) Q := by
  refine ex_aload_n (i := 0) dX2_set_0 rfl rfl ?_
  refine ex_iload_n (i := 1) dX2_set_1 rfl rfl ?_
  refine ex_iload_n (i := 2) dX2_set_2 rfl rfl ?_
  refine ex_cV (ν := m_Grid_index) (a := r) (ci := 2) (as := [.int (x), .int (y)]) dX2_set_3 ln_Grid_26 mf_Grid_index hs ha rfl rfl np_Grid_index rfl rfl ⟨(Nat.le_of_ble_eq_true rfl), (Nat.le_of_ble_eq_true rfl), (Nat.le_of_ble_eq_true rfl), (Nat.le_of_ble_eq_true rfl)⟩ (by decide) ?_
  refine sp_Grid_index_out hs ha hg0 hg1 hout ?_
  refine ⟨_, rfl, ?_⟩
  refine ex_istore (L' := [some (.ref (r)), some (.int (x)), some (.int (y)), some (.int (z)), some (.int ((-1)))]) dX2_set_6 (by decide) rfl ?_
  refine ex_iload dX2_set_8 rfl ?_
  refine ex_if_lt (tgt := 31) dX2_set_10 (by decide) (fun h10 => ?_) (fun h10 => by exact absurd (by decide) h10)
  refine ex_ret dX2_set_31 rfl ?_
  exact hQ
end S14
