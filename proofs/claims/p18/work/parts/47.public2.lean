/-! ===== the public methods: token, action, go ===== -/
section S47
variable {ζ g : Nat} {i : Nat → Nat → Int32} {q : Nat → Nat → Int64} {t : Bool} {Q : xRes → xMem → Prop} {n : Nat} {sy : Nat → Nat → Nat}
theorem sp_Works_token {x y : Int32} {a : Nat} (h6 : i 32 6 = nI a) (ha : a ≤ 40) (hX1 : tmX x = 0 → Q (.error "java/lang/IllegalArgumentException") (56 + ζ, g + 1, i, q, RT t)) (hX2 : ¬ tmX x = 0 → 40 ≤ a → Q (.error "java/lang/IllegalStateException") (56 + ζ, g + 1, i, q, RT t)) (hQ : ¬ tmX x = 0 → a < 40 → Q (.ok (some (.int (nI (a + 1))))) (56 + ζ, g, xU (xU (xU i 34 a x) 36 a y) 32 6 (nI (a + 1)), q, RT t)) : Wx m_Works_token 0 [some (.ref 0), some (.int x), some (.int y)] [] (56 + ζ, g, i, q, RT t) (1, 6) Q := by
  refine ex_iload_n (i := 1) dX9_token_0 rfl rfl ?_
  refine ex_cS (ν := m_Works_isTerminal) (as := [.int (x)]) dX9_token_1 ln_Works_99 mf_Works_isTerminal np_Works_isTerminal rfl rfl ⟨(Nat.le_of_ble_eq_true rfl), (Nat.le_of_ble_eq_true rfl), (Nat.le_of_ble_eq_true rfl), (Nat.le_of_ble_eq_true rfl)⟩ (by decide) ?_
  refine sp_Works_isTerminal_I ?_
  refine ⟨_, rfl, ?_⟩
  refine ex_if_neN (tgt := 17) dX9_token_4 (by decide) (tmX_b _) (fun h4 => ?_) (fun h4 => ?_)
  · refine ex_aload_n (i := 0) dX9_token_17 rfl rfl ?_
    refine ex_getR (v := .ref (32)) dX9_token_18 fl_Works_37 rfl rfl (l56 (by decide)) rfl ?_
    refine ex_cV (ν := m_Parser_size) (a := 32) (ci := 4) (as := []) dX9_token_21 ln_Works_194 mf_Parser_size rfl (l56 (by decide)) rfl rfl np_Parser_size rfl rfl ⟨(Nat.le_of_ble_eq_true rfl), (Nat.le_of_ble_eq_true rfl), (Nat.le_of_ble_eq_true rfl), (Nat.le_of_ble_eq_true rfl)⟩ (by decide) ?_
    refine sp_Parser_size ?_
    refine ⟨_, rfl, ?_⟩
    refine ex_asN (a := a) h6 ?_
    refine ex_bipush (v := nI 40) dX9_token_24 (by decide) ?_
    refine ex_icmp_ltN (tgt := 39) dX9_token_26 (by decide) (by omega) (by omega) (fun h26 => ?_) (fun h26 => ?_)
    · refine ex_aload_n (i := 0) dX9_token_39 rfl rfl ?_
      refine ex_getR (v := .ref (32)) dX9_token_40 fl_Works_37 rfl rfl (l56 (by decide)) rfl ?_
      refine ex_iload_n (i := 1) dX9_token_43 rfl rfl ?_
      refine ex_iload_n (i := 2) dX9_token_44 rfl rfl ?_
      refine ex_cV (ν := m_Parser_addToken) (a := 32) (ci := 4) (as := [.int (x), .int (y)]) dX9_token_45 ln_Works_197 mf_Parser_addToken rfl (l56 (by decide)) rfl rfl np_Parser_addToken rfl rfl ⟨(Nat.le_of_ble_eq_true rfl), (Nat.le_of_ble_eq_true rfl), (Nat.le_of_ble_eq_true rfl), (Nat.le_of_ble_eq_true rfl)⟩ (by decide) ?_
      refine sp_Parser_addToken (a := a) (by omega) h6 ?_
      refine ⟨_, rfl, ?_⟩
      refine ex_K0 ?_
      refine ex_iret dX9_token_48 rfl rfl ?_
      exact hQ h4 (by omega)
    · refine ex_throw th_Works_token_29 (by decide) ?_
      exact hX2 h4 (by omega)
  · refine ex_throw th_Works_token_7 (by decide) ?_
    exact hX1 h4
end S47
