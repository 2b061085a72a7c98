/-! ===== States.decide, decideAll; levels ===== -/
def lvS (lv f : Nat → Nat) : Nat := if tmB (f 4) = 1 then lv (f 4) else if tmB (f 3) = 1 then lv (f 3) else if tmB (f 2) = 1 then lv (f 2) else if tmB (f 1) = 1 then lv (f 1) else 0
/-- how many rules below k have P, and the last of them -/
noncomputable def rcF (P : Nat → Prop) : Nat → Nat × Nat
  | 0 => (0, 0)
  | k + 1 => @ite (Nat × Nat) (P k) (Classical.propDecidable _) ((rcF P k).1 + 1, k) (rcF P k)
theorem rcF_yes {P : Nat → Prop} {k : Nat} (h : P k) : rcF P (k + 1) = ((rcF P k).1 + 1, k) := by
  show (@ite (Nat × Nat) (P k) (Classical.propDecidable _) _ _) = _
  rw [if_pos h]
theorem rcF_no {P : Nat → Prop} {k : Nat} (h : ¬ P k) : rcF P (k + 1) = rcF P k := by
  show (@ite (Nat × Nat) (P k) (Classical.propDecidable _) _ _) = _
  rw [if_neg h]
theorem rcF_le {P : Nat → Prop} : ∀ {k : Nat}, (rcF P k).1 ≤ k
  | 0 => Nat.le_refl _
  | k + 1 => by
    have := rcF_le (P := P) (k := k)
    by_cases h : P k
    · rw [rcF_yes h]; show (rcF P k).1 + 1 ≤ k + 1; omega
    · rw [rcF_no h]; omega
theorem rcF_lt {P : Nat → Prop} : ∀ {k : Nat}, (rcF P k).2 < k + 1
  | 0 => by show 0 < 1; omega
  | k + 1 => by
    have := rcF_lt (P := P) (k := k)
    by_cases h : P k
    · rw [rcF_yes h]; show k < k + 1 + 1; omega
    · rw [rcF_no h]; omega
/-- what the levels leave -/
def wgh (rl l kd : Nat) (sh re : Int32) : Int32 := if rl = 0 ∨ l = 0 then nI 1001 else if rl ≠ l then (if l < rl then re else sh) else if kd = 0 then re else if kd = 1 then sh else nI 0
/-- what is to be done -/
noncomputable def dcV (c : Nat × Nat) (sh : Nat) (rl l kd : Nat) : Int32 := if c.1 = 0 then nI sh else if 1 < c.1 then nI 1001 else if sh = 0 then (if c.2 = 14 then nI 1000 else -1 - nI c.2) else wgh rl l kd (nI sh) (if c.2 = 14 then nI 1000 else -1 - nI c.2)
/-- rule r can be reduced in state s at t -/
def redP (sy : Nat → Nat → Nat) (F : Nat → Nat) (s t r : Nat) : Prop := (F (s * 75 + (r * 5 + lnR sy r)) &&& 127).testBit t = true
noncomputable def dcS (sy : Nat → Nat → Nat) (lv kd : Nat → Nat) (F : Nat → Nat) (T : Nat → Nat → Nat) (s t : Nat) : Int32 := dcV (rcF (redP sy F s t) 15) (if t = 0 then 0 else T s t) (lvS lv (sy (rcF (redP sy F s t) 15).2)) (lv t) (kd t)
/-- conflicts among the first k -/
noncomputable def cjF (D : Nat → Int32) : Nat → Nat
  | 0 => 0
  | k + 1 => if D k = nI 1001 then cjF D k + 1 else cjF D k
theorem cjF_le {D : Nat → Int32} : ∀ {k : Nat}, cjF D k ≤ k
  | 0 => Nat.le_refl _
  | k + 1 => by
    have := cjF_le (D := D) (k := k)
    show (if D k = nI 1001 then cjF D k + 1 else cjF D k) ≤ k + 1
    split <;> omega
theorem tb_shift {a t : Nat} : a / 2 ^ t &&& 1 = 0 ↔ ¬ a.testBit t = true := by
  rw [Nat.and_one_is_mod, Nat.testBit_eq_decide_div_mod_eq]
  simp
section S27
variable {ζ g : Nat} {i : Nat → Nat → Int32} {q : Nat → Nat → Int64} {t : Bool} {Q : xRes → xMem → Prop} {n : Nat} {sy : Nat → Nat → Nat} {lv kd : Nat → Nat} {F : Nat → Nat} {T : Nat → Nat → Nat} {S : Nat}
theorem sp_Grammar_levelOfRule {r : Nat} {f : Nat → Nat} (sc : SC i) (hr : r < 15) (hf : ∀ k, k < 5 → i 3 (r * 5 + k) = nI (f k)) (hb : ∀ k, k < 5 → f k < 4096) (hlv : Vw i 5 7 lv) (hlb : ∀ s, lv s ≤ 9) (hQ : Q (.ok (some (.int (nI (lvS lv f))))) (56 + ζ, g, i, q, RT t)) : Wx m_Grammar_levelOfRule 0 [some (.ref 1), some (.int (nI r)), none, none] [] (56 + ζ, g, i, q, RT t) (0, 0) Q := by
  have b1 := hb 1 (by decide)
  have b2 := hb 2 (by decide)
  have b3 := hb 3 (by decide)
  have b4 := hb 4 (by decide)
  have tm7 : ∀ s, tmB s = 1 → s < 7 := fun s h => by
    unfold tmB at h
    split at h
    · omega
    · omega
  have tmc : ∀ s, tmB s = 0 ∨ tmB s = 1 := fun s => by have := tmB_le s; omega
  unfold lvS at hQ
  rcases tmc (f 1) with c1 | c1 <;> rcases tmc (f 2) with c2 | c2 <;> rcases tmc (f 3) with c3 | c3 <;> rcases tmc (f 4) with c4 | c4
  ·
    refine ex_iconst (v := nI 0) dX1_levelOfRule_0 (by decide) ?_
    refine ex_istore_n (L' := [some (.ref (1)), some (.int (nI (r))), some (.int (nI (0))), none]) dX1_levelOfRule_1 (i := 2) rfl (by decide) rfl ?_
    refine ex_iconst (v := nI 1) dX1_levelOfRule_2 (by decide) ?_
    refine ex_istore_n (L' := [some (.ref (1)), some (.int (nI (r))), some (.int (nI (0))), some (.int (nI (1)))]) dX1_levelOfRule_3 (i := 3) rfl (by decide) rfl ?_
    refine ex_iload_n (i := 3) dX1_levelOfRule_4 rfl rfl ?_
    refine ex_iconst (v := nI 4) dX1_levelOfRule_5 (by decide) ?_
    refine ex_icmp_gtN (tgt := 38) dX1_levelOfRule_6 (by decide) (by decide) (by decide) (fun hz6 => by exact absurd hz6 (by decide)) (fun hz6 => ?_)
    refine ex_aload_n (i := 0) dX1_levelOfRule_9 rfl rfl ?_
    refine ex_iload_n (i := 1) dX1_levelOfRule_10 rfl rfl ?_
    refine ex_iload_n (i := 3) dX1_levelOfRule_11 rfl rfl ?_
    refine ex_cV (ν := m_Grammar_symbolAt) (a := 1) (ci := 1) (as := [.int (nI (r)), .int (nI (1))]) dX1_levelOfRule_12 ln_Grammar_71 mf_Grammar_symbolAt rfl (l56 (by decide)) rfl rfl np_Grammar_symbolAt rfl rfl ⟨(Nat.le_of_ble_eq_true rfl), (Nat.le_of_ble_eq_true rfl), (Nat.le_of_ble_eq_true rfl), (Nat.le_of_ble_eq_true rfl)⟩ (by decide) ?_
    refine sp_Grammar_symbolAt sc (by omega) (by omega) ?_
    refine ⟨_, rfl, ?_⟩
    refine ex_asN (a := f 1) (hf 1 (by decide)) ?_
    refine ex_cN (ν := m_Works_isTerminal) (as := [.int (nI (f 1))]) dX1_levelOfRule_15 ln_Grammar_74 mf_Works_isTerminal np_Works_isTerminal rfl rfl ⟨(Nat.le_of_ble_eq_true rfl), (Nat.le_of_ble_eq_true rfl), (Nat.le_of_ble_eq_true rfl), (Nat.le_of_ble_eq_true rfl)⟩ (by decide) ?_
    refine sp_Works_isTerminal (by omega) ?_
    refine ⟨_, rfl, ?_⟩
    refine ex_asN (a := 0) (by rw [c1]) ?_
    refine ex_if_eqN (tgt := 32) dX1_levelOfRule_18 (by decide) (by omega) (fun hz18 => ?_) (fun hz18 => by exact absurd hz18 (by decide))
    refine ex_iincN (L' := [some (.ref (1)), some (.int (nI (r))), some (.int (nI (0))), some (.int (nI (2)))]) dX1_levelOfRule_32 rfl rfl (by decide) rfl ?_
    refine ex_goto (tgt := 4) dX1_levelOfRule_35 (by decide) ?_
    refine ex_iload_n (i := 3) dX1_levelOfRule_4 rfl rfl ?_
    refine ex_iconst (v := nI 4) dX1_levelOfRule_5 (by decide) ?_
    refine ex_icmp_gtN (tgt := 38) dX1_levelOfRule_6 (by decide) (by decide) (by decide) (fun hz6 => by exact absurd hz6 (by decide)) (fun hz6 => ?_)
    refine ex_aload_n (i := 0) dX1_levelOfRule_9 rfl rfl ?_
    refine ex_iload_n (i := 1) dX1_levelOfRule_10 rfl rfl ?_
    refine ex_iload_n (i := 3) dX1_levelOfRule_11 rfl rfl ?_
    refine ex_cV (ν := m_Grammar_symbolAt) (a := 1) (ci := 1) (as := [.int (nI (r)), .int (nI (2))]) dX1_levelOfRule_12 ln_Grammar_71 mf_Grammar_symbolAt rfl (l56 (by decide)) rfl rfl np_Grammar_symbolAt rfl rfl ⟨(Nat.le_of_ble_eq_true rfl), (Nat.le_of_ble_eq_true rfl), (Nat.le_of_ble_eq_true rfl), (Nat.le_of_ble_eq_true rfl)⟩ (by decide) ?_
    refine sp_Grammar_symbolAt sc (by omega) (by omega) ?_
    refine ⟨_, rfl, ?_⟩
    refine ex_asN (a := f 2) (hf 2 (by decide)) ?_
    refine ex_cN (ν := m_Works_isTerminal) (as := [.int (nI (f 2))]) dX1_levelOfRule_15 ln_Grammar_74 mf_Works_isTerminal np_Works_isTerminal rfl rfl ⟨(Nat.le_of_ble_eq_true rfl), (Nat.le_of_ble_eq_true rfl), (Nat.le_of_ble_eq_true rfl), (Nat.le_of_ble_eq_true rfl)⟩ (by decide) ?_
    refine sp_Works_isTerminal (by omega) ?_
    refine ⟨_, rfl, ?_⟩
    refine ex_asN (a := 0) (by rw [c2]) ?_
    refine ex_if_eqN (tgt := 32) dX1_levelOfRule_18 (by decide) (by omega) (fun hz18 => ?_) (fun hz18 => by exact absurd hz18 (by decide))
    refine ex_iincN (L' := [some (.ref (1)), some (.int (nI (r))), some (.int (nI (0))), some (.int (nI (3)))]) dX1_levelOfRule_32 rfl rfl (by decide) rfl ?_
    refine ex_goto (tgt := 4) dX1_levelOfRule_35 (by decide) ?_
    refine ex_iload_n (i := 3) dX1_levelOfRule_4 rfl rfl ?_
    refine ex_iconst (v := nI 4) dX1_levelOfRule_5 (by decide) ?_
    refine ex_icmp_gtN (tgt := 38) dX1_levelOfRule_6 (by decide) (by decide) (by decide) (fun hz6 => by exact absurd hz6 (by decide)) (fun hz6 => ?_)
    refine ex_aload_n (i := 0) dX1_levelOfRule_9 rfl rfl ?_
    refine ex_iload_n (i := 1) dX1_levelOfRule_10 rfl rfl ?_
    refine ex_iload_n (i := 3) dX1_levelOfRule_11 rfl rfl ?_
    refine ex_cV (ν := m_Grammar_symbolAt) (a := 1) (ci := 1) (as := [.int (nI (r)), .int (nI (3))]) dX1_levelOfRule_12 ln_Grammar_71 mf_Grammar_symbolAt rfl (l56 (by decide)) rfl rfl np_Grammar_symbolAt rfl rfl ⟨(Nat.le_of_ble_eq_true rfl), (Nat.le_of_ble_eq_true rfl), (Nat.le_of_ble_eq_true rfl), (Nat.le_of_ble_eq_true rfl)⟩ (by decide) ?_
    refine sp_Grammar_symbolAt sc (by omega) (by omega) ?_
    refine ⟨_, rfl, ?_⟩
    refine ex_asN (a := f 3) (hf 3 (by decide)) ?_
    refine ex_cN (ν := m_Works_isTerminal) (as := [.int (nI (f 3))]) dX1_levelOfRule_15 ln_Grammar_74 mf_Works_isTerminal np_Works_isTerminal rfl rfl ⟨(Nat.le_of_ble_eq_true rfl), (Nat.le_of_ble_eq_true rfl), (Nat.le_of_ble_eq_true rfl), (Nat.le_of_ble_eq_true rfl)⟩ (by decide) ?_
    refine sp_Works_isTerminal (by omega) ?_
    refine ⟨_, rfl, ?_⟩
    refine ex_asN (a := 0) (by rw [c3]) ?_
    refine ex_if_eqN (tgt := 32) dX1_levelOfRule_18 (by decide) (by omega) (fun hz18 => ?_) (fun hz18 => by exact absurd hz18 (by decide))
    refine ex_iincN (L' := [some (.ref (1)), some (.int (nI (r))), some (.int (nI (0))), some (.int (nI (4)))]) dX1_levelOfRule_32 rfl rfl (by decide) rfl ?_
    refine ex_goto (tgt := 4) dX1_levelOfRule_35 (by decide) ?_
    refine ex_iload_n (i := 3) dX1_levelOfRule_4 rfl rfl ?_
    refine ex_iconst (v := nI 4) dX1_levelOfRule_5 (by decide) ?_
    refine ex_icmp_gtN (tgt := 38) dX1_levelOfRule_6 (by decide) (by decide) (by decide) (fun hz6 => by exact absurd hz6 (by decide)) (fun hz6 => ?_)
    refine ex_aload_n (i := 0) dX1_levelOfRule_9 rfl rfl ?_
    refine ex_iload_n (i := 1) dX1_levelOfRule_10 rfl rfl ?_
    refine ex_iload_n (i := 3) dX1_levelOfRule_11 rfl rfl ?_
    refine ex_cV (ν := m_Grammar_symbolAt) (a := 1) (ci := 1) (as := [.int (nI (r)), .int (nI (4))]) dX1_levelOfRule_12 ln_Grammar_71 mf_Grammar_symbolAt rfl (l56 (by decide)) rfl rfl np_Grammar_symbolAt rfl rfl ⟨(Nat.le_of_ble_eq_true rfl), (Nat.le_of_ble_eq_true rfl), (Nat.le_of_ble_eq_true rfl), (Nat.le_of_ble_eq_true rfl)⟩ (by decide) ?_
    refine sp_Grammar_symbolAt sc (by omega) (by omega) ?_
    refine ⟨_, rfl, ?_⟩
    refine ex_asN (a := f 4) (hf 4 (by decide)) ?_
    refine ex_cN (ν := m_Works_isTerminal) (as := [.int (nI (f 4))]) dX1_levelOfRule_15 ln_Grammar_74 mf_Works_isTerminal np_Works_isTerminal rfl rfl ⟨(Nat.le_of_ble_eq_true rfl), (Nat.le_of_ble_eq_true rfl), (Nat.le_of_ble_eq_true rfl), (Nat.le_of_ble_eq_true rfl)⟩ (by decide) ?_
    refine sp_Works_isTerminal (by omega) ?_
    refine ⟨_, rfl, ?_⟩
    refine ex_asN (a := 0) (by rw [c4]) ?_
    refine ex_if_eqN (tgt := 32) dX1_levelOfRule_18 (by decide) (by omega) (fun hz18 => ?_) (fun hz18 => by exact absurd hz18 (by decide))
    refine ex_iincN (L' := [some (.ref (1)), some (.int (nI (r))), some (.int (nI (0))), some (.int (nI (5)))]) dX1_levelOfRule_32 rfl rfl (by decide) rfl ?_
    refine ex_goto (tgt := 4) dX1_levelOfRule_35 (by decide) ?_
    refine ex_iload_n (i := 3) dX1_levelOfRule_4 rfl rfl ?_
    refine ex_iconst (v := nI 4) dX1_levelOfRule_5 (by decide) ?_
    refine ex_icmp_gtN (tgt := 38) dX1_levelOfRule_6 (by decide) (by decide) (by decide) (fun hz6 => ?_) (fun hz6 => by exact absurd hz6 (by decide))
    refine ex_iload_n (i := 2) dX1_levelOfRule_38 rfl rfl ?_
    refine ex_iret dX1_levelOfRule_39 rfl rfl ?_
    simp only [c1, c2, c3, c4, if_true, if_false, if_pos, show ((0 : Nat) = 1) = False from by simp] at hQ; exact hQ
  ·
    refine ex_iconst (v := nI 0) dX1_levelOfRule_0 (by decide) ?_
    refine ex_istore_n (L' := [some (.ref (1)), some (.int (nI (r))), some (.int (nI (0))), none]) dX1_levelOfRule_1 (i := 2) rfl (by decide) rfl ?_
    refine ex_iconst (v := nI 1) dX1_levelOfRule_2 (by decide) ?_
    refine ex_istore_n (L' := [some (.ref (1)), some (.int (nI (r))), some (.int (nI (0))), some (.int (nI (1)))]) dX1_levelOfRule_3 (i := 3) rfl (by decide) rfl ?_
    refine ex_iload_n (i := 3) dX1_levelOfRule_4 rfl rfl ?_
    refine ex_iconst (v := nI 4) dX1_levelOfRule_5 (by decide) ?_
    refine ex_icmp_gtN (tgt := 38) dX1_levelOfRule_6 (by decide) (by decide) (by decide) (fun hz6 => by exact absurd hz6 (by decide)) (fun hz6 => ?_)
    refine ex_aload_n (i := 0) dX1_levelOfRule_9 rfl rfl ?_
    refine ex_iload_n (i := 1) dX1_levelOfRule_10 rfl rfl ?_
    refine ex_iload_n (i := 3) dX1_levelOfRule_11 rfl rfl ?_
    refine ex_cV (ν := m_Grammar_symbolAt) (a := 1) (ci := 1) (as := [.int (nI (r)), .int (nI (1))]) dX1_levelOfRule_12 ln_Grammar_71 mf_Grammar_symbolAt rfl (l56 (by decide)) rfl rfl np_Grammar_symbolAt rfl rfl ⟨(Nat.le_of_ble_eq_true rfl), (Nat.le_of_ble_eq_true rfl), (Nat.le_of_ble_eq_true rfl), (Nat.le_of_ble_eq_true rfl)⟩ (by decide) ?_
    refine sp_Grammar_symbolAt sc (by omega) (by omega) ?_
    refine ⟨_, rfl, ?_⟩
    refine ex_asN (a := f 1) (hf 1 (by decide)) ?_
    refine ex_cN (ν := m_Works_isTerminal) (as := [.int (nI (f 1))]) dX1_levelOfRule_15 ln_Grammar_74 mf_Works_isTerminal np_Works_isTerminal rfl rfl ⟨(Nat.le_of_ble_eq_true rfl), (Nat.le_of_ble_eq_true rfl), (Nat.le_of_ble_eq_true rfl), (Nat.le_of_ble_eq_true rfl)⟩ (by decide) ?_
    refine sp_Works_isTerminal (by omega) ?_
    refine ⟨_, rfl, ?_⟩
    refine ex_asN (a := 0) (by rw [c1]) ?_
    refine ex_if_eqN (tgt := 32) dX1_levelOfRule_18 (by decide) (by omega) (fun hz18 => ?_) (fun hz18 => by exact absurd hz18 (by decide))
    refine ex_iincN (L' := [some (.ref (1)), some (.int (nI (r))), some (.int (nI (0))), some (.int (nI (2)))]) dX1_levelOfRule_32 rfl rfl (by decide) rfl ?_
    refine ex_goto (tgt := 4) dX1_levelOfRule_35 (by decide) ?_
    refine ex_iload_n (i := 3) dX1_levelOfRule_4 rfl rfl ?_
    refine ex_iconst (v := nI 4) dX1_levelOfRule_5 (by decide) ?_
    refine ex_icmp_gtN (tgt := 38) dX1_levelOfRule_6 (by decide) (by decide) (by decide) (fun hz6 => by exact absurd hz6 (by decide)) (fun hz6 => ?_)
    refine ex_aload_n (i := 0) dX1_levelOfRule_9 rfl rfl ?_
    refine ex_iload_n (i := 1) dX1_levelOfRule_10 rfl rfl ?_
    refine ex_iload_n (i := 3) dX1_levelOfRule_11 rfl rfl ?_
    refine ex_cV (ν := m_Grammar_symbolAt) (a := 1) (ci := 1) (as := [.int (nI (r)), .int (nI (2))]) dX1_levelOfRule_12 ln_Grammar_71 mf_Grammar_symbolAt rfl (l56 (by decide)) rfl rfl np_Grammar_symbolAt rfl rfl ⟨(Nat.le_of_ble_eq_true rfl), (Nat.le_of_ble_eq_true rfl), (Nat.le_of_ble_eq_true rfl), (Nat.le_of_ble_eq_true rfl)⟩ (by decide) ?_
    refine sp_Grammar_symbolAt sc (by omega) (by omega) ?_
    refine ⟨_, rfl, ?_⟩
    refine ex_asN (a := f 2) (hf 2 (by decide)) ?_
    refine ex_cN (ν := m_Works_isTerminal) (as := [.int (nI (f 2))]) dX1_levelOfRule_15 ln_Grammar_74 mf_Works_isTerminal np_Works_isTerminal rfl rfl ⟨(Nat.le_of_ble_eq_true rfl), (Nat.le_of_ble_eq_true rfl), (Nat.le_of_ble_eq_true rfl), (Nat.le_of_ble_eq_true rfl)⟩ (by decide) ?_
    refine sp_Works_isTerminal (by omega) ?_
    refine ⟨_, rfl, ?_⟩
    refine ex_asN (a := 0) (by rw [c2]) ?_
    refine ex_if_eqN (tgt := 32) dX1_levelOfRule_18 (by decide) (by omega) (fun hz18 => ?_) (fun hz18 => by exact absurd hz18 (by decide))
    refine ex_iincN (L' := [some (.ref (1)), some (.int (nI (r))), some (.int (nI (0))), some (.int (nI (3)))]) dX1_levelOfRule_32 rfl rfl (by decide) rfl ?_
    refine ex_goto (tgt := 4) dX1_levelOfRule_35 (by decide) ?_
    refine ex_iload_n (i := 3) dX1_levelOfRule_4 rfl rfl ?_
    refine ex_iconst (v := nI 4) dX1_levelOfRule_5 (by decide) ?_
    refine ex_icmp_gtN (tgt := 38) dX1_levelOfRule_6 (by decide) (by decide) (by decide) (fun hz6 => by exact absurd hz6 (by decide)) (fun hz6 => ?_)
    refine ex_aload_n (i := 0) dX1_levelOfRule_9 rfl rfl ?_
    refine ex_iload_n (i := 1) dX1_levelOfRule_10 rfl rfl ?_
    refine ex_iload_n (i := 3) dX1_levelOfRule_11 rfl rfl ?_
    refine ex_cV (ν := m_Grammar_symbolAt) (a := 1) (ci := 1) (as := [.int (nI (r)), .int (nI (3))]) dX1_levelOfRule_12 ln_Grammar_71 mf_Grammar_symbolAt rfl (l56 (by decide)) rfl rfl np_Grammar_symbolAt rfl rfl ⟨(Nat.le_of_ble_eq_true rfl), (Nat.le_of_ble_eq_true rfl), (Nat.le_of_ble_eq_true rfl), (Nat.le_of_ble_eq_true rfl)⟩ (by decide) ?_
    refine sp_Grammar_symbolAt sc (by omega) (by omega) ?_
    refine ⟨_, rfl, ?_⟩
    refine ex_asN (a := f 3) (hf 3 (by decide)) ?_
    refine ex_cN (ν := m_Works_isTerminal) (as := [.int (nI (f 3))]) dX1_levelOfRule_15 ln_Grammar_74 mf_Works_isTerminal np_Works_isTerminal rfl rfl ⟨(Nat.le_of_ble_eq_true rfl), (Nat.le_of_ble_eq_true rfl), (Nat.le_of_ble_eq_true rfl), (Nat.le_of_ble_eq_true rfl)⟩ (by decide) ?_
    refine sp_Works_isTerminal (by omega) ?_
    refine ⟨_, rfl, ?_⟩
    refine ex_asN (a := 0) (by rw [c3]) ?_
    refine ex_if_eqN (tgt := 32) dX1_levelOfRule_18 (by decide) (by omega) (fun hz18 => ?_) (fun hz18 => by exact absurd hz18 (by decide))
    refine ex_iincN (L' := [some (.ref (1)), some (.int (nI (r))), some (.int (nI (0))), some (.int (nI (4)))]) dX1_levelOfRule_32 rfl rfl (by decide) rfl ?_
    refine ex_goto (tgt := 4) dX1_levelOfRule_35 (by decide) ?_
    refine ex_iload_n (i := 3) dX1_levelOfRule_4 rfl rfl ?_
    refine ex_iconst (v := nI 4) dX1_levelOfRule_5 (by decide) ?_
    refine ex_icmp_gtN (tgt := 38) dX1_levelOfRule_6 (by decide) (by decide) (by decide) (fun hz6 => by exact absurd hz6 (by decide)) (fun hz6 => ?_)
    refine ex_aload_n (i := 0) dX1_levelOfRule_9 rfl rfl ?_
    refine ex_iload_n (i := 1) dX1_levelOfRule_10 rfl rfl ?_
    refine ex_iload_n (i := 3) dX1_levelOfRule_11 rfl rfl ?_
    refine ex_cV (ν := m_Grammar_symbolAt) (a := 1) (ci := 1) (as := [.int (nI (r)), .int (nI (4))]) dX1_levelOfRule_12 ln_Grammar_71 mf_Grammar_symbolAt rfl (l56 (by decide)) rfl rfl np_Grammar_symbolAt rfl rfl ⟨(Nat.le_of_ble_eq_true rfl), (Nat.le_of_ble_eq_true rfl), (Nat.le_of_ble_eq_true rfl), (Nat.le_of_ble_eq_true rfl)⟩ (by decide) ?_
    refine sp_Grammar_symbolAt sc (by omega) (by omega) ?_
    refine ⟨_, rfl, ?_⟩
    refine ex_asN (a := f 4) (hf 4 (by decide)) ?_
    refine ex_cN (ν := m_Works_isTerminal) (as := [.int (nI (f 4))]) dX1_levelOfRule_15 ln_Grammar_74 mf_Works_isTerminal np_Works_isTerminal rfl rfl ⟨(Nat.le_of_ble_eq_true rfl), (Nat.le_of_ble_eq_true rfl), (Nat.le_of_ble_eq_true rfl), (Nat.le_of_ble_eq_true rfl)⟩ (by decide) ?_
    refine sp_Works_isTerminal (by omega) ?_
    refine ⟨_, rfl, ?_⟩
    refine ex_asN (a := 1) (by rw [c4]) ?_
    refine ex_if_eqN (tgt := 32) dX1_levelOfRule_18 (by decide) (by omega) (fun hz18 => by exact absurd hz18 (by decide)) (fun hz18 => ?_)
    refine ex_aload_n (i := 0) dX1_levelOfRule_21 rfl rfl ?_
    refine ex_aload_n (i := 0) dX1_levelOfRule_22 rfl rfl ?_
    refine ex_iload_n (i := 1) dX1_levelOfRule_23 rfl rfl ?_
    refine ex_iload_n (i := 3) dX1_levelOfRule_24 rfl rfl ?_
    refine ex_cV (ν := m_Grammar_symbolAt) (a := 1) (ci := 1) (as := [.int (nI (r)), .int (nI (4))]) dX1_levelOfRule_25 ln_Grammar_71 mf_Grammar_symbolAt rfl (l56 (by decide)) rfl rfl np_Grammar_symbolAt rfl rfl ⟨(Nat.le_of_ble_eq_true rfl), (Nat.le_of_ble_eq_true rfl), (Nat.le_of_ble_eq_true rfl), (Nat.le_of_ble_eq_true rfl)⟩ (by decide) ?_
    refine sp_Grammar_symbolAt sc (by omega) (by omega) ?_
    refine ⟨_, rfl, ?_⟩
    refine ex_asN (a := f 4) (hf 4 (by decide)) ?_
    refine ex_cV (ν := m_Grammar_levelOf) (a := 1) (ci := 1) (as := [.int (nI (f 4))]) dX1_levelOfRule_28 ln_Grammar_78 mf_Grammar_levelOf rfl (l56 (by decide)) rfl rfl np_Grammar_levelOf rfl rfl ⟨(Nat.le_of_ble_eq_true rfl), (Nat.le_of_ble_eq_true rfl), (Nat.le_of_ble_eq_true rfl), (Nat.le_of_ble_eq_true rfl)⟩ (by decide) ?_
    refine sp_Grammar_levelOf (tm7 _ (by assumption)) ?_
    refine ⟨_, rfl, ?_⟩
    refine ex_asN (a := lv (f 4)) (hlv (f 4) (tm7 _ c4)) ?_
    refine ex_istore_n (L' := [some (.ref (1)), some (.int (nI (r))), some (.int (nI (lv (f 4)))), some (.int (nI (4)))]) dX1_levelOfRule_31 (i := 2) rfl (by decide) rfl ?_
    refine ex_iincN (L' := [some (.ref (1)), some (.int (nI (r))), some (.int (nI (lv (f 4)))), some (.int (nI (5)))]) dX1_levelOfRule_32 rfl rfl (by decide) rfl ?_
    refine ex_goto (tgt := 4) dX1_levelOfRule_35 (by decide) ?_
    refine ex_iload_n (i := 3) dX1_levelOfRule_4 rfl rfl ?_
    refine ex_iconst (v := nI 4) dX1_levelOfRule_5 (by decide) ?_
    refine ex_icmp_gtN (tgt := 38) dX1_levelOfRule_6 (by decide) (by decide) (by decide) (fun hz6 => ?_) (fun hz6 => by exact absurd hz6 (by decide))
    refine ex_iload_n (i := 2) dX1_levelOfRule_38 rfl rfl ?_
    refine ex_iret dX1_levelOfRule_39 rfl rfl ?_
    simp only [c1, c2, c3, c4, if_true, if_false, if_pos, show ((0 : Nat) = 1) = False from by simp] at hQ; exact hQ
  ·
    refine ex_iconst (v := nI 0) dX1_levelOfRule_0 (by decide) ?_
    refine ex_istore_n (L' := [some (.ref (1)), some (.int (nI (r))), some (.int (nI (0))), none]) dX1_levelOfRule_1 (i := 2) rfl (by decide) rfl ?_
    refine ex_iconst (v := nI 1) dX1_levelOfRule_2 (by decide) ?_
    refine ex_istore_n (L' := [some (.ref (1)), some (.int (nI (r))), some (.int (nI (0))), some (.int (nI (1)))]) dX1_levelOfRule_3 (i := 3) rfl (by decide) rfl ?_
    refine ex_iload_n (i := 3) dX1_levelOfRule_4 rfl rfl ?_
    refine ex_iconst (v := nI 4) dX1_levelOfRule_5 (by decide) ?_
    refine ex_icmp_gtN (tgt := 38) dX1_levelOfRule_6 (by decide) (by decide) (by decide) (fun hz6 => by exact absurd hz6 (by decide)) (fun hz6 => ?_)
    refine ex_aload_n (i := 0) dX1_levelOfRule_9 rfl rfl ?_
    refine ex_iload_n (i := 1) dX1_levelOfRule_10 rfl rfl ?_
    refine ex_iload_n (i := 3) dX1_levelOfRule_11 rfl rfl ?_
    refine ex_cV (ν := m_Grammar_symbolAt) (a := 1) (ci := 1) (as := [.int (nI (r)), .int (nI (1))]) dX1_levelOfRule_12 ln_Grammar_71 mf_Grammar_symbolAt rfl (l56 (by decide)) rfl rfl np_Grammar_symbolAt rfl rfl ⟨(Nat.le_of_ble_eq_true rfl), (Nat.le_of_ble_eq_true rfl), (Nat.le_of_ble_eq_true rfl), (Nat.le_of_ble_eq_true rfl)⟩ (by decide) ?_
    refine sp_Grammar_symbolAt sc (by omega) (by omega) ?_
    refine ⟨_, rfl, ?_⟩
    refine ex_asN (a := f 1) (hf 1 (by decide)) ?_
    refine ex_cN (ν := m_Works_isTerminal) (as := [.int (nI (f 1))]) dX1_levelOfRule_15 ln_Grammar_74 mf_Works_isTerminal np_Works_isTerminal rfl rfl ⟨(Nat.le_of_ble_eq_true rfl), (Nat.le_of_ble_eq_true rfl), (Nat.le_of_ble_eq_true rfl), (Nat.le_of_ble_eq_true rfl)⟩ (by decide) ?_
    refine sp_Works_isTerminal (by omega) ?_
    refine ⟨_, rfl, ?_⟩
    refine ex_asN (a := 0) (by rw [c1]) ?_
    refine ex_if_eqN (tgt := 32) dX1_levelOfRule_18 (by decide) (by omega) (fun hz18 => ?_) (fun hz18 => by exact absurd hz18 (by decide))
    refine ex_iincN (L' := [some (.ref (1)), some (.int (nI (r))), some (.int (nI (0))), some (.int (nI (2)))]) dX1_levelOfRule_32 rfl rfl (by decide) rfl ?_
    refine ex_goto (tgt := 4) dX1_levelOfRule_35 (by decide) ?_
    refine ex_iload_n (i := 3) dX1_levelOfRule_4 rfl rfl ?_
    refine ex_iconst (v := nI 4) dX1_levelOfRule_5 (by decide) ?_
    refine ex_icmp_gtN (tgt := 38) dX1_levelOfRule_6 (by decide) (by decide) (by decide) (fun hz6 => by exact absurd hz6 (by decide)) (fun hz6 => ?_)
    refine ex_aload_n (i := 0) dX1_levelOfRule_9 rfl rfl ?_
    refine ex_iload_n (i := 1) dX1_levelOfRule_10 rfl rfl ?_
    refine ex_iload_n (i := 3) dX1_levelOfRule_11 rfl rfl ?_
    refine ex_cV (ν := m_Grammar_symbolAt) (a := 1) (ci := 1) (as := [.int (nI (r)), .int (nI (2))]) dX1_levelOfRule_12 ln_Grammar_71 mf_Grammar_symbolAt rfl (l56 (by decide)) rfl rfl np_Grammar_symbolAt rfl rfl ⟨(Nat.le_of_ble_eq_true rfl), (Nat.le_of_ble_eq_true rfl), (Nat.le_of_ble_eq_true rfl), (Nat.le_of_ble_eq_true rfl)⟩ (by decide) ?_
    refine sp_Grammar_symbolAt sc (by omega) (by omega) ?_
    refine ⟨_, rfl, ?_⟩
    refine ex_asN (a := f 2) (hf 2 (by decide)) ?_
    refine ex_cN (ν := m_Works_isTerminal) (as := [.int (nI (f 2))]) dX1_levelOfRule_15 ln_Grammar_74 mf_Works_isTerminal np_Works_isTerminal rfl rfl ⟨(Nat.le_of_ble_eq_true rfl), (Nat.le_of_ble_eq_true rfl), (Nat.le_of_ble_eq_true rfl), (Nat.le_of_ble_eq_true rfl)⟩ (by decide) ?_
    refine sp_Works_isTerminal (by omega) ?_
    refine ⟨_, rfl, ?_⟩
    refine ex_asN (a := 0) (by rw [c2]) ?_
    refine ex_if_eqN (tgt := 32) dX1_levelOfRule_18 (by decide) (by omega) (fun hz18 => ?_) (fun hz18 => by exact absurd hz18 (by decide))
    refine ex_iincN (L' := [some (.ref (1)), some (.int (nI (r))), some (.int (nI (0))), some (.int (nI (3)))]) dX1_levelOfRule_32 rfl rfl (by decide) rfl ?_
    refine ex_goto (tgt := 4) dX1_levelOfRule_35 (by decide) ?_
    refine ex_iload_n (i := 3) dX1_levelOfRule_4 rfl rfl ?_
    refine ex_iconst (v := nI 4) dX1_levelOfRule_5 (by decide) ?_
    refine ex_icmp_gtN (tgt := 38) dX1_levelOfRule_6 (by decide) (by decide) (by decide) (fun hz6 => by exact absurd hz6 (by decide)) (fun hz6 => ?_)
    refine ex_aload_n (i := 0) dX1_levelOfRule_9 rfl rfl ?_
    refine ex_iload_n (i := 1) dX1_levelOfRule_10 rfl rfl ?_
    refine ex_iload_n (i := 3) dX1_levelOfRule_11 rfl rfl ?_
    refine ex_cV (ν := m_Grammar_symbolAt) (a := 1) (ci := 1) (as := [.int (nI (r)), .int (nI (3))]) dX1_levelOfRule_12 ln_Grammar_71 mf_Grammar_symbolAt rfl (l56 (by decide)) rfl rfl np_Grammar_symbolAt rfl rfl ⟨(Nat.le_of_ble_eq_true rfl), (Nat.le_of_ble_eq_true rfl), (Nat.le_of_ble_eq_true rfl), (Nat.le_of_ble_eq_true rfl)⟩ (by decide) ?_
    refine sp_Grammar_symbolAt sc (by omega) (by omega) ?_
    refine ⟨_, rfl, ?_⟩
    refine ex_asN (a := f 3) (hf 3 (by decide)) ?_
    refine ex_cN (ν := m_Works_isTerminal) (as := [.int (nI (f 3))]) dX1_levelOfRule_15 ln_Grammar_74 mf_Works_isTerminal np_Works_isTerminal rfl rfl ⟨(Nat.le_of_ble_eq_true rfl), (Nat.le_of_ble_eq_true rfl), (Nat.le_of_ble_eq_true rfl), (Nat.le_of_ble_eq_true rfl)⟩ (by decide) ?_
    refine sp_Works_isTerminal (by omega) ?_
    refine ⟨_, rfl, ?_⟩
    refine ex_asN (a := 1) (by rw [c3]) ?_
    refine ex_if_eqN (tgt := 32) dX1_levelOfRule_18 (by decide) (by omega) (fun hz18 => by exact absurd hz18 (by decide)) (fun hz18 => ?_)
    refine ex_aload_n (i := 0) dX1_levelOfRule_21 rfl rfl ?_
    refine ex_aload_n (i := 0) dX1_levelOfRule_22 rfl rfl ?_
    refine ex_iload_n (i := 1) dX1_levelOfRule_23 rfl rfl ?_
    refine ex_iload_n (i := 3) dX1_levelOfRule_24 rfl rfl ?_
    refine ex_cV (ν := m_Grammar_symbolAt) (a := 1) (ci := 1) (as := [.int (nI (r)), .int (nI (3))]) dX1_levelOfRule_25 ln_Grammar_71 mf_Grammar_symbolAt rfl (l56 (by decide)) rfl rfl np_Grammar_symbolAt rfl rfl ⟨(Nat.le_of_ble_eq_true rfl), (Nat.le_of_ble_eq_true rfl), (Nat.le_of_ble_eq_true rfl), (Nat.le_of_ble_eq_true rfl)⟩ (by decide) ?_
    refine sp_Grammar_symbolAt sc (by omega) (by omega) ?_
    refine ⟨_, rfl, ?_⟩
    refine ex_asN (a := f 3) (hf 3 (by decide)) ?_
    refine ex_cV (ν := m_Grammar_levelOf) (a := 1) (ci := 1) (as := [.int (nI (f 3))]) dX1_levelOfRule_28 ln_Grammar_78 mf_Grammar_levelOf rfl (l56 (by decide)) rfl rfl np_Grammar_levelOf rfl rfl ⟨(Nat.le_of_ble_eq_true rfl), (Nat.le_of_ble_eq_true rfl), (Nat.le_of_ble_eq_true rfl), (Nat.le_of_ble_eq_true rfl)⟩ (by decide) ?_
    refine sp_Grammar_levelOf (tm7 _ (by assumption)) ?_
    refine ⟨_, rfl, ?_⟩
    refine ex_asN (a := lv (f 3)) (hlv (f 3) (tm7 _ c3)) ?_
    refine ex_istore_n (L' := [some (.ref (1)), some (.int (nI (r))), some (.int (nI (lv (f 3)))), some (.int (nI (3)))]) dX1_levelOfRule_31 (i := 2) rfl (by decide) rfl ?_
    refine ex_iincN (L' := [some (.ref (1)), some (.int (nI (r))), some (.int (nI (lv (f 3)))), some (.int (nI (4)))]) dX1_levelOfRule_32 rfl rfl (by decide) rfl ?_
    refine ex_goto (tgt := 4) dX1_levelOfRule_35 (by decide) ?_
    refine ex_iload_n (i := 3) dX1_levelOfRule_4 rfl rfl ?_
    refine ex_iconst (v := nI 4) dX1_levelOfRule_5 (by decide) ?_
    refine ex_icmp_gtN (tgt := 38) dX1_levelOfRule_6 (by decide) (by decide) (by decide) (fun hz6 => by exact absurd hz6 (by decide)) (fun hz6 => ?_)
    refine ex_aload_n (i := 0) dX1_levelOfRule_9 rfl rfl ?_
    refine ex_iload_n (i := 1) dX1_levelOfRule_10 rfl rfl ?_
    refine ex_iload_n (i := 3) dX1_levelOfRule_11 rfl rfl ?_
    refine ex_cV (ν := m_Grammar_symbolAt) (a := 1) (ci := 1) (as := [.int (nI (r)), .int (nI (4))]) dX1_levelOfRule_12 ln_Grammar_71 mf_Grammar_symbolAt rfl (l56 (by decide)) rfl rfl np_Grammar_symbolAt rfl rfl ⟨(Nat.le_of_ble_eq_true rfl), (Nat.le_of_ble_eq_true rfl), (Nat.le_of_ble_eq_true rfl), (Nat.le_of_ble_eq_true rfl)⟩ (by decide) ?_
    refine sp_Grammar_symbolAt sc (by omega) (by omega) ?_
    refine ⟨_, rfl, ?_⟩
    refine ex_asN (a := f 4) (hf 4 (by decide)) ?_
    refine ex_cN (ν := m_Works_isTerminal) (as := [.int (nI (f 4))]) dX1_levelOfRule_15 ln_Grammar_74 mf_Works_isTerminal np_Works_isTerminal rfl rfl ⟨(Nat.le_of_ble_eq_true rfl), (Nat.le_of_ble_eq_true rfl), (Nat.le_of_ble_eq_true rfl), (Nat.le_of_ble_eq_true rfl)⟩ (by decide) ?_
    refine sp_Works_isTerminal (by omega) ?_
    refine ⟨_, rfl, ?_⟩
    refine ex_asN (a := 0) (by rw [c4]) ?_
    refine ex_if_eqN (tgt := 32) dX1_levelOfRule_18 (by decide) (by omega) (fun hz18 => ?_) (fun hz18 => by exact absurd hz18 (by decide))
    refine ex_iincN (L' := [some (.ref (1)), some (.int (nI (r))), some (.int (nI (lv (f 3)))), some (.int (nI (5)))]) dX1_levelOfRule_32 rfl rfl (by decide) rfl ?_
    refine ex_goto (tgt := 4) dX1_levelOfRule_35 (by decide) ?_
    refine ex_iload_n (i := 3) dX1_levelOfRule_4 rfl rfl ?_
    refine ex_iconst (v := nI 4) dX1_levelOfRule_5 (by decide) ?_
    refine ex_icmp_gtN (tgt := 38) dX1_levelOfRule_6 (by decide) (by decide) (by decide) (fun hz6 => ?_) (fun hz6 => by exact absurd hz6 (by decide))
    refine ex_iload_n (i := 2) dX1_levelOfRule_38 rfl rfl ?_
    refine ex_iret dX1_levelOfRule_39 rfl rfl ?_
    simp only [c1, c2, c3, c4, if_true, if_false, if_pos, show ((0 : Nat) = 1) = False from by simp] at hQ; exact hQ
  ·
    refine ex_iconst (v := nI 0) dX1_levelOfRule_0 (by decide) ?_
    refine ex_istore_n (L' := [some (.ref (1)), some (.int (nI (r))), some (.int (nI (0))), none]) dX1_levelOfRule_1 (i := 2) rfl (by decide) rfl ?_
    refine ex_iconst (v := nI 1) dX1_levelOfRule_2 (by decide) ?_
    refine ex_istore_n (L' := [some (.ref (1)), some (.int (nI (r))), some (.int (nI (0))), some (.int (nI (1)))]) dX1_levelOfRule_3 (i := 3) rfl (by decide) rfl ?_
    refine ex_iload_n (i := 3) dX1_levelOfRule_4 rfl rfl ?_
    refine ex_iconst (v := nI 4) dX1_levelOfRule_5 (by decide) ?_
    refine ex_icmp_gtN (tgt := 38) dX1_levelOfRule_6 (by decide) (by decide) (by decide) (fun hz6 => by exact absurd hz6 (by decide)) (fun hz6 => ?_)
    refine ex_aload_n (i := 0) dX1_levelOfRule_9 rfl rfl ?_
    refine ex_iload_n (i := 1) dX1_levelOfRule_10 rfl rfl ?_
    refine ex_iload_n (i := 3) dX1_levelOfRule_11 rfl rfl ?_
    refine ex_cV (ν := m_Grammar_symbolAt) (a := 1) (ci := 1) (as := [.int (nI (r)), .int (nI (1))]) dX1_levelOfRule_12 ln_Grammar_71 mf_Grammar_symbolAt rfl (l56 (by decide)) rfl rfl np_Grammar_symbolAt rfl rfl ⟨(Nat.le_of_ble_eq_true rfl), (Nat.le_of_ble_eq_true rfl), (Nat.le_of_ble_eq_true rfl), (Nat.le_of_ble_eq_true rfl)⟩ (by decide) ?_
    refine sp_Grammar_symbolAt sc (by omega) (by omega) ?_
    refine ⟨_, rfl, ?_⟩
    refine ex_asN (a := f 1) (hf 1 (by decide)) ?_
    refine ex_cN (ν := m_Works_isTerminal) (as := [.int (nI (f 1))]) dX1_levelOfRule_15 ln_Grammar_74 mf_Works_isTerminal np_Works_isTerminal rfl rfl ⟨(Nat.le_of_ble_eq_true rfl), (Nat.le_of_ble_eq_true rfl), (Nat.le_of_ble_eq_true rfl), (Nat.le_of_ble_eq_true rfl)⟩ (by decide) ?_
    refine sp_Works_isTerminal (by omega) ?_
    refine ⟨_, rfl, ?_⟩
    refine ex_asN (a := 0) (by rw [c1]) ?_
    refine ex_if_eqN (tgt := 32) dX1_levelOfRule_18 (by decide) (by omega) (fun hz18 => ?_) (fun hz18 => by exact absurd hz18 (by decide))
    refine ex_iincN (L' := [some (.ref (1)), some (.int (nI (r))), some (.int (nI (0))), some (.int (nI (2)))]) dX1_levelOfRule_32 rfl rfl (by decide) rfl ?_
    refine ex_goto (tgt := 4) dX1_levelOfRule_35 (by decide) ?_
    refine ex_iload_n (i := 3) dX1_levelOfRule_4 rfl rfl ?_
    refine ex_iconst (v := nI 4) dX1_levelOfRule_5 (by decide) ?_
    refine ex_icmp_gtN (tgt := 38) dX1_levelOfRule_6 (by decide) (by decide) (by decide) (fun hz6 => by exact absurd hz6 (by decide)) (fun hz6 => ?_)
    refine ex_aload_n (i := 0) dX1_levelOfRule_9 rfl rfl ?_
    refine ex_iload_n (i := 1) dX1_levelOfRule_10 rfl rfl ?_
    refine ex_iload_n (i := 3) dX1_levelOfRule_11 rfl rfl ?_
    refine ex_cV (ν := m_Grammar_symbolAt) (a := 1) (ci := 1) (as := [.int (nI (r)), .int (nI (2))]) dX1_levelOfRule_12 ln_Grammar_71 mf_Grammar_symbolAt rfl (l56 (by decide)) rfl rfl np_Grammar_symbolAt rfl rfl ⟨(Nat.le_of_ble_eq_true rfl), (Nat.le_of_ble_eq_true rfl), (Nat.le_of_ble_eq_true rfl), (Nat.le_of_ble_eq_true rfl)⟩ (by decide) ?_
    refine sp_Grammar_symbolAt sc (by omega) (by omega) ?_
    refine ⟨_, rfl, ?_⟩
    refine ex_asN (a := f 2) (hf 2 (by decide)) ?_
    refine ex_cN (ν := m_Works_isTerminal) (as := [.int (nI (f 2))]) dX1_levelOfRule_15 ln_Grammar_74 mf_Works_isTerminal np_Works_isTerminal rfl rfl ⟨(Nat.le_of_ble_eq_true rfl), (Nat.le_of_ble_eq_true rfl), (Nat.le_of_ble_eq_true rfl), (Nat.le_of_ble_eq_true rfl)⟩ (by decide) ?_
    refine sp_Works_isTerminal (by omega) ?_
    refine ⟨_, rfl, ?_⟩
    refine ex_asN (a := 0) (by rw [c2]) ?_
    refine ex_if_eqN (tgt := 32) dX1_levelOfRule_18 (by decide) (by omega) (fun hz18 => ?_) (fun hz18 => by exact absurd hz18 (by decide))
    refine ex_iincN (L' := [some (.ref (1)), some (.int (nI (r))), some (.int (nI (0))), some (.int (nI (3)))]) dX1_levelOfRule_32 rfl rfl (by decide) rfl ?_
    refine ex_goto (tgt := 4) dX1_levelOfRule_35 (by decide) ?_
    refine ex_iload_n (i := 3) dX1_levelOfRule_4 rfl rfl ?_
    refine ex_iconst (v := nI 4) dX1_levelOfRule_5 (by decide) ?_
    refine ex_icmp_gtN (tgt := 38) dX1_levelOfRule_6 (by decide) (by decide) (by decide) (fun hz6 => by exact absurd hz6 (by decide)) (fun hz6 => ?_)
    refine ex_aload_n (i := 0) dX1_levelOfRule_9 rfl rfl ?_
    refine ex_iload_n (i := 1) dX1_levelOfRule_10 rfl rfl ?_
    refine ex_iload_n (i := 3) dX1_levelOfRule_11 rfl rfl ?_
    refine ex_cV (ν := m_Grammar_symbolAt) (a := 1) (ci := 1) (as := [.int (nI (r)), .int (nI (3))]) dX1_levelOfRule_12 ln_Grammar_71 mf_Grammar_symbolAt rfl (l56 (by decide)) rfl rfl np_Grammar_symbolAt rfl rfl ⟨(Nat.le_of_ble_eq_true rfl), (Nat.le_of_ble_eq_true rfl), (Nat.le_of_ble_eq_true rfl), (Nat.le_of_ble_eq_true rfl)⟩ (by decide) ?_
    refine sp_Grammar_symbolAt sc (by omega) (by omega) ?_
    refine ⟨_, rfl, ?_⟩
    refine ex_asN (a := f 3) (hf 3 (by decide)) ?_
    refine ex_cN (ν := m_Works_isTerminal) (as := [.int (nI (f 3))]) dX1_levelOfRule_15 ln_Grammar_74 mf_Works_isTerminal np_Works_isTerminal rfl rfl ⟨(Nat.le_of_ble_eq_true rfl), (Nat.le_of_ble_eq_true rfl), (Nat.le_of_ble_eq_true rfl), (Nat.le_of_ble_eq_true rfl)⟩ (by decide) ?_
    refine sp_Works_isTerminal (by omega) ?_
    refine ⟨_, rfl, ?_⟩
    refine ex_asN (a := 1) (by rw [c3]) ?_
    refine ex_if_eqN (tgt := 32) dX1_levelOfRule_18 (by decide) (by omega) (fun hz18 => by exact absurd hz18 (by decide)) (fun hz18 => ?_)
    refine ex_aload_n (i := 0) dX1_levelOfRule_21 rfl rfl ?_
    refine ex_aload_n (i := 0) dX1_levelOfRule_22 rfl rfl ?_
    refine ex_iload_n (i := 1) dX1_levelOfRule_23 rfl rfl ?_
    refine ex_iload_n (i := 3) dX1_levelOfRule_24 rfl rfl ?_
    refine ex_cV (ν := m_Grammar_symbolAt) (a := 1) (ci := 1) (as := [.int (nI (r)), .int (nI (3))]) dX1_levelOfRule_25 ln_Grammar_71 mf_Grammar_symbolAt rfl (l56 (by decide)) rfl rfl np_Grammar_symbolAt rfl rfl ⟨(Nat.le_of_ble_eq_true rfl), (Nat.le_of_ble_eq_true rfl), (Nat.le_of_ble_eq_true rfl), (Nat.le_of_ble_eq_true rfl)⟩ (by decide) ?_
    refine sp_Grammar_symbolAt sc (by omega) (by omega) ?_
    refine ⟨_, rfl, ?_⟩
    refine ex_asN (a := f 3) (hf 3 (by decide)) ?_
    refine ex_cV (ν := m_Grammar_levelOf) (a := 1) (ci := 1) (as := [.int (nI (f 3))]) dX1_levelOfRule_28 ln_Grammar_78 mf_Grammar_levelOf rfl (l56 (by decide)) rfl rfl np_Grammar_levelOf rfl rfl ⟨(Nat.le_of_ble_eq_true rfl), (Nat.le_of_ble_eq_true rfl), (Nat.le_of_ble_eq_true rfl), (Nat.le_of_ble_eq_true rfl)⟩ (by decide) ?_
    refine sp_Grammar_levelOf (tm7 _ (by assumption)) ?_
    refine ⟨_, rfl, ?_⟩
    refine ex_asN (a := lv (f 3)) (hlv (f 3) (tm7 _ c3)) ?_
    refine ex_istore_n (L' := [some (.ref (1)), some (.int (nI (r))), some (.int (nI (lv (f 3)))), some (.int (nI (3)))]) dX1_levelOfRule_31 (i := 2) rfl (by decide) rfl ?_
    refine ex_iincN (L' := [some (.ref (1)), some (.int (nI (r))), some (.int (nI (lv (f 3)))), some (.int (nI (4)))]) dX1_levelOfRule_32 rfl rfl (by decide) rfl ?_
    refine ex_goto (tgt := 4) dX1_levelOfRule_35 (by decide) ?_
    refine ex_iload_n (i := 3) dX1_levelOfRule_4 rfl rfl ?_
    refine ex_iconst (v := nI 4) dX1_levelOfRule_5 (by decide) ?_
    refine ex_icmp_gtN (tgt := 38) dX1_levelOfRule_6 (by decide) (by decide) (by decide) (fun hz6 => by exact absurd hz6 (by decide)) (fun hz6 => ?_)
    refine ex_aload_n (i := 0) dX1_levelOfRule_9 rfl rfl ?_
    refine ex_iload_n (i := 1) dX1_levelOfRule_10 rfl rfl ?_
    refine ex_iload_n (i := 3) dX1_levelOfRule_11 rfl rfl ?_
    refine ex_cV (ν := m_Grammar_symbolAt) (a := 1) (ci := 1) (as := [.int (nI (r)), .int (nI (4))]) dX1_levelOfRule_12 ln_Grammar_71 mf_Grammar_symbolAt rfl (l56 (by decide)) rfl rfl np_Grammar_symbolAt rfl rfl ⟨(Nat.le_of_ble_eq_true rfl), (Nat.le_of_ble_eq_true rfl), (Nat.le_of_ble_eq_true rfl), (Nat.le_of_ble_eq_true rfl)⟩ (by decide) ?_
    refine sp_Grammar_symbolAt sc (by omega) (by omega) ?_
    refine ⟨_, rfl, ?_⟩
    refine ex_asN (a := f 4) (hf 4 (by decide)) ?_
    refine ex_cN (ν := m_Works_isTerminal) (as := [.int (nI (f 4))]) dX1_levelOfRule_15 ln_Grammar_74 mf_Works_isTerminal np_Works_isTerminal rfl rfl ⟨(Nat.le_of_ble_eq_true rfl), (Nat.le_of_ble_eq_true rfl), (Nat.le_of_ble_eq_true rfl), (Nat.le_of_ble_eq_true rfl)⟩ (by decide) ?_
    refine sp_Works_isTerminal (by omega) ?_
    refine ⟨_, rfl, ?_⟩
    refine ex_asN (a := 1) (by rw [c4]) ?_
    refine ex_if_eqN (tgt := 32) dX1_levelOfRule_18 (by decide) (by omega) (fun hz18 => by exact absurd hz18 (by decide)) (fun hz18 => ?_)
    refine ex_aload_n (i := 0) dX1_levelOfRule_21 rfl rfl ?_
    refine ex_aload_n (i := 0) dX1_levelOfRule_22 rfl rfl ?_
    refine ex_iload_n (i := 1) dX1_levelOfRule_23 rfl rfl ?_
    refine ex_iload_n (i := 3) dX1_levelOfRule_24 rfl rfl ?_
    refine ex_cV (ν := m_Grammar_symbolAt) (a := 1) (ci := 1) (as := [.int (nI (r)), .int (nI (4))]) dX1_levelOfRule_25 ln_Grammar_71 mf_Grammar_symbolAt rfl (l56 (by decide)) rfl rfl np_Grammar_symbolAt rfl rfl ⟨(Nat.le_of_ble_eq_true rfl), (Nat.le_of_ble_eq_true rfl), (Nat.le_of_ble_eq_true rfl), (Nat.le_of_ble_eq_true rfl)⟩ (by decide) ?_
    refine sp_Grammar_symbolAt sc (by omega) (by omega) ?_
    refine ⟨_, rfl, ?_⟩
    refine ex_asN (a := f 4) (hf 4 (by decide)) ?_
    refine ex_cV (ν := m_Grammar_levelOf) (a := 1) (ci := 1) (as := [.int (nI (f 4))]) dX1_levelOfRule_28 ln_Grammar_78 mf_Grammar_levelOf rfl (l56 (by decide)) rfl rfl np_Grammar_levelOf rfl rfl ⟨(Nat.le_of_ble_eq_true rfl), (Nat.le_of_ble_eq_true rfl), (Nat.le_of_ble_eq_true rfl), (Nat.le_of_ble_eq_true rfl)⟩ (by decide) ?_
    refine sp_Grammar_levelOf (tm7 _ (by assumption)) ?_
    refine ⟨_, rfl, ?_⟩
    refine ex_asN (a := lv (f 4)) (hlv (f 4) (tm7 _ c4)) ?_
    refine ex_istore_n (L' := [some (.ref (1)), some (.int (nI (r))), some (.int (nI (lv (f 4)))), some (.int (nI (4)))]) dX1_levelOfRule_31 (i := 2) rfl (by decide) rfl ?_
    refine ex_iincN (L' := [some (.ref (1)), some (.int (nI (r))), some (.int (nI (lv (f 4)))), some (.int (nI (5)))]) dX1_levelOfRule_32 rfl rfl (by decide) rfl ?_
    refine ex_goto (tgt := 4) dX1_levelOfRule_35 (by decide) ?_
    refine ex_iload_n (i := 3) dX1_levelOfRule_4 rfl rfl ?_
    refine ex_iconst (v := nI 4) dX1_levelOfRule_5 (by decide) ?_
    refine ex_icmp_gtN (tgt := 38) dX1_levelOfRule_6 (by decide) (by decide) (by decide) (fun hz6 => ?_) (fun hz6 => by exact absurd hz6 (by decide))
    refine ex_iload_n (i := 2) dX1_levelOfRule_38 rfl rfl ?_
    refine ex_iret dX1_levelOfRule_39 rfl rfl ?_
    simp only [c1, c2, c3, c4, if_true, if_false, if_pos, show ((0 : Nat) = 1) = False from by simp] at hQ; exact hQ
  ·
    refine ex_iconst (v := nI 0) dX1_levelOfRule_0 (by decide) ?_
    refine ex_istore_n (L' := [some (.ref (1)), some (.int (nI (r))), some (.int (nI (0))), none]) dX1_levelOfRule_1 (i := 2) rfl (by decide) rfl ?_
    refine ex_iconst (v := nI 1) dX1_levelOfRule_2 (by decide) ?_
    refine ex_istore_n (L' := [some (.ref (1)), some (.int (nI (r))), some (.int (nI (0))), some (.int (nI (1)))]) dX1_levelOfRule_3 (i := 3) rfl (by decide) rfl ?_
    refine ex_iload_n (i := 3) dX1_levelOfRule_4 rfl rfl ?_
    refine ex_iconst (v := nI 4) dX1_levelOfRule_5 (by decide) ?_
    refine ex_icmp_gtN (tgt := 38) dX1_levelOfRule_6 (by decide) (by decide) (by decide) (fun hz6 => by exact absurd hz6 (by decide)) (fun hz6 => ?_)
    refine ex_aload_n (i := 0) dX1_levelOfRule_9 rfl rfl ?_
    refine ex_iload_n (i := 1) dX1_levelOfRule_10 rfl rfl ?_
    refine ex_iload_n (i := 3) dX1_levelOfRule_11 rfl rfl ?_
    refine ex_cV (ν := m_Grammar_symbolAt) (a := 1) (ci := 1) (as := [.int (nI (r)), .int (nI (1))]) dX1_levelOfRule_12 ln_Grammar_71 mf_Grammar_symbolAt rfl (l56 (by decide)) rfl rfl np_Grammar_symbolAt rfl rfl ⟨(Nat.le_of_ble_eq_true rfl), (Nat.le_of_ble_eq_true rfl), (Nat.le_of_ble_eq_true rfl), (Nat.le_of_ble_eq_true rfl)⟩ (by decide) ?_
    refine sp_Grammar_symbolAt sc (by omega) (by omega) ?_
    refine ⟨_, rfl, ?_⟩
    refine ex_asN (a := f 1) (hf 1 (by decide)) ?_
    refine ex_cN (ν := m_Works_isTerminal) (as := [.int (nI (f 1))]) dX1_levelOfRule_15 ln_Grammar_74 mf_Works_isTerminal np_Works_isTerminal rfl rfl ⟨(Nat.le_of_ble_eq_true rfl), (Nat.le_of_ble_eq_true rfl), (Nat.le_of_ble_eq_true rfl), (Nat.le_of_ble_eq_true rfl)⟩ (by decide) ?_
    refine sp_Works_isTerminal (by omega) ?_
    refine ⟨_, rfl, ?_⟩
    refine ex_asN (a := 0) (by rw [c1]) ?_
    refine ex_if_eqN (tgt := 32) dX1_levelOfRule_18 (by decide) (by omega) (fun hz18 => ?_) (fun hz18 => by exact absurd hz18 (by decide))
    refine ex_iincN (L' := [some (.ref (1)), some (.int (nI (r))), some (.int (nI (0))), some (.int (nI (2)))]) dX1_levelOfRule_32 rfl rfl (by decide) rfl ?_
    refine ex_goto (tgt := 4) dX1_levelOfRule_35 (by decide) ?_
    refine ex_iload_n (i := 3) dX1_levelOfRule_4 rfl rfl ?_
    refine ex_iconst (v := nI 4) dX1_levelOfRule_5 (by decide) ?_
    refine ex_icmp_gtN (tgt := 38) dX1_levelOfRule_6 (by decide) (by decide) (by decide) (fun hz6 => by exact absurd hz6 (by decide)) (fun hz6 => ?_)
    refine ex_aload_n (i := 0) dX1_levelOfRule_9 rfl rfl ?_
    refine ex_iload_n (i := 1) dX1_levelOfRule_10 rfl rfl ?_
    refine ex_iload_n (i := 3) dX1_levelOfRule_11 rfl rfl ?_
    refine ex_cV (ν := m_Grammar_symbolAt) (a := 1) (ci := 1) (as := [.int (nI (r)), .int (nI (2))]) dX1_levelOfRule_12 ln_Grammar_71 mf_Grammar_symbolAt rfl (l56 (by decide)) rfl rfl np_Grammar_symbolAt rfl rfl ⟨(Nat.le_of_ble_eq_true rfl), (Nat.le_of_ble_eq_true rfl), (Nat.le_of_ble_eq_true rfl), (Nat.le_of_ble_eq_true rfl)⟩ (by decide) ?_
    refine sp_Grammar_symbolAt sc (by omega) (by omega) ?_
    refine ⟨_, rfl, ?_⟩
    refine ex_asN (a := f 2) (hf 2 (by decide)) ?_
    refine ex_cN (ν := m_Works_isTerminal) (as := [.int (nI (f 2))]) dX1_levelOfRule_15 ln_Grammar_74 mf_Works_isTerminal np_Works_isTerminal rfl rfl ⟨(Nat.le_of_ble_eq_true rfl), (Nat.le_of_ble_eq_true rfl), (Nat.le_of_ble_eq_true rfl), (Nat.le_of_ble_eq_true rfl)⟩ (by decide) ?_
    refine sp_Works_isTerminal (by omega) ?_
    refine ⟨_, rfl, ?_⟩
    refine ex_asN (a := 1) (by rw [c2]) ?_
    refine ex_if_eqN (tgt := 32) dX1_levelOfRule_18 (by decide) (by omega) (fun hz18 => by exact absurd hz18 (by decide)) (fun hz18 => ?_)
    refine ex_aload_n (i := 0) dX1_levelOfRule_21 rfl rfl ?_
    refine ex_aload_n (i := 0) dX1_levelOfRule_22 rfl rfl ?_
    refine ex_iload_n (i := 1) dX1_levelOfRule_23 rfl rfl ?_
    refine ex_iload_n (i := 3) dX1_levelOfRule_24 rfl rfl ?_
    refine ex_cV (ν := m_Grammar_symbolAt) (a := 1) (ci := 1) (as := [.int (nI (r)), .int (nI (2))]) dX1_levelOfRule_25 ln_Grammar_71 mf_Grammar_symbolAt rfl (l56 (by decide)) rfl rfl np_Grammar_symbolAt rfl rfl ⟨(Nat.le_of_ble_eq_true rfl), (Nat.le_of_ble_eq_true rfl), (Nat.le_of_ble_eq_true rfl), (Nat.le_of_ble_eq_true rfl)⟩ (by decide) ?_
    refine sp_Grammar_symbolAt sc (by omega) (by omega) ?_
    refine ⟨_, rfl, ?_⟩
    refine ex_asN (a := f 2) (hf 2 (by decide)) ?_
    refine ex_cV (ν := m_Grammar_levelOf) (a := 1) (ci := 1) (as := [.int (nI (f 2))]) dX1_levelOfRule_28 ln_Grammar_78 mf_Grammar_levelOf rfl (l56 (by decide)) rfl rfl np_Grammar_levelOf rfl rfl ⟨(Nat.le_of_ble_eq_true rfl), (Nat.le_of_ble_eq_true rfl), (Nat.le_of_ble_eq_true rfl), (Nat.le_of_ble_eq_true rfl)⟩ (by decide) ?_
    refine sp_Grammar_levelOf (tm7 _ (by assumption)) ?_
    refine ⟨_, rfl, ?_⟩
    refine ex_asN (a := lv (f 2)) (hlv (f 2) (tm7 _ c2)) ?_
    refine ex_istore_n (L' := [some (.ref (1)), some (.int (nI (r))), some (.int (nI (lv (f 2)))), some (.int (nI (2)))]) dX1_levelOfRule_31 (i := 2) rfl (by decide) rfl ?_
    refine ex_iincN (L' := [some (.ref (1)), some (.int (nI (r))), some (.int (nI (lv (f 2)))), some (.int (nI (3)))]) dX1_levelOfRule_32 rfl rfl (by decide) rfl ?_
    refine ex_goto (tgt := 4) dX1_levelOfRule_35 (by decide) ?_
    refine ex_iload_n (i := 3) dX1_levelOfRule_4 rfl rfl ?_
    refine ex_iconst (v := nI 4) dX1_levelOfRule_5 (by decide) ?_
    refine ex_icmp_gtN (tgt := 38) dX1_levelOfRule_6 (by decide) (by decide) (by decide) (fun hz6 => by exact absurd hz6 (by decide)) (fun hz6 => ?_)
    refine ex_aload_n (i := 0) dX1_levelOfRule_9 rfl rfl ?_
    refine ex_iload_n (i := 1) dX1_levelOfRule_10 rfl rfl ?_
    refine ex_iload_n (i := 3) dX1_levelOfRule_11 rfl rfl ?_
    refine ex_cV (ν := m_Grammar_symbolAt) (a := 1) (ci := 1) (as := [.int (nI (r)), .int (nI (3))]) dX1_levelOfRule_12 ln_Grammar_71 mf_Grammar_symbolAt rfl (l56 (by decide)) rfl rfl np_Grammar_symbolAt rfl rfl ⟨(Nat.le_of_ble_eq_true rfl), (Nat.le_of_ble_eq_true rfl), (Nat.le_of_ble_eq_true rfl), (Nat.le_of_ble_eq_true rfl)⟩ (by decide) ?_
    refine sp_Grammar_symbolAt sc (by omega) (by omega) ?_
    refine ⟨_, rfl, ?_⟩
    refine ex_asN (a := f 3) (hf 3 (by decide)) ?_
    refine ex_cN (ν := m_Works_isTerminal) (as := [.int (nI (f 3))]) dX1_levelOfRule_15 ln_Grammar_74 mf_Works_isTerminal np_Works_isTerminal rfl rfl ⟨(Nat.le_of_ble_eq_true rfl), (Nat.le_of_ble_eq_true rfl), (Nat.le_of_ble_eq_true rfl), (Nat.le_of_ble_eq_true rfl)⟩ (by decide) ?_
    refine sp_Works_isTerminal (by omega) ?_
    refine ⟨_, rfl, ?_⟩
    refine ex_asN (a := 0) (by rw [c3]) ?_
    refine ex_if_eqN (tgt := 32) dX1_levelOfRule_18 (by decide) (by omega) (fun hz18 => ?_) (fun hz18 => by exact absurd hz18 (by decide))
    refine ex_iincN (L' := [some (.ref (1)), some (.int (nI (r))), some (.int (nI (lv (f 2)))), some (.int (nI (4)))]) dX1_levelOfRule_32 rfl rfl (by decide) rfl ?_
    refine ex_goto (tgt := 4) dX1_levelOfRule_35 (by decide) ?_
    refine ex_iload_n (i := 3) dX1_levelOfRule_4 rfl rfl ?_
    refine ex_iconst (v := nI 4) dX1_levelOfRule_5 (by decide) ?_
    refine ex_icmp_gtN (tgt := 38) dX1_levelOfRule_6 (by decide) (by decide) (by decide) (fun hz6 => by exact absurd hz6 (by decide)) (fun hz6 => ?_)
    refine ex_aload_n (i := 0) dX1_levelOfRule_9 rfl rfl ?_
    refine ex_iload_n (i := 1) dX1_levelOfRule_10 rfl rfl ?_
    refine ex_iload_n (i := 3) dX1_levelOfRule_11 rfl rfl ?_
    refine ex_cV (ν := m_Grammar_symbolAt) (a := 1) (ci := 1) (as := [.int (nI (r)), .int (nI (4))]) dX1_levelOfRule_12 ln_Grammar_71 mf_Grammar_symbolAt rfl (l56 (by decide)) rfl rfl np_Grammar_symbolAt rfl rfl ⟨(Nat.le_of_ble_eq_true rfl), (Nat.le_of_ble_eq_true rfl), (Nat.le_of_ble_eq_true rfl), (Nat.le_of_ble_eq_true rfl)⟩ (by decide) ?_
    refine sp_Grammar_symbolAt sc (by omega) (by omega) ?_
    refine ⟨_, rfl, ?_⟩
    refine ex_asN (a := f 4) (hf 4 (by decide)) ?_
    refine ex_cN (ν := m_Works_isTerminal) (as := [.int (nI (f 4))]) dX1_levelOfRule_15 ln_Grammar_74 mf_Works_isTerminal np_Works_isTerminal rfl rfl ⟨(Nat.le_of_ble_eq_true rfl), (Nat.le_of_ble_eq_true rfl), (Nat.le_of_ble_eq_true rfl), (Nat.le_of_ble_eq_true rfl)⟩ (by decide) ?_
    refine sp_Works_isTerminal (by omega) ?_
    refine ⟨_, rfl, ?_⟩
    refine ex_asN (a := 0) (by rw [c4]) ?_
    refine ex_if_eqN (tgt := 32) dX1_levelOfRule_18 (by decide) (by omega) (fun hz18 => ?_) (fun hz18 => by exact absurd hz18 (by decide))
    refine ex_iincN (L' := [some (.ref (1)), some (.int (nI (r))), some (.int (nI (lv (f 2)))), some (.int (nI (5)))]) dX1_levelOfRule_32 rfl rfl (by decide) rfl ?_
    refine ex_goto (tgt := 4) dX1_levelOfRule_35 (by decide) ?_
    refine ex_iload_n (i := 3) dX1_levelOfRule_4 rfl rfl ?_
    refine ex_iconst (v := nI 4) dX1_levelOfRule_5 (by decide) ?_
    refine ex_icmp_gtN (tgt := 38) dX1_levelOfRule_6 (by decide) (by decide) (by decide) (fun hz6 => ?_) (fun hz6 => by exact absurd hz6 (by decide))
    refine ex_iload_n (i := 2) dX1_levelOfRule_38 rfl rfl ?_
    refine ex_iret dX1_levelOfRule_39 rfl rfl ?_
    simp only [c1, c2, c3, c4, if_true, if_false, if_pos, show ((0 : Nat) = 1) = False from by simp] at hQ; exact hQ
  ·
    refine ex_iconst (v := nI 0) dX1_levelOfRule_0 (by decide) ?_
    refine ex_istore_n (L' := [some (.ref (1)), some (.int (nI (r))), some (.int (nI (0))), none]) dX1_levelOfRule_1 (i := 2) rfl (by decide) rfl ?_
    refine ex_iconst (v := nI 1) dX1_levelOfRule_2 (by decide) ?_
    refine ex_istore_n (L' := [some (.ref (1)), some (.int (nI (r))), some (.int (nI (0))), some (.int (nI (1)))]) dX1_levelOfRule_3 (i := 3) rfl (by decide) rfl ?_
    refine ex_iload_n (i := 3) dX1_levelOfRule_4 rfl rfl ?_
    refine ex_iconst (v := nI 4) dX1_levelOfRule_5 (by decide) ?_
    refine ex_icmp_gtN (tgt := 38) dX1_levelOfRule_6 (by decide) (by decide) (by decide) (fun hz6 => by exact absurd hz6 (by decide)) (fun hz6 => ?_)
    refine ex_aload_n (i := 0) dX1_levelOfRule_9 rfl rfl ?_
    refine ex_iload_n (i := 1) dX1_levelOfRule_10 rfl rfl ?_
    refine ex_iload_n (i := 3) dX1_levelOfRule_11 rfl rfl ?_
    refine ex_cV (ν := m_Grammar_symbolAt) (a := 1) (ci := 1) (as := [.int (nI (r)), .int (nI (1))]) dX1_levelOfRule_12 ln_Grammar_71 mf_Grammar_symbolAt rfl (l56 (by decide)) rfl rfl np_Grammar_symbolAt rfl rfl ⟨(Nat.le_of_ble_eq_true rfl), (Nat.le_of_ble_eq_true rfl), (Nat.le_of_ble_eq_true rfl), (Nat.le_of_ble_eq_true rfl)⟩ (by decide) ?_
    refine sp_Grammar_symbolAt sc (by omega) (by omega) ?_
    refine ⟨_, rfl, ?_⟩
    refine ex_asN (a := f 1) (hf 1 (by decide)) ?_
    refine ex_cN (ν := m_Works_isTerminal) (as := [.int (nI (f 1))]) dX1_levelOfRule_15 ln_Grammar_74 mf_Works_isTerminal np_Works_isTerminal rfl rfl ⟨(Nat.le_of_ble_eq_true rfl), (Nat.le_of_ble_eq_true rfl), (Nat.le_of_ble_eq_true rfl), (Nat.le_of_ble_eq_true rfl)⟩ (by decide) ?_
    refine sp_Works_isTerminal (by omega) ?_
    refine ⟨_, rfl, ?_⟩
    refine ex_asN (a := 0) (by rw [c1]) ?_
    refine ex_if_eqN (tgt := 32) dX1_levelOfRule_18 (by decide) (by omega) (fun hz18 => ?_) (fun hz18 => by exact absurd hz18 (by decide))
    refine ex_iincN (L' := [some (.ref (1)), some (.int (nI (r))), some (.int (nI (0))), some (.int (nI (2)))]) dX1_levelOfRule_32 rfl rfl (by decide) rfl ?_
    refine ex_goto (tgt := 4) dX1_levelOfRule_35 (by decide) ?_
    refine ex_iload_n (i := 3) dX1_levelOfRule_4 rfl rfl ?_
    refine ex_iconst (v := nI 4) dX1_levelOfRule_5 (by decide) ?_
    refine ex_icmp_gtN (tgt := 38) dX1_levelOfRule_6 (by decide) (by decide) (by decide) (fun hz6 => by exact absurd hz6 (by decide)) (fun hz6 => ?_)
    refine ex_aload_n (i := 0) dX1_levelOfRule_9 rfl rfl ?_
    refine ex_iload_n (i := 1) dX1_levelOfRule_10 rfl rfl ?_
    refine ex_iload_n (i := 3) dX1_levelOfRule_11 rfl rfl ?_
    refine ex_cV (ν := m_Grammar_symbolAt) (a := 1) (ci := 1) (as := [.int (nI (r)), .int (nI (2))]) dX1_levelOfRule_12 ln_Grammar_71 mf_Grammar_symbolAt rfl (l56 (by decide)) rfl rfl np_Grammar_symbolAt rfl rfl ⟨(Nat.le_of_ble_eq_true rfl), (Nat.le_of_ble_eq_true rfl), (Nat.le_of_ble_eq_true rfl), (Nat.le_of_ble_eq_true rfl)⟩ (by decide) ?_
    refine sp_Grammar_symbolAt sc (by omega) (by omega) ?_
    refine ⟨_, rfl, ?_⟩
    refine ex_asN (a := f 2) (hf 2 (by decide)) ?_
    refine ex_cN (ν := m_Works_isTerminal) (as := [.int (nI (f 2))]) dX1_levelOfRule_15 ln_Grammar_74 mf_Works_isTerminal np_Works_isTerminal rfl rfl ⟨(Nat.le_of_ble_eq_true rfl), (Nat.le_of_ble_eq_true rfl), (Nat.le_of_ble_eq_true rfl), (Nat.le_of_ble_eq_true rfl)⟩ (by decide) ?_
    refine sp_Works_isTerminal (by omega) ?_
    refine ⟨_, rfl, ?_⟩
    refine ex_asN (a := 1) (by rw [c2]) ?_
    refine ex_if_eqN (tgt := 32) dX1_levelOfRule_18 (by decide) (by omega) (fun hz18 => by exact absurd hz18 (by decide)) (fun hz18 => ?_)
    refine ex_aload_n (i := 0) dX1_levelOfRule_21 rfl rfl ?_
    refine ex_aload_n (i := 0) dX1_levelOfRule_22 rfl rfl ?_
    refine ex_iload_n (i := 1) dX1_levelOfRule_23 rfl rfl ?_
    refine ex_iload_n (i := 3) dX1_levelOfRule_24 rfl rfl ?_
    refine ex_cV (ν := m_Grammar_symbolAt) (a := 1) (ci := 1) (as := [.int (nI (r)), .int (nI (2))]) dX1_levelOfRule_25 ln_Grammar_71 mf_Grammar_symbolAt rfl (l56 (by decide)) rfl rfl np_Grammar_symbolAt rfl rfl ⟨(Nat.le_of_ble_eq_true rfl), (Nat.le_of_ble_eq_true rfl), (Nat.le_of_ble_eq_true rfl), (Nat.le_of_ble_eq_true rfl)⟩ (by decide) ?_
    refine sp_Grammar_symbolAt sc (by omega) (by omega) ?_
    refine ⟨_, rfl, ?_⟩
    refine ex_asN (a := f 2) (hf 2 (by decide)) ?_
    refine ex_cV (ν := m_Grammar_levelOf) (a := 1) (ci := 1) (as := [.int (nI (f 2))]) dX1_levelOfRule_28 ln_Grammar_78 mf_Grammar_levelOf rfl (l56 (by decide)) rfl rfl np_Grammar_levelOf rfl rfl ⟨(Nat.le_of_ble_eq_true rfl), (Nat.le_of_ble_eq_true rfl), (Nat.le_of_ble_eq_true rfl), (Nat.le_of_ble_eq_true rfl)⟩ (by decide) ?_
    refine sp_Grammar_levelOf (tm7 _ (by assumption)) ?_
    refine ⟨_, rfl, ?_⟩
    refine ex_asN (a := lv (f 2)) (hlv (f 2) (tm7 _ c2)) ?_
    refine ex_istore_n (L' := [some (.ref (1)), some (.int (nI (r))), some (.int (nI (lv (f 2)))), some (.int (nI (2)))]) dX1_levelOfRule_31 (i := 2) rfl (by decide) rfl ?_
    refine ex_iincN (L' := [some (.ref (1)), some (.int (nI (r))), some (.int (nI (lv (f 2)))), some (.int (nI (3)))]) dX1_levelOfRule_32 rfl rfl (by decide) rfl ?_
    refine ex_goto (tgt := 4) dX1_levelOfRule_35 (by decide) ?_
    refine ex_iload_n (i := 3) dX1_levelOfRule_4 rfl rfl ?_
    refine ex_iconst (v := nI 4) dX1_levelOfRule_5 (by decide) ?_
    refine ex_icmp_gtN (tgt := 38) dX1_levelOfRule_6 (by decide) (by decide) (by decide) (fun hz6 => by exact absurd hz6 (by decide)) (fun hz6 => ?_)
    refine ex_aload_n (i := 0) dX1_levelOfRule_9 rfl rfl ?_
    refine ex_iload_n (i := 1) dX1_levelOfRule_10 rfl rfl ?_
    refine ex_iload_n (i := 3) dX1_levelOfRule_11 rfl rfl ?_
    refine ex_cV (ν := m_Grammar_symbolAt) (a := 1) (ci := 1) (as := [.int (nI (r)), .int (nI (3))]) dX1_levelOfRule_12 ln_Grammar_71 mf_Grammar_symbolAt rfl (l56 (by decide)) rfl rfl np_Grammar_symbolAt rfl rfl ⟨(Nat.le_of_ble_eq_true rfl), (Nat.le_of_ble_eq_true rfl), (Nat.le_of_ble_eq_true rfl), (Nat.le_of_ble_eq_true rfl)⟩ (by decide) ?_
    refine sp_Grammar_symbolAt sc (by omega) (by omega) ?_
    refine ⟨_, rfl, ?_⟩
    refine ex_asN (a := f 3) (hf 3 (by decide)) ?_
    refine ex_cN (ν := m_Works_isTerminal) (as := [.int (nI (f 3))]) dX1_levelOfRule_15 ln_Grammar_74 mf_Works_isTerminal np_Works_isTerminal rfl rfl ⟨(Nat.le_of_ble_eq_true rfl), (Nat.le_of_ble_eq_true rfl), (Nat.le_of_ble_eq_true rfl), (Nat.le_of_ble_eq_true rfl)⟩ (by decide) ?_
    refine sp_Works_isTerminal (by omega) ?_
    refine ⟨_, rfl, ?_⟩
    refine ex_asN (a := 0) (by rw [c3]) ?_
    refine ex_if_eqN (tgt := 32) dX1_levelOfRule_18 (by decide) (by omega) (fun hz18 => ?_) (fun hz18 => by exact absurd hz18 (by decide))
    refine ex_iincN (L' := [some (.ref (1)), some (.int (nI (r))), some (.int (nI (lv (f 2)))), some (.int (nI (4)))]) dX1_levelOfRule_32 rfl rfl (by decide) rfl ?_
    refine ex_goto (tgt := 4) dX1_levelOfRule_35 (by decide) ?_
    refine ex_iload_n (i := 3) dX1_levelOfRule_4 rfl rfl ?_
    refine ex_iconst (v := nI 4) dX1_levelOfRule_5 (by decide) ?_
    refine ex_icmp_gtN (tgt := 38) dX1_levelOfRule_6 (by decide) (by decide) (by decide) (fun hz6 => by exact absurd hz6 (by decide)) (fun hz6 => ?_)
    refine ex_aload_n (i := 0) dX1_levelOfRule_9 rfl rfl ?_
    refine ex_iload_n (i := 1) dX1_levelOfRule_10 rfl rfl ?_
    refine ex_iload_n (i := 3) dX1_levelOfRule_11 rfl rfl ?_
    refine ex_cV (ν := m_Grammar_symbolAt) (a := 1) (ci := 1) (as := [.int (nI (r)), .int (nI (4))]) dX1_levelOfRule_12 ln_Grammar_71 mf_Grammar_symbolAt rfl (l56 (by decide)) rfl rfl np_Grammar_symbolAt rfl rfl ⟨(Nat.le_of_ble_eq_true rfl), (Nat.le_of_ble_eq_true rfl), (Nat.le_of_ble_eq_true rfl), (Nat.le_of_ble_eq_true rfl)⟩ (by decide) ?_
    refine sp_Grammar_symbolAt sc (by omega) (by omega) ?_
    refine ⟨_, rfl, ?_⟩
    refine ex_asN (a := f 4) (hf 4 (by decide)) ?_
    refine ex_cN (ν := m_Works_isTerminal) (as := [.int (nI (f 4))]) dX1_levelOfRule_15 ln_Grammar_74 mf_Works_isTerminal np_Works_isTerminal rfl rfl ⟨(Nat.le_of_ble_eq_true rfl), (Nat.le_of_ble_eq_true rfl), (Nat.le_of_ble_eq_true rfl), (Nat.le_of_ble_eq_true rfl)⟩ (by decide) ?_
    refine sp_Works_isTerminal (by omega) ?_
    refine ⟨_, rfl, ?_⟩
    refine ex_asN (a := 1) (by rw [c4]) ?_
    refine ex_if_eqN (tgt := 32) dX1_levelOfRule_18 (by decide) (by omega) (fun hz18 => by exact absurd hz18 (by decide)) (fun hz18 => ?_)
    refine ex_aload_n (i := 0) dX1_levelOfRule_21 rfl rfl ?_
    refine ex_aload_n (i := 0) dX1_levelOfRule_22 rfl rfl ?_
    refine ex_iload_n (i := 1) dX1_levelOfRule_23 rfl rfl ?_
    refine ex_iload_n (i := 3) dX1_levelOfRule_24 rfl rfl ?_
    refine ex_cV (ν := m_Grammar_symbolAt) (a := 1) (ci := 1) (as := [.int (nI (r)), .int (nI (4))]) dX1_levelOfRule_25 ln_Grammar_71 mf_Grammar_symbolAt rfl (l56 (by decide)) rfl rfl np_Grammar_symbolAt rfl rfl ⟨(Nat.le_of_ble_eq_true rfl), (Nat.le_of_ble_eq_true rfl), (Nat.le_of_ble_eq_true rfl), (Nat.le_of_ble_eq_true rfl)⟩ (by decide) ?_
    refine sp_Grammar_symbolAt sc (by omega) (by omega) ?_
    refine ⟨_, rfl, ?_⟩
    refine ex_asN (a := f 4) (hf 4 (by decide)) ?_
    refine ex_cV (ν := m_Grammar_levelOf) (a := 1) (ci := 1) (as := [.int (nI (f 4))]) dX1_levelOfRule_28 ln_Grammar_78 mf_Grammar_levelOf rfl (l56 (by decide)) rfl rfl np_Grammar_levelOf rfl rfl ⟨(Nat.le_of_ble_eq_true rfl), (Nat.le_of_ble_eq_true rfl), (Nat.le_of_ble_eq_true rfl), (Nat.le_of_ble_eq_true rfl)⟩ (by decide) ?_
    refine sp_Grammar_levelOf (tm7 _ (by assumption)) ?_
    refine ⟨_, rfl, ?_⟩
    refine ex_asN (a := lv (f 4)) (hlv (f 4) (tm7 _ c4)) ?_
    refine ex_istore_n (L' := [some (.ref (1)), some (.int (nI (r))), some (.int (nI (lv (f 4)))), some (.int (nI (4)))]) dX1_levelOfRule_31 (i := 2) rfl (by decide) rfl ?_
    refine ex_iincN (L' := [some (.ref (1)), some (.int (nI (r))), some (.int (nI (lv (f 4)))), some (.int (nI (5)))]) dX1_levelOfRule_32 rfl rfl (by decide) rfl ?_
    refine ex_goto (tgt := 4) dX1_levelOfRule_35 (by decide) ?_
    refine ex_iload_n (i := 3) dX1_levelOfRule_4 rfl rfl ?_
    refine ex_iconst (v := nI 4) dX1_levelOfRule_5 (by decide) ?_
    refine ex_icmp_gtN (tgt := 38) dX1_levelOfRule_6 (by decide) (by decide) (by decide) (fun hz6 => ?_) (fun hz6 => by exact absurd hz6 (by decide))
    refine ex_iload_n (i := 2) dX1_levelOfRule_38 rfl rfl ?_
    refine ex_iret dX1_levelOfRule_39 rfl rfl ?_
    simp only [c1, c2, c3, c4, if_true, if_false, if_pos, show ((0 : Nat) = 1) = False from by simp] at hQ; exact hQ
  ·
    refine ex_iconst (v := nI 0) dX1_levelOfRule_0 (by decide) ?_
    refine ex_istore_n (L' := [some (.ref (1)), some (.int (nI (r))), some (.int (nI (0))), none]) dX1_levelOfRule_1 (i := 2) rfl (by decide) rfl ?_
    refine ex_iconst (v := nI 1) dX1_levelOfRule_2 (by decide) ?_
    refine ex_istore_n (L' := [some (.ref (1)), some (.int (nI (r))), some (.int (nI (0))), some (.int (nI (1)))]) dX1_levelOfRule_3 (i := 3) rfl (by decide) rfl ?_
    refine ex_iload_n (i := 3) dX1_levelOfRule_4 rfl rfl ?_
    refine ex_iconst (v := nI 4) dX1_levelOfRule_5 (by decide) ?_
    refine ex_icmp_gtN (tgt := 38) dX1_levelOfRule_6 (by decide) (by decide) (by decide) (fun hz6 => by exact absurd hz6 (by decide)) (fun hz6 => ?_)
    refine ex_aload_n (i := 0) dX1_levelOfRule_9 rfl rfl ?_
    refine ex_iload_n (i := 1) dX1_levelOfRule_10 rfl rfl ?_
    refine ex_iload_n (i := 3) dX1_levelOfRule_11 rfl rfl ?_
    refine ex_cV (ν := m_Grammar_symbolAt) (a := 1) (ci := 1) (as := [.int (nI (r)), .int (nI (1))]) dX1_levelOfRule_12 ln_Grammar_71 mf_Grammar_symbolAt rfl (l56 (by decide)) rfl rfl np_Grammar_symbolAt rfl rfl ⟨(Nat.le_of_ble_eq_true rfl), (Nat.le_of_ble_eq_true rfl), (Nat.le_of_ble_eq_true rfl), (Nat.le_of_ble_eq_true rfl)⟩ (by decide) ?_
    refine sp_Grammar_symbolAt sc (by omega) (by omega) ?_
    refine ⟨_, rfl, ?_⟩
    refine ex_asN (a := f 1) (hf 1 (by decide)) ?_
    refine ex_cN (ν := m_Works_isTerminal) (as := [.int (nI (f 1))]) dX1_levelOfRule_15 ln_Grammar_74 mf_Works_isTerminal np_Works_isTerminal rfl rfl ⟨(Nat.le_of_ble_eq_true rfl), (Nat.le_of_ble_eq_true rfl), (Nat.le_of_ble_eq_true rfl), (Nat.le_of_ble_eq_true rfl)⟩ (by decide) ?_
    refine sp_Works_isTerminal (by omega) ?_
    refine ⟨_, rfl, ?_⟩
    refine ex_asN (a := 0) (by rw [c1]) ?_
    refine ex_if_eqN (tgt := 32) dX1_levelOfRule_18 (by decide) (by omega) (fun hz18 => ?_) (fun hz18 => by exact absurd hz18 (by decide))
    refine ex_iincN (L' := [some (.ref (1)), some (.int (nI (r))), some (.int (nI (0))), some (.int (nI (2)))]) dX1_levelOfRule_32 rfl rfl (by decide) rfl ?_
    refine ex_goto (tgt := 4) dX1_levelOfRule_35 (by decide) ?_
    refine ex_iload_n (i := 3) dX1_levelOfRule_4 rfl rfl ?_
    refine ex_iconst (v := nI 4) dX1_levelOfRule_5 (by decide) ?_
    refine ex_icmp_gtN (tgt := 38) dX1_levelOfRule_6 (by decide) (by decide) (by decide) (fun hz6 => by exact absurd hz6 (by decide)) (fun hz6 => ?_)
    refine ex_aload_n (i := 0) dX1_levelOfRule_9 rfl rfl ?_
    refine ex_iload_n (i := 1) dX1_levelOfRule_10 rfl rfl ?_
    refine ex_iload_n (i := 3) dX1_levelOfRule_11 rfl rfl ?_
    refine ex_cV (ν := m_Grammar_symbolAt) (a := 1) (ci := 1) (as := [.int (nI (r)), .int (nI (2))]) dX1_levelOfRule_12 ln_Grammar_71 mf_Grammar_symbolAt rfl (l56 (by decide)) rfl rfl np_Grammar_symbolAt rfl rfl ⟨(Nat.le_of_ble_eq_true rfl), (Nat.le_of_ble_eq_true rfl), (Nat.le_of_ble_eq_true rfl), (Nat.le_of_ble_eq_true rfl)⟩ (by decide) ?_
    refine sp_Grammar_symbolAt sc (by omega) (by omega) ?_
    refine ⟨_, rfl, ?_⟩
    refine ex_asN (a := f 2) (hf 2 (by decide)) ?_
    refine ex_cN (ν := m_Works_isTerminal) (as := [.int (nI (f 2))]) dX1_levelOfRule_15 ln_Grammar_74 mf_Works_isTerminal np_Works_isTerminal rfl rfl ⟨(Nat.le_of_ble_eq_true rfl), (Nat.le_of_ble_eq_true rfl), (Nat.le_of_ble_eq_true rfl), (Nat.le_of_ble_eq_true rfl)⟩ (by decide) ?_
    refine sp_Works_isTerminal (by omega) ?_
    refine ⟨_, rfl, ?_⟩
    refine ex_asN (a := 1) (by rw [c2]) ?_
    refine ex_if_eqN (tgt := 32) dX1_levelOfRule_18 (by decide) (by omega) (fun hz18 => by exact absurd hz18 (by decide)) (fun hz18 => ?_)
    refine ex_aload_n (i := 0) dX1_levelOfRule_21 rfl rfl ?_
    refine ex_aload_n (i := 0) dX1_levelOfRule_22 rfl rfl ?_
    refine ex_iload_n (i := 1) dX1_levelOfRule_23 rfl rfl ?_
    refine ex_iload_n (i := 3) dX1_levelOfRule_24 rfl rfl ?_
    refine ex_cV (ν := m_Grammar_symbolAt) (a := 1) (ci := 1) (as := [.int (nI (r)), .int (nI (2))]) dX1_levelOfRule_25 ln_Grammar_71 mf_Grammar_symbolAt rfl (l56 (by decide)) rfl rfl np_Grammar_symbolAt rfl rfl ⟨(Nat.le_of_ble_eq_true rfl), (Nat.le_of_ble_eq_true rfl), (Nat.le_of_ble_eq_true rfl), (Nat.le_of_ble_eq_true rfl)⟩ (by decide) ?_
    refine sp_Grammar_symbolAt sc (by omega) (by omega) ?_
    refine ⟨_, rfl, ?_⟩
    refine ex_asN (a := f 2) (hf 2 (by decide)) ?_
    refine ex_cV (ν := m_Grammar_levelOf) (a := 1) (ci := 1) (as := [.int (nI (f 2))]) dX1_levelOfRule_28 ln_Grammar_78 mf_Grammar_levelOf rfl (l56 (by decide)) rfl rfl np_Grammar_levelOf rfl rfl ⟨(Nat.le_of_ble_eq_true rfl), (Nat.le_of_ble_eq_true rfl), (Nat.le_of_ble_eq_true rfl), (Nat.le_of_ble_eq_true rfl)⟩ (by decide) ?_
    refine sp_Grammar_levelOf (tm7 _ (by assumption)) ?_
    refine ⟨_, rfl, ?_⟩
    refine ex_asN (a := lv (f 2)) (hlv (f 2) (tm7 _ c2)) ?_
    refine ex_istore_n (L' := [some (.ref (1)), some (.int (nI (r))), some (.int (nI (lv (f 2)))), some (.int (nI (2)))]) dX1_levelOfRule_31 (i := 2) rfl (by decide) rfl ?_
    refine ex_iincN (L' := [some (.ref (1)), some (.int (nI (r))), some (.int (nI (lv (f 2)))), some (.int (nI (3)))]) dX1_levelOfRule_32 rfl rfl (by decide) rfl ?_
    refine ex_goto (tgt := 4) dX1_levelOfRule_35 (by decide) ?_
    refine ex_iload_n (i := 3) dX1_levelOfRule_4 rfl rfl ?_
    refine ex_iconst (v := nI 4) dX1_levelOfRule_5 (by decide) ?_
    refine ex_icmp_gtN (tgt := 38) dX1_levelOfRule_6 (by decide) (by decide) (by decide) (fun hz6 => by exact absurd hz6 (by decide)) (fun hz6 => ?_)
    refine ex_aload_n (i := 0) dX1_levelOfRule_9 rfl rfl ?_
    refine ex_iload_n (i := 1) dX1_levelOfRule_10 rfl rfl ?_
    refine ex_iload_n (i := 3) dX1_levelOfRule_11 rfl rfl ?_
    refine ex_cV (ν := m_Grammar_symbolAt) (a := 1) (ci := 1) (as := [.int (nI (r)), .int (nI (3))]) dX1_levelOfRule_12 ln_Grammar_71 mf_Grammar_symbolAt rfl (l56 (by decide)) rfl rfl np_Grammar_symbolAt rfl rfl ⟨(Nat.le_of_ble_eq_true rfl), (Nat.le_of_ble_eq_true rfl), (Nat.le_of_ble_eq_true rfl), (Nat.le_of_ble_eq_true rfl)⟩ (by decide) ?_
    refine sp_Grammar_symbolAt sc (by omega) (by omega) ?_
    refine ⟨_, rfl, ?_⟩
    refine ex_asN (a := f 3) (hf 3 (by decide)) ?_
    refine ex_cN (ν := m_Works_isTerminal) (as := [.int (nI (f 3))]) dX1_levelOfRule_15 ln_Grammar_74 mf_Works_isTerminal np_Works_isTerminal rfl rfl ⟨(Nat.le_of_ble_eq_true rfl), (Nat.le_of_ble_eq_true rfl), (Nat.le_of_ble_eq_true rfl), (Nat.le_of_ble_eq_true rfl)⟩ (by decide) ?_
    refine sp_Works_isTerminal (by omega) ?_
    refine ⟨_, rfl, ?_⟩
    refine ex_asN (a := 1) (by rw [c3]) ?_
    refine ex_if_eqN (tgt := 32) dX1_levelOfRule_18 (by decide) (by omega) (fun hz18 => by exact absurd hz18 (by decide)) (fun hz18 => ?_)
    refine ex_aload_n (i := 0) dX1_levelOfRule_21 rfl rfl ?_
    refine ex_aload_n (i := 0) dX1_levelOfRule_22 rfl rfl ?_
    refine ex_iload_n (i := 1) dX1_levelOfRule_23 rfl rfl ?_
    refine ex_iload_n (i := 3) dX1_levelOfRule_24 rfl rfl ?_
    refine ex_cV (ν := m_Grammar_symbolAt) (a := 1) (ci := 1) (as := [.int (nI (r)), .int (nI (3))]) dX1_levelOfRule_25 ln_Grammar_71 mf_Grammar_symbolAt rfl (l56 (by decide)) rfl rfl np_Grammar_symbolAt rfl rfl ⟨(Nat.le_of_ble_eq_true rfl), (Nat.le_of_ble_eq_true rfl), (Nat.le_of_ble_eq_true rfl), (Nat.le_of_ble_eq_true rfl)⟩ (by decide) ?_
    refine sp_Grammar_symbolAt sc (by omega) (by omega) ?_
    refine ⟨_, rfl, ?_⟩
    refine ex_asN (a := f 3) (hf 3 (by decide)) ?_
    refine ex_cV (ν := m_Grammar_levelOf) (a := 1) (ci := 1) (as := [.int (nI (f 3))]) dX1_levelOfRule_28 ln_Grammar_78 mf_Grammar_levelOf rfl (l56 (by decide)) rfl rfl np_Grammar_levelOf rfl rfl ⟨(Nat.le_of_ble_eq_true rfl), (Nat.le_of_ble_eq_true rfl), (Nat.le_of_ble_eq_true rfl), (Nat.le_of_ble_eq_true rfl)⟩ (by decide) ?_
    refine sp_Grammar_levelOf (tm7 _ (by assumption)) ?_
    refine ⟨_, rfl, ?_⟩
    refine ex_asN (a := lv (f 3)) (hlv (f 3) (tm7 _ c3)) ?_
    refine ex_istore_n (L' := [some (.ref (1)), some (.int (nI (r))), some (.int (nI (lv (f 3)))), some (.int (nI (3)))]) dX1_levelOfRule_31 (i := 2) rfl (by decide) rfl ?_
    refine ex_iincN (L' := [some (.ref (1)), some (.int (nI (r))), some (.int (nI (lv (f 3)))), some (.int (nI (4)))]) dX1_levelOfRule_32 rfl rfl (by decide) rfl ?_
    refine ex_goto (tgt := 4) dX1_levelOfRule_35 (by decide) ?_
    refine ex_iload_n (i := 3) dX1_levelOfRule_4 rfl rfl ?_
    refine ex_iconst (v := nI 4) dX1_levelOfRule_5 (by decide) ?_
    refine ex_icmp_gtN (tgt := 38) dX1_levelOfRule_6 (by decide) (by decide) (by decide) (fun hz6 => by exact absurd hz6 (by decide)) (fun hz6 => ?_)
    refine ex_aload_n (i := 0) dX1_levelOfRule_9 rfl rfl ?_
    refine ex_iload_n (i := 1) dX1_levelOfRule_10 rfl rfl ?_
    refine ex_iload_n (i := 3) dX1_levelOfRule_11 rfl rfl ?_
    refine ex_cV (ν := m_Grammar_symbolAt) (a := 1) (ci := 1) (as := [.int (nI (r)), .int (nI (4))]) dX1_levelOfRule_12 ln_Grammar_71 mf_Grammar_symbolAt rfl (l56 (by decide)) rfl rfl np_Grammar_symbolAt rfl rfl ⟨(Nat.le_of_ble_eq_true rfl), (Nat.le_of_ble_eq_true rfl), (Nat.le_of_ble_eq_true rfl), (Nat.le_of_ble_eq_true rfl)⟩ (by decide) ?_
    refine sp_Grammar_symbolAt sc (by omega) (by omega) ?_
    refine ⟨_, rfl, ?_⟩
    refine ex_asN (a := f 4) (hf 4 (by decide)) ?_
    refine ex_cN (ν := m_Works_isTerminal) (as := [.int (nI (f 4))]) dX1_levelOfRule_15 ln_Grammar_74 mf_Works_isTerminal np_Works_isTerminal rfl rfl ⟨(Nat.le_of_ble_eq_true rfl), (Nat.le_of_ble_eq_true rfl), (Nat.le_of_ble_eq_true rfl), (Nat.le_of_ble_eq_true rfl)⟩ (by decide) ?_
    refine sp_Works_isTerminal (by omega) ?_
    refine ⟨_, rfl, ?_⟩
    refine ex_asN (a := 0) (by rw [c4]) ?_
    refine ex_if_eqN (tgt := 32) dX1_levelOfRule_18 (by decide) (by omega) (fun hz18 => ?_) (fun hz18 => by exact absurd hz18 (by decide))
    refine ex_iincN (L' := [some (.ref (1)), some (.int (nI (r))), some (.int (nI (lv (f 3)))), some (.int (nI (5)))]) dX1_levelOfRule_32 rfl rfl (by decide) rfl ?_
    refine ex_goto (tgt := 4) dX1_levelOfRule_35 (by decide) ?_
    refine ex_iload_n (i := 3) dX1_levelOfRule_4 rfl rfl ?_
    refine ex_iconst (v := nI 4) dX1_levelOfRule_5 (by decide) ?_
    refine ex_icmp_gtN (tgt := 38) dX1_levelOfRule_6 (by decide) (by decide) (by decide) (fun hz6 => ?_) (fun hz6 => by exact absurd hz6 (by decide))
    refine ex_iload_n (i := 2) dX1_levelOfRule_38 rfl rfl ?_
    refine ex_iret dX1_levelOfRule_39 rfl rfl ?_
    simp only [c1, c2, c3, c4, if_true, if_false, if_pos, show ((0 : Nat) = 1) = False from by simp] at hQ; exact hQ
  ·
    refine ex_iconst (v := nI 0) dX1_levelOfRule_0 (by decide) ?_
    refine ex_istore_n (L' := [some (.ref (1)), some (.int (nI (r))), some (.int (nI (0))), none]) dX1_levelOfRule_1 (i := 2) rfl (by decide) rfl ?_
    refine ex_iconst (v := nI 1) dX1_levelOfRule_2 (by decide) ?_
    refine ex_istore_n (L' := [some (.ref (1)), some (.int (nI (r))), some (.int (nI (0))), some (.int (nI (1)))]) dX1_levelOfRule_3 (i := 3) rfl (by decide) rfl ?_
    refine ex_iload_n (i := 3) dX1_levelOfRule_4 rfl rfl ?_
    refine ex_iconst (v := nI 4) dX1_levelOfRule_5 (by decide) ?_
    refine ex_icmp_gtN (tgt := 38) dX1_levelOfRule_6 (by decide) (by decide) (by decide) (fun hz6 => by exact absurd hz6 (by decide)) (fun hz6 => ?_)
    refine ex_aload_n (i := 0) dX1_levelOfRule_9 rfl rfl ?_
    refine ex_iload_n (i := 1) dX1_levelOfRule_10 rfl rfl ?_
    refine ex_iload_n (i := 3) dX1_levelOfRule_11 rfl rfl ?_
    refine ex_cV (ν := m_Grammar_symbolAt) (a := 1) (ci := 1) (as := [.int (nI (r)), .int (nI (1))]) dX1_levelOfRule_12 ln_Grammar_71 mf_Grammar_symbolAt rfl (l56 (by decide)) rfl rfl np_Grammar_symbolAt rfl rfl ⟨(Nat.le_of_ble_eq_true rfl), (Nat.le_of_ble_eq_true rfl), (Nat.le_of_ble_eq_true rfl), (Nat.le_of_ble_eq_true rfl)⟩ (by decide) ?_
    refine sp_Grammar_symbolAt sc (by omega) (by omega) ?_
    refine ⟨_, rfl, ?_⟩
    refine ex_asN (a := f 1) (hf 1 (by decide)) ?_
    refine ex_cN (ν := m_Works_isTerminal) (as := [.int (nI (f 1))]) dX1_levelOfRule_15 ln_Grammar_74 mf_Works_isTerminal np_Works_isTerminal rfl rfl ⟨(Nat.le_of_ble_eq_true rfl), (Nat.le_of_ble_eq_true rfl), (Nat.le_of_ble_eq_true rfl), (Nat.le_of_ble_eq_true rfl)⟩ (by decide) ?_
    refine sp_Works_isTerminal (by omega) ?_
    refine ⟨_, rfl, ?_⟩
    refine ex_asN (a := 0) (by rw [c1]) ?_
    refine ex_if_eqN (tgt := 32) dX1_levelOfRule_18 (by decide) (by omega) (fun hz18 => ?_) (fun hz18 => by exact absurd hz18 (by decide))
    refine ex_iincN (L' := [some (.ref (1)), some (.int (nI (r))), some (.int (nI (0))), some (.int (nI (2)))]) dX1_levelOfRule_32 rfl rfl (by decide) rfl ?_
    refine ex_goto (tgt := 4) dX1_levelOfRule_35 (by decide) ?_
    refine ex_iload_n (i := 3) dX1_levelOfRule_4 rfl rfl ?_
    refine ex_iconst (v := nI 4) dX1_levelOfRule_5 (by decide) ?_
    refine ex_icmp_gtN (tgt := 38) dX1_levelOfRule_6 (by decide) (by decide) (by decide) (fun hz6 => by exact absurd hz6 (by decide)) (fun hz6 => ?_)
    refine ex_aload_n (i := 0) dX1_levelOfRule_9 rfl rfl ?_
    refine ex_iload_n (i := 1) dX1_levelOfRule_10 rfl rfl ?_
    refine ex_iload_n (i := 3) dX1_levelOfRule_11 rfl rfl ?_
    refine ex_cV (ν := m_Grammar_symbolAt) (a := 1) (ci := 1) (as := [.int (nI (r)), .int (nI (2))]) dX1_levelOfRule_12 ln_Grammar_71 mf_Grammar_symbolAt rfl (l56 (by decide)) rfl rfl np_Grammar_symbolAt rfl rfl ⟨(Nat.le_of_ble_eq_true rfl), (Nat.le_of_ble_eq_true rfl), (Nat.le_of_ble_eq_true rfl), (Nat.le_of_ble_eq_true rfl)⟩ (by decide) ?_
    refine sp_Grammar_symbolAt sc (by omega) (by omega) ?_
    refine ⟨_, rfl, ?_⟩
    refine ex_asN (a := f 2) (hf 2 (by decide)) ?_
    refine ex_cN (ν := m_Works_isTerminal) (as := [.int (nI (f 2))]) dX1_levelOfRule_15 ln_Grammar_74 mf_Works_isTerminal np_Works_isTerminal rfl rfl ⟨(Nat.le_of_ble_eq_true rfl), (Nat.le_of_ble_eq_true rfl), (Nat.le_of_ble_eq_true rfl), (Nat.le_of_ble_eq_true rfl)⟩ (by decide) ?_
    refine sp_Works_isTerminal (by omega) ?_
    refine ⟨_, rfl, ?_⟩
    refine ex_asN (a := 1) (by rw [c2]) ?_
    refine ex_if_eqN (tgt := 32) dX1_levelOfRule_18 (by decide) (by omega) (fun hz18 => by exact absurd hz18 (by decide)) (fun hz18 => ?_)
    refine ex_aload_n (i := 0) dX1_levelOfRule_21 rfl rfl ?_
    refine ex_aload_n (i := 0) dX1_levelOfRule_22 rfl rfl ?_
    refine ex_iload_n (i := 1) dX1_levelOfRule_23 rfl rfl ?_
    refine ex_iload_n (i := 3) dX1_levelOfRule_24 rfl rfl ?_
    refine ex_cV (ν := m_Grammar_symbolAt) (a := 1) (ci := 1) (as := [.int (nI (r)), .int (nI (2))]) dX1_levelOfRule_25 ln_Grammar_71 mf_Grammar_symbolAt rfl (l56 (by decide)) rfl rfl np_Grammar_symbolAt rfl rfl ⟨(Nat.le_of_ble_eq_true rfl), (Nat.le_of_ble_eq_true rfl), (Nat.le_of_ble_eq_true rfl), (Nat.le_of_ble_eq_true rfl)⟩ (by decide) ?_
    refine sp_Grammar_symbolAt sc (by omega) (by omega) ?_
    refine ⟨_, rfl, ?_⟩
    refine ex_asN (a := f 2) (hf 2 (by decide)) ?_
    refine ex_cV (ν := m_Grammar_levelOf) (a := 1) (ci := 1) (as := [.int (nI (f 2))]) dX1_levelOfRule_28 ln_Grammar_78 mf_Grammar_levelOf rfl (l56 (by decide)) rfl rfl np_Grammar_levelOf rfl rfl ⟨(Nat.le_of_ble_eq_true rfl), (Nat.le_of_ble_eq_true rfl), (Nat.le_of_ble_eq_true rfl), (Nat.le_of_ble_eq_true rfl)⟩ (by decide) ?_
    refine sp_Grammar_levelOf (tm7 _ (by assumption)) ?_
    refine ⟨_, rfl, ?_⟩
    refine ex_asN (a := lv (f 2)) (hlv (f 2) (tm7 _ c2)) ?_
    refine ex_istore_n (L' := [some (.ref (1)), some (.int (nI (r))), some (.int (nI (lv (f 2)))), some (.int (nI (2)))]) dX1_levelOfRule_31 (i := 2) rfl (by decide) rfl ?_
    refine ex_iincN (L' := [some (.ref (1)), some (.int (nI (r))), some (.int (nI (lv (f 2)))), some (.int (nI (3)))]) dX1_levelOfRule_32 rfl rfl (by decide) rfl ?_
    refine ex_goto (tgt := 4) dX1_levelOfRule_35 (by decide) ?_
    refine ex_iload_n (i := 3) dX1_levelOfRule_4 rfl rfl ?_
    refine ex_iconst (v := nI 4) dX1_levelOfRule_5 (by decide) ?_
    refine ex_icmp_gtN (tgt := 38) dX1_levelOfRule_6 (by decide) (by decide) (by decide) (fun hz6 => by exact absurd hz6 (by decide)) (fun hz6 => ?_)
    refine ex_aload_n (i := 0) dX1_levelOfRule_9 rfl rfl ?_
    refine ex_iload_n (i := 1) dX1_levelOfRule_10 rfl rfl ?_
    refine ex_iload_n (i := 3) dX1_levelOfRule_11 rfl rfl ?_
    refine ex_cV (ν := m_Grammar_symbolAt) (a := 1) (ci := 1) (as := [.int (nI (r)), .int (nI (3))]) dX1_levelOfRule_12 ln_Grammar_71 mf_Grammar_symbolAt rfl (l56 (by decide)) rfl rfl np_Grammar_symbolAt rfl rfl ⟨(Nat.le_of_ble_eq_true rfl), (Nat.le_of_ble_eq_true rfl), (Nat.le_of_ble_eq_true rfl), (Nat.le_of_ble_eq_true rfl)⟩ (by decide) ?_
    refine sp_Grammar_symbolAt sc (by omega) (by omega) ?_
    refine ⟨_, rfl, ?_⟩
    refine ex_asN (a := f 3) (hf 3 (by decide)) ?_
    refine ex_cN (ν := m_Works_isTerminal) (as := [.int (nI (f 3))]) dX1_levelOfRule_15 ln_Grammar_74 mf_Works_isTerminal np_Works_isTerminal rfl rfl ⟨(Nat.le_of_ble_eq_true rfl), (Nat.le_of_ble_eq_true rfl), (Nat.le_of_ble_eq_true rfl), (Nat.le_of_ble_eq_true rfl)⟩ (by decide) ?_
    refine sp_Works_isTerminal (by omega) ?_
    refine ⟨_, rfl, ?_⟩
    refine ex_asN (a := 1) (by rw [c3]) ?_
    refine ex_if_eqN (tgt := 32) dX1_levelOfRule_18 (by decide) (by omega) (fun hz18 => by exact absurd hz18 (by decide)) (fun hz18 => ?_)
    refine ex_aload_n (i := 0) dX1_levelOfRule_21 rfl rfl ?_
    refine ex_aload_n (i := 0) dX1_levelOfRule_22 rfl rfl ?_
    refine ex_iload_n (i := 1) dX1_levelOfRule_23 rfl rfl ?_
    refine ex_iload_n (i := 3) dX1_levelOfRule_24 rfl rfl ?_
    refine ex_cV (ν := m_Grammar_symbolAt) (a := 1) (ci := 1) (as := [.int (nI (r)), .int (nI (3))]) dX1_levelOfRule_25 ln_Grammar_71 mf_Grammar_symbolAt rfl (l56 (by decide)) rfl rfl np_Grammar_symbolAt rfl rfl ⟨(Nat.le_of_ble_eq_true rfl), (Nat.le_of_ble_eq_true rfl), (Nat.le_of_ble_eq_true rfl), (Nat.le_of_ble_eq_true rfl)⟩ (by decide) ?_
    refine sp_Grammar_symbolAt sc (by omega) (by omega) ?_
    refine ⟨_, rfl, ?_⟩
    refine ex_asN (a := f 3) (hf 3 (by decide)) ?_
    refine ex_cV (ν := m_Grammar_levelOf) (a := 1) (ci := 1) (as := [.int (nI (f 3))]) dX1_levelOfRule_28 ln_Grammar_78 mf_Grammar_levelOf rfl (l56 (by decide)) rfl rfl np_Grammar_levelOf rfl rfl ⟨(Nat.le_of_ble_eq_true rfl), (Nat.le_of_ble_eq_true rfl), (Nat.le_of_ble_eq_true rfl), (Nat.le_of_ble_eq_true rfl)⟩ (by decide) ?_
    refine sp_Grammar_levelOf (tm7 _ (by assumption)) ?_
    refine ⟨_, rfl, ?_⟩
    refine ex_asN (a := lv (f 3)) (hlv (f 3) (tm7 _ c3)) ?_
    refine ex_istore_n (L' := [some (.ref (1)), some (.int (nI (r))), some (.int (nI (lv (f 3)))), some (.int (nI (3)))]) dX1_levelOfRule_31 (i := 2) rfl (by decide) rfl ?_
    refine ex_iincN (L' := [some (.ref (1)), some (.int (nI (r))), some (.int (nI (lv (f 3)))), some (.int (nI (4)))]) dX1_levelOfRule_32 rfl rfl (by decide) rfl ?_
    refine ex_goto (tgt := 4) dX1_levelOfRule_35 (by decide) ?_
    refine ex_iload_n (i := 3) dX1_levelOfRule_4 rfl rfl ?_
    refine ex_iconst (v := nI 4) dX1_levelOfRule_5 (by decide) ?_
    refine ex_icmp_gtN (tgt := 38) dX1_levelOfRule_6 (by decide) (by decide) (by decide) (fun hz6 => by exact absurd hz6 (by decide)) (fun hz6 => ?_)
    refine ex_aload_n (i := 0) dX1_levelOfRule_9 rfl rfl ?_
    refine ex_iload_n (i := 1) dX1_levelOfRule_10 rfl rfl ?_
    refine ex_iload_n (i := 3) dX1_levelOfRule_11 rfl rfl ?_
    refine ex_cV (ν := m_Grammar_symbolAt) (a := 1) (ci := 1) (as := [.int (nI (r)), .int (nI (4))]) dX1_levelOfRule_12 ln_Grammar_71 mf_Grammar_symbolAt rfl (l56 (by decide)) rfl rfl np_Grammar_symbolAt rfl rfl ⟨(Nat.le_of_ble_eq_true rfl), (Nat.le_of_ble_eq_true rfl), (Nat.le_of_ble_eq_true rfl), (Nat.le_of_ble_eq_true rfl)⟩ (by decide) ?_
    refine sp_Grammar_symbolAt sc (by omega) (by omega) ?_
    refine ⟨_, rfl, ?_⟩
    refine ex_asN (a := f 4) (hf 4 (by decide)) ?_
    refine ex_cN (ν := m_Works_isTerminal) (as := [.int (nI (f 4))]) dX1_levelOfRule_15 ln_Grammar_74 mf_Works_isTerminal np_Works_isTerminal rfl rfl ⟨(Nat.le_of_ble_eq_true rfl), (Nat.le_of_ble_eq_true rfl), (Nat.le_of_ble_eq_true rfl), (Nat.le_of_ble_eq_true rfl)⟩ (by decide) ?_
    refine sp_Works_isTerminal (by omega) ?_
    refine ⟨_, rfl, ?_⟩
    refine ex_asN (a := 1) (by rw [c4]) ?_
    refine ex_if_eqN (tgt := 32) dX1_levelOfRule_18 (by decide) (by omega) (fun hz18 => by exact absurd hz18 (by decide)) (fun hz18 => ?_)
    refine ex_aload_n (i := 0) dX1_levelOfRule_21 rfl rfl ?_
    refine ex_aload_n (i := 0) dX1_levelOfRule_22 rfl rfl ?_
    refine ex_iload_n (i := 1) dX1_levelOfRule_23 rfl rfl ?_
    refine ex_iload_n (i := 3) dX1_levelOfRule_24 rfl rfl ?_
    refine ex_cV (ν := m_Grammar_symbolAt) (a := 1) (ci := 1) (as := [.int (nI (r)), .int (nI (4))]) dX1_levelOfRule_25 ln_Grammar_71 mf_Grammar_symbolAt rfl (l56 (by decide)) rfl rfl np_Grammar_symbolAt rfl rfl ⟨(Nat.le_of_ble_eq_true rfl), (Nat.le_of_ble_eq_true rfl), (Nat.le_of_ble_eq_true rfl), (Nat.le_of_ble_eq_true rfl)⟩ (by decide) ?_
    refine sp_Grammar_symbolAt sc (by omega) (by omega) ?_
    refine ⟨_, rfl, ?_⟩
    refine ex_asN (a := f 4) (hf 4 (by decide)) ?_
    refine ex_cV (ν := m_Grammar_levelOf) (a := 1) (ci := 1) (as := [.int (nI (f 4))]) dX1_levelOfRule_28 ln_Grammar_78 mf_Grammar_levelOf rfl (l56 (by decide)) rfl rfl np_Grammar_levelOf rfl rfl ⟨(Nat.le_of_ble_eq_true rfl), (Nat.le_of_ble_eq_true rfl), (Nat.le_of_ble_eq_true rfl), (Nat.le_of_ble_eq_true rfl)⟩ (by decide) ?_
    refine sp_Grammar_levelOf (tm7 _ (by assumption)) ?_
    refine ⟨_, rfl, ?_⟩
    refine ex_asN (a := lv (f 4)) (hlv (f 4) (tm7 _ c4)) ?_
    refine ex_istore_n (L' := [some (.ref (1)), some (.int (nI (r))), some (.int (nI (lv (f 4)))), some (.int (nI (4)))]) dX1_levelOfRule_31 (i := 2) rfl (by decide) rfl ?_
    refine ex_iincN (L' := [some (.ref (1)), some (.int (nI (r))), some (.int (nI (lv (f 4)))), some (.int (nI (5)))]) dX1_levelOfRule_32 rfl rfl (by decide) rfl ?_
    refine ex_goto (tgt := 4) dX1_levelOfRule_35 (by decide) ?_
    refine ex_iload_n (i := 3) dX1_levelOfRule_4 rfl rfl ?_
    refine ex_iconst (v := nI 4) dX1_levelOfRule_5 (by decide) ?_
    refine ex_icmp_gtN (tgt := 38) dX1_levelOfRule_6 (by decide) (by decide) (by decide) (fun hz6 => ?_) (fun hz6 => by exact absurd hz6 (by decide))
    refine ex_iload_n (i := 2) dX1_levelOfRule_38 rfl rfl ?_
    refine ex_iret dX1_levelOfRule_39 rfl rfl ?_
    simp only [c1, c2, c3, c4, if_true, if_false, if_pos, show ((0 : Nat) = 1) = False from by simp] at hQ; exact hQ
  ·
    refine ex_iconst (v := nI 0) dX1_levelOfRule_0 (by decide) ?_
    refine ex_istore_n (L' := [some (.ref (1)), some (.int (nI (r))), some (.int (nI (0))), none]) dX1_levelOfRule_1 (i := 2) rfl (by decide) rfl ?_
    refine ex_iconst (v := nI 1) dX1_levelOfRule_2 (by decide) ?_
    refine ex_istore_n (L' := [some (.ref (1)), some (.int (nI (r))), some (.int (nI (0))), some (.int (nI (1)))]) dX1_levelOfRule_3 (i := 3) rfl (by decide) rfl ?_
    refine ex_iload_n (i := 3) dX1_levelOfRule_4 rfl rfl ?_
    refine ex_iconst (v := nI 4) dX1_levelOfRule_5 (by decide) ?_
    refine ex_icmp_gtN (tgt := 38) dX1_levelOfRule_6 (by decide) (by decide) (by decide) (fun hz6 => by exact absurd hz6 (by decide)) (fun hz6 => ?_)
    refine ex_aload_n (i := 0) dX1_levelOfRule_9 rfl rfl ?_
    refine ex_iload_n (i := 1) dX1_levelOfRule_10 rfl rfl ?_
    refine ex_iload_n (i := 3) dX1_levelOfRule_11 rfl rfl ?_
    refine ex_cV (ν := m_Grammar_symbolAt) (a := 1) (ci := 1) (as := [.int (nI (r)), .int (nI (1))]) dX1_levelOfRule_12 ln_Grammar_71 mf_Grammar_symbolAt rfl (l56 (by decide)) rfl rfl np_Grammar_symbolAt rfl rfl ⟨(Nat.le_of_ble_eq_true rfl), (Nat.le_of_ble_eq_true rfl), (Nat.le_of_ble_eq_true rfl), (Nat.le_of_ble_eq_true rfl)⟩ (by decide) ?_
    refine sp_Grammar_symbolAt sc (by omega) (by omega) ?_
    refine ⟨_, rfl, ?_⟩
    refine ex_asN (a := f 1) (hf 1 (by decide)) ?_
    refine ex_cN (ν := m_Works_isTerminal) (as := [.int (nI (f 1))]) dX1_levelOfRule_15 ln_Grammar_74 mf_Works_isTerminal np_Works_isTerminal rfl rfl ⟨(Nat.le_of_ble_eq_true rfl), (Nat.le_of_ble_eq_true rfl), (Nat.le_of_ble_eq_true rfl), (Nat.le_of_ble_eq_true rfl)⟩ (by decide) ?_
    refine sp_Works_isTerminal (by omega) ?_
    refine ⟨_, rfl, ?_⟩
    refine ex_asN (a := 1) (by rw [c1]) ?_
    refine ex_if_eqN (tgt := 32) dX1_levelOfRule_18 (by decide) (by omega) (fun hz18 => by exact absurd hz18 (by decide)) (fun hz18 => ?_)
    refine ex_aload_n (i := 0) dX1_levelOfRule_21 rfl rfl ?_
    refine ex_aload_n (i := 0) dX1_levelOfRule_22 rfl rfl ?_
    refine ex_iload_n (i := 1) dX1_levelOfRule_23 rfl rfl ?_
    refine ex_iload_n (i := 3) dX1_levelOfRule_24 rfl rfl ?_
    refine ex_cV (ν := m_Grammar_symbolAt) (a := 1) (ci := 1) (as := [.int (nI (r)), .int (nI (1))]) dX1_levelOfRule_25 ln_Grammar_71 mf_Grammar_symbolAt rfl (l56 (by decide)) rfl rfl np_Grammar_symbolAt rfl rfl ⟨(Nat.le_of_ble_eq_true rfl), (Nat.le_of_ble_eq_true rfl), (Nat.le_of_ble_eq_true rfl), (Nat.le_of_ble_eq_true rfl)⟩ (by decide) ?_
    refine sp_Grammar_symbolAt sc (by omega) (by omega) ?_
    refine ⟨_, rfl, ?_⟩
    refine ex_asN (a := f 1) (hf 1 (by decide)) ?_
    refine ex_cV (ν := m_Grammar_levelOf) (a := 1) (ci := 1) (as := [.int (nI (f 1))]) dX1_levelOfRule_28 ln_Grammar_78 mf_Grammar_levelOf rfl (l56 (by decide)) rfl rfl np_Grammar_levelOf rfl rfl ⟨(Nat.le_of_ble_eq_true rfl), (Nat.le_of_ble_eq_true rfl), (Nat.le_of_ble_eq_true rfl), (Nat.le_of_ble_eq_true rfl)⟩ (by decide) ?_
    refine sp_Grammar_levelOf (tm7 _ (by assumption)) ?_
    refine ⟨_, rfl, ?_⟩
    refine ex_asN (a := lv (f 1)) (hlv (f 1) (tm7 _ c1)) ?_
    refine ex_istore_n (L' := [some (.ref (1)), some (.int (nI (r))), some (.int (nI (lv (f 1)))), some (.int (nI (1)))]) dX1_levelOfRule_31 (i := 2) rfl (by decide) rfl ?_
    refine ex_iincN (L' := [some (.ref (1)), some (.int (nI (r))), some (.int (nI (lv (f 1)))), some (.int (nI (2)))]) dX1_levelOfRule_32 rfl rfl (by decide) rfl ?_
    refine ex_goto (tgt := 4) dX1_levelOfRule_35 (by decide) ?_
    refine ex_iload_n (i := 3) dX1_levelOfRule_4 rfl rfl ?_
    refine ex_iconst (v := nI 4) dX1_levelOfRule_5 (by decide) ?_
    refine ex_icmp_gtN (tgt := 38) dX1_levelOfRule_6 (by decide) (by decide) (by decide) (fun hz6 => by exact absurd hz6 (by decide)) (fun hz6 => ?_)
    refine ex_aload_n (i := 0) dX1_levelOfRule_9 rfl rfl ?_
    refine ex_iload_n (i := 1) dX1_levelOfRule_10 rfl rfl ?_
    refine ex_iload_n (i := 3) dX1_levelOfRule_11 rfl rfl ?_
    refine ex_cV (ν := m_Grammar_symbolAt) (a := 1) (ci := 1) (as := [.int (nI (r)), .int (nI (2))]) dX1_levelOfRule_12 ln_Grammar_71 mf_Grammar_symbolAt rfl (l56 (by decide)) rfl rfl np_Grammar_symbolAt rfl rfl ⟨(Nat.le_of_ble_eq_true rfl), (Nat.le_of_ble_eq_true rfl), (Nat.le_of_ble_eq_true rfl), (Nat.le_of_ble_eq_true rfl)⟩ (by decide) ?_
    refine sp_Grammar_symbolAt sc (by omega) (by omega) ?_
    refine ⟨_, rfl, ?_⟩
    refine ex_asN (a := f 2) (hf 2 (by decide)) ?_
    refine ex_cN (ν := m_Works_isTerminal) (as := [.int (nI (f 2))]) dX1_levelOfRule_15 ln_Grammar_74 mf_Works_isTerminal np_Works_isTerminal rfl rfl ⟨(Nat.le_of_ble_eq_true rfl), (Nat.le_of_ble_eq_true rfl), (Nat.le_of_ble_eq_true rfl), (Nat.le_of_ble_eq_true rfl)⟩ (by decide) ?_
    refine sp_Works_isTerminal (by omega) ?_
    refine ⟨_, rfl, ?_⟩
    refine ex_asN (a := 0) (by rw [c2]) ?_
    refine ex_if_eqN (tgt := 32) dX1_levelOfRule_18 (by decide) (by omega) (fun hz18 => ?_) (fun hz18 => by exact absurd hz18 (by decide))
    refine ex_iincN (L' := [some (.ref (1)), some (.int (nI (r))), some (.int (nI (lv (f 1)))), some (.int (nI (3)))]) dX1_levelOfRule_32 rfl rfl (by decide) rfl ?_
    refine ex_goto (tgt := 4) dX1_levelOfRule_35 (by decide) ?_
    refine ex_iload_n (i := 3) dX1_levelOfRule_4 rfl rfl ?_
    refine ex_iconst (v := nI 4) dX1_levelOfRule_5 (by decide) ?_
    refine ex_icmp_gtN (tgt := 38) dX1_levelOfRule_6 (by decide) (by decide) (by decide) (fun hz6 => by exact absurd hz6 (by decide)) (fun hz6 => ?_)
    refine ex_aload_n (i := 0) dX1_levelOfRule_9 rfl rfl ?_
    refine ex_iload_n (i := 1) dX1_levelOfRule_10 rfl rfl ?_
    refine ex_iload_n (i := 3) dX1_levelOfRule_11 rfl rfl ?_
    refine ex_cV (ν := m_Grammar_symbolAt) (a := 1) (ci := 1) (as := [.int (nI (r)), .int (nI (3))]) dX1_levelOfRule_12 ln_Grammar_71 mf_Grammar_symbolAt rfl (l56 (by decide)) rfl rfl np_Grammar_symbolAt rfl rfl ⟨(Nat.le_of_ble_eq_true rfl), (Nat.le_of_ble_eq_true rfl), (Nat.le_of_ble_eq_true rfl), (Nat.le_of_ble_eq_true rfl)⟩ (by decide) ?_
    refine sp_Grammar_symbolAt sc (by omega) (by omega) ?_
    refine ⟨_, rfl, ?_⟩
    refine ex_asN (a := f 3) (hf 3 (by decide)) ?_
    refine ex_cN (ν := m_Works_isTerminal) (as := [.int (nI (f 3))]) dX1_levelOfRule_15 ln_Grammar_74 mf_Works_isTerminal np_Works_isTerminal rfl rfl ⟨(Nat.le_of_ble_eq_true rfl), (Nat.le_of_ble_eq_true rfl), (Nat.le_of_ble_eq_true rfl), (Nat.le_of_ble_eq_true rfl)⟩ (by decide) ?_
    refine sp_Works_isTerminal (by omega) ?_
    refine ⟨_, rfl, ?_⟩
    refine ex_asN (a := 0) (by rw [c3]) ?_
    refine ex_if_eqN (tgt := 32) dX1_levelOfRule_18 (by decide) (by omega) (fun hz18 => ?_) (fun hz18 => by exact absurd hz18 (by decide))
    refine ex_iincN (L' := [some (.ref (1)), some (.int (nI (r))), some (.int (nI (lv (f 1)))), some (.int (nI (4)))]) dX1_levelOfRule_32 rfl rfl (by decide) rfl ?_
    refine ex_goto (tgt := 4) dX1_levelOfRule_35 (by decide) ?_
    refine ex_iload_n (i := 3) dX1_levelOfRule_4 rfl rfl ?_
    refine ex_iconst (v := nI 4) dX1_levelOfRule_5 (by decide) ?_
    refine ex_icmp_gtN (tgt := 38) dX1_levelOfRule_6 (by decide) (by decide) (by decide) (fun hz6 => by exact absurd hz6 (by decide)) (fun hz6 => ?_)
    refine ex_aload_n (i := 0) dX1_levelOfRule_9 rfl rfl ?_
    refine ex_iload_n (i := 1) dX1_levelOfRule_10 rfl rfl ?_
    refine ex_iload_n (i := 3) dX1_levelOfRule_11 rfl rfl ?_
    refine ex_cV (ν := m_Grammar_symbolAt) (a := 1) (ci := 1) (as := [.int (nI (r)), .int (nI (4))]) dX1_levelOfRule_12 ln_Grammar_71 mf_Grammar_symbolAt rfl (l56 (by decide)) rfl rfl np_Grammar_symbolAt rfl rfl ⟨(Nat.le_of_ble_eq_true rfl), (Nat.le_of_ble_eq_true rfl), (Nat.le_of_ble_eq_true rfl), (Nat.le_of_ble_eq_true rfl)⟩ (by decide) ?_
    refine sp_Grammar_symbolAt sc (by omega) (by omega) ?_
    refine ⟨_, rfl, ?_⟩
    refine ex_asN (a := f 4) (hf 4 (by decide)) ?_
    refine ex_cN (ν := m_Works_isTerminal) (as := [.int (nI (f 4))]) dX1_levelOfRule_15 ln_Grammar_74 mf_Works_isTerminal np_Works_isTerminal rfl rfl ⟨(Nat.le_of_ble_eq_true rfl), (Nat.le_of_ble_eq_true rfl), (Nat.le_of_ble_eq_true rfl), (Nat.le_of_ble_eq_true rfl)⟩ (by decide) ?_
    refine sp_Works_isTerminal (by omega) ?_
    refine ⟨_, rfl, ?_⟩
    refine ex_asN (a := 0) (by rw [c4]) ?_
    refine ex_if_eqN (tgt := 32) dX1_levelOfRule_18 (by decide) (by omega) (fun hz18 => ?_) (fun hz18 => by exact absurd hz18 (by decide))
    refine ex_iincN (L' := [some (.ref (1)), some (.int (nI (r))), some (.int (nI (lv (f 1)))), some (.int (nI (5)))]) dX1_levelOfRule_32 rfl rfl (by decide) rfl ?_
    refine ex_goto (tgt := 4) dX1_levelOfRule_35 (by decide) ?_
    refine ex_iload_n (i := 3) dX1_levelOfRule_4 rfl rfl ?_
    refine ex_iconst (v := nI 4) dX1_levelOfRule_5 (by decide) ?_
    refine ex_icmp_gtN (tgt := 38) dX1_levelOfRule_6 (by decide) (by decide) (by decide) (fun hz6 => ?_) (fun hz6 => by exact absurd hz6 (by decide))
    refine ex_iload_n (i := 2) dX1_levelOfRule_38 rfl rfl ?_
    refine ex_iret dX1_levelOfRule_39 rfl rfl ?_
    simp only [c1, c2, c3, c4, if_true, if_false, if_pos, show ((0 : Nat) = 1) = False from by simp] at hQ; exact hQ
  ·
    refine ex_iconst (v := nI 0) dX1_levelOfRule_0 (by decide) ?_
    refine ex_istore_n (L' := [some (.ref (1)), some (.int (nI (r))), some (.int (nI (0))), none]) dX1_levelOfRule_1 (i := 2) rfl (by decide) rfl ?_
    refine ex_iconst (v := nI 1) dX1_levelOfRule_2 (by decide) ?_
    refine ex_istore_n (L' := [some (.ref (1)), some (.int (nI (r))), some (.int (nI (0))), some (.int (nI (1)))]) dX1_levelOfRule_3 (i := 3) rfl (by decide) rfl ?_
    refine ex_iload_n (i := 3) dX1_levelOfRule_4 rfl rfl ?_
    refine ex_iconst (v := nI 4) dX1_levelOfRule_5 (by decide) ?_
    refine ex_icmp_gtN (tgt := 38) dX1_levelOfRule_6 (by decide) (by decide) (by decide) (fun hz6 => by exact absurd hz6 (by decide)) (fun hz6 => ?_)
    refine ex_aload_n (i := 0) dX1_levelOfRule_9 rfl rfl ?_
    refine ex_iload_n (i := 1) dX1_levelOfRule_10 rfl rfl ?_
    refine ex_iload_n (i := 3) dX1_levelOfRule_11 rfl rfl ?_
    refine ex_cV (ν := m_Grammar_symbolAt) (a := 1) (ci := 1) (as := [.int (nI (r)), .int (nI (1))]) dX1_levelOfRule_12 ln_Grammar_71 mf_Grammar_symbolAt rfl (l56 (by decide)) rfl rfl np_Grammar_symbolAt rfl rfl ⟨(Nat.le_of_ble_eq_true rfl), (Nat.le_of_ble_eq_true rfl), (Nat.le_of_ble_eq_true rfl), (Nat.le_of_ble_eq_true rfl)⟩ (by decide) ?_
    refine sp_Grammar_symbolAt sc (by omega) (by omega) ?_
    refine ⟨_, rfl, ?_⟩
    refine ex_asN (a := f 1) (hf 1 (by decide)) ?_
    refine ex_cN (ν := m_Works_isTerminal) (as := [.int (nI (f 1))]) dX1_levelOfRule_15 ln_Grammar_74 mf_Works_isTerminal np_Works_isTerminal rfl rfl ⟨(Nat.le_of_ble_eq_true rfl), (Nat.le_of_ble_eq_true rfl), (Nat.le_of_ble_eq_true rfl), (Nat.le_of_ble_eq_true rfl)⟩ (by decide) ?_
    refine sp_Works_isTerminal (by omega) ?_
    refine ⟨_, rfl, ?_⟩
    refine ex_asN (a := 1) (by rw [c1]) ?_
    refine ex_if_eqN (tgt := 32) dX1_levelOfRule_18 (by decide) (by omega) (fun hz18 => by exact absurd hz18 (by decide)) (fun hz18 => ?_)
    refine ex_aload_n (i := 0) dX1_levelOfRule_21 rfl rfl ?_
    refine ex_aload_n (i := 0) dX1_levelOfRule_22 rfl rfl ?_
    refine ex_iload_n (i := 1) dX1_levelOfRule_23 rfl rfl ?_
    refine ex_iload_n (i := 3) dX1_levelOfRule_24 rfl rfl ?_
    refine ex_cV (ν := m_Grammar_symbolAt) (a := 1) (ci := 1) (as := [.int (nI (r)), .int (nI (1))]) dX1_levelOfRule_25 ln_Grammar_71 mf_Grammar_symbolAt rfl (l56 (by decide)) rfl rfl np_Grammar_symbolAt rfl rfl ⟨(Nat.le_of_ble_eq_true rfl), (Nat.le_of_ble_eq_true rfl), (Nat.le_of_ble_eq_true rfl), (Nat.le_of_ble_eq_true rfl)⟩ (by decide) ?_
    refine sp_Grammar_symbolAt sc (by omega) (by omega) ?_
    refine ⟨_, rfl, ?_⟩
    refine ex_asN (a := f 1) (hf 1 (by decide)) ?_
    refine ex_cV (ν := m_Grammar_levelOf) (a := 1) (ci := 1) (as := [.int (nI (f 1))]) dX1_levelOfRule_28 ln_Grammar_78 mf_Grammar_levelOf rfl (l56 (by decide)) rfl rfl np_Grammar_levelOf rfl rfl ⟨(Nat.le_of_ble_eq_true rfl), (Nat.le_of_ble_eq_true rfl), (Nat.le_of_ble_eq_true rfl), (Nat.le_of_ble_eq_true rfl)⟩ (by decide) ?_
    refine sp_Grammar_levelOf (tm7 _ (by assumption)) ?_
    refine ⟨_, rfl, ?_⟩
    refine ex_asN (a := lv (f 1)) (hlv (f 1) (tm7 _ c1)) ?_
    refine ex_istore_n (L' := [some (.ref (1)), some (.int (nI (r))), some (.int (nI (lv (f 1)))), some (.int (nI (1)))]) dX1_levelOfRule_31 (i := 2) rfl (by decide) rfl ?_
    refine ex_iincN (L' := [some (.ref (1)), some (.int (nI (r))), some (.int (nI (lv (f 1)))), some (.int (nI (2)))]) dX1_levelOfRule_32 rfl rfl (by decide) rfl ?_
    refine ex_goto (tgt := 4) dX1_levelOfRule_35 (by decide) ?_
    refine ex_iload_n (i := 3) dX1_levelOfRule_4 rfl rfl ?_
    refine ex_iconst (v := nI 4) dX1_levelOfRule_5 (by decide) ?_
    refine ex_icmp_gtN (tgt := 38) dX1_levelOfRule_6 (by decide) (by decide) (by decide) (fun hz6 => by exact absurd hz6 (by decide)) (fun hz6 => ?_)
    refine ex_aload_n (i := 0) dX1_levelOfRule_9 rfl rfl ?_
    refine ex_iload_n (i := 1) dX1_levelOfRule_10 rfl rfl ?_
    refine ex_iload_n (i := 3) dX1_levelOfRule_11 rfl rfl ?_
    refine ex_cV (ν := m_Grammar_symbolAt) (a := 1) (ci := 1) (as := [.int (nI (r)), .int (nI (2))]) dX1_levelOfRule_12 ln_Grammar_71 mf_Grammar_symbolAt rfl (l56 (by decide)) rfl rfl np_Grammar_symbolAt rfl rfl ⟨(Nat.le_of_ble_eq_true rfl), (Nat.le_of_ble_eq_true rfl), (Nat.le_of_ble_eq_true rfl), (Nat.le_of_ble_eq_true rfl)⟩ (by decide) ?_
    refine sp_Grammar_symbolAt sc (by omega) (by omega) ?_
    refine ⟨_, rfl, ?_⟩
    refine ex_asN (a := f 2) (hf 2 (by decide)) ?_
    refine ex_cN (ν := m_Works_isTerminal) (as := [.int (nI (f 2))]) dX1_levelOfRule_15 ln_Grammar_74 mf_Works_isTerminal np_Works_isTerminal rfl rfl ⟨(Nat.le_of_ble_eq_true rfl), (Nat.le_of_ble_eq_true rfl), (Nat.le_of_ble_eq_true rfl), (Nat.le_of_ble_eq_true rfl)⟩ (by decide) ?_
    refine sp_Works_isTerminal (by omega) ?_
    refine ⟨_, rfl, ?_⟩
    refine ex_asN (a := 0) (by rw [c2]) ?_
    refine ex_if_eqN (tgt := 32) dX1_levelOfRule_18 (by decide) (by omega) (fun hz18 => ?_) (fun hz18 => by exact absurd hz18 (by decide))
    refine ex_iincN (L' := [some (.ref (1)), some (.int (nI (r))), some (.int (nI (lv (f 1)))), some (.int (nI (3)))]) dX1_levelOfRule_32 rfl rfl (by decide) rfl ?_
    refine ex_goto (tgt := 4) dX1_levelOfRule_35 (by decide) ?_
    refine ex_iload_n (i := 3) dX1_levelOfRule_4 rfl rfl ?_
    refine ex_iconst (v := nI 4) dX1_levelOfRule_5 (by decide) ?_
    refine ex_icmp_gtN (tgt := 38) dX1_levelOfRule_6 (by decide) (by decide) (by decide) (fun hz6 => by exact absurd hz6 (by decide)) (fun hz6 => ?_)
    refine ex_aload_n (i := 0) dX1_levelOfRule_9 rfl rfl ?_
    refine ex_iload_n (i := 1) dX1_levelOfRule_10 rfl rfl ?_
    refine ex_iload_n (i := 3) dX1_levelOfRule_11 rfl rfl ?_
    refine ex_cV (ν := m_Grammar_symbolAt) (a := 1) (ci := 1) (as := [.int (nI (r)), .int (nI (3))]) dX1_levelOfRule_12 ln_Grammar_71 mf_Grammar_symbolAt rfl (l56 (by decide)) rfl rfl np_Grammar_symbolAt rfl rfl ⟨(Nat.le_of_ble_eq_true rfl), (Nat.le_of_ble_eq_true rfl), (Nat.le_of_ble_eq_true rfl), (Nat.le_of_ble_eq_true rfl)⟩ (by decide) ?_
    refine sp_Grammar_symbolAt sc (by omega) (by omega) ?_
    refine ⟨_, rfl, ?_⟩
    refine ex_asN (a := f 3) (hf 3 (by decide)) ?_
    refine ex_cN (ν := m_Works_isTerminal) (as := [.int (nI (f 3))]) dX1_levelOfRule_15 ln_Grammar_74 mf_Works_isTerminal np_Works_isTerminal rfl rfl ⟨(Nat.le_of_ble_eq_true rfl), (Nat.le_of_ble_eq_true rfl), (Nat.le_of_ble_eq_true rfl), (Nat.le_of_ble_eq_true rfl)⟩ (by decide) ?_
    refine sp_Works_isTerminal (by omega) ?_
    refine ⟨_, rfl, ?_⟩
    refine ex_asN (a := 0) (by rw [c3]) ?_
    refine ex_if_eqN (tgt := 32) dX1_levelOfRule_18 (by decide) (by omega) (fun hz18 => ?_) (fun hz18 => by exact absurd hz18 (by decide))
    refine ex_iincN (L' := [some (.ref (1)), some (.int (nI (r))), some (.int (nI (lv (f 1)))), some (.int (nI (4)))]) dX1_levelOfRule_32 rfl rfl (by decide) rfl ?_
    refine ex_goto (tgt := 4) dX1_levelOfRule_35 (by decide) ?_
    refine ex_iload_n (i := 3) dX1_levelOfRule_4 rfl rfl ?_
    refine ex_iconst (v := nI 4) dX1_levelOfRule_5 (by decide) ?_
    refine ex_icmp_gtN (tgt := 38) dX1_levelOfRule_6 (by decide) (by decide) (by decide) (fun hz6 => by exact absurd hz6 (by decide)) (fun hz6 => ?_)
    refine ex_aload_n (i := 0) dX1_levelOfRule_9 rfl rfl ?_
    refine ex_iload_n (i := 1) dX1_levelOfRule_10 rfl rfl ?_
    refine ex_iload_n (i := 3) dX1_levelOfRule_11 rfl rfl ?_
    refine ex_cV (ν := m_Grammar_symbolAt) (a := 1) (ci := 1) (as := [.int (nI (r)), .int (nI (4))]) dX1_levelOfRule_12 ln_Grammar_71 mf_Grammar_symbolAt rfl (l56 (by decide)) rfl rfl np_Grammar_symbolAt rfl rfl ⟨(Nat.le_of_ble_eq_true rfl), (Nat.le_of_ble_eq_true rfl), (Nat.le_of_ble_eq_true rfl), (Nat.le_of_ble_eq_true rfl)⟩ (by decide) ?_
    refine sp_Grammar_symbolAt sc (by omega) (by omega) ?_
    refine ⟨_, rfl, ?_⟩
    refine ex_asN (a := f 4) (hf 4 (by decide)) ?_
    refine ex_cN (ν := m_Works_isTerminal) (as := [.int (nI (f 4))]) dX1_levelOfRule_15 ln_Grammar_74 mf_Works_isTerminal np_Works_isTerminal rfl rfl ⟨(Nat.le_of_ble_eq_true rfl), (Nat.le_of_ble_eq_true rfl), (Nat.le_of_ble_eq_true rfl), (Nat.le_of_ble_eq_true rfl)⟩ (by decide) ?_
    refine sp_Works_isTerminal (by omega) ?_
    refine ⟨_, rfl, ?_⟩
    refine ex_asN (a := 1) (by rw [c4]) ?_
    refine ex_if_eqN (tgt := 32) dX1_levelOfRule_18 (by decide) (by omega) (fun hz18 => by exact absurd hz18 (by decide)) (fun hz18 => ?_)
    refine ex_aload_n (i := 0) dX1_levelOfRule_21 rfl rfl ?_
    refine ex_aload_n (i := 0) dX1_levelOfRule_22 rfl rfl ?_
    refine ex_iload_n (i := 1) dX1_levelOfRule_23 rfl rfl ?_
    refine ex_iload_n (i := 3) dX1_levelOfRule_24 rfl rfl ?_
    refine ex_cV (ν := m_Grammar_symbolAt) (a := 1) (ci := 1) (as := [.int (nI (r)), .int (nI (4))]) dX1_levelOfRule_25 ln_Grammar_71 mf_Grammar_symbolAt rfl (l56 (by decide)) rfl rfl np_Grammar_symbolAt rfl rfl ⟨(Nat.le_of_ble_eq_true rfl), (Nat.le_of_ble_eq_true rfl), (Nat.le_of_ble_eq_true rfl), (Nat.le_of_ble_eq_true rfl)⟩ (by decide) ?_
    refine sp_Grammar_symbolAt sc (by omega) (by omega) ?_
    refine ⟨_, rfl, ?_⟩
    refine ex_asN (a := f 4) (hf 4 (by decide)) ?_
    refine ex_cV (ν := m_Grammar_levelOf) (a := 1) (ci := 1) (as := [.int (nI (f 4))]) dX1_levelOfRule_28 ln_Grammar_78 mf_Grammar_levelOf rfl (l56 (by decide)) rfl rfl np_Grammar_levelOf rfl rfl ⟨(Nat.le_of_ble_eq_true rfl), (Nat.le_of_ble_eq_true rfl), (Nat.le_of_ble_eq_true rfl), (Nat.le_of_ble_eq_true rfl)⟩ (by decide) ?_
    refine sp_Grammar_levelOf (tm7 _ (by assumption)) ?_
    refine ⟨_, rfl, ?_⟩
    refine ex_asN (a := lv (f 4)) (hlv (f 4) (tm7 _ c4)) ?_
    refine ex_istore_n (L' := [some (.ref (1)), some (.int (nI (r))), some (.int (nI (lv (f 4)))), some (.int (nI (4)))]) dX1_levelOfRule_31 (i := 2) rfl (by decide) rfl ?_
    refine ex_iincN (L' := [some (.ref (1)), some (.int (nI (r))), some (.int (nI (lv (f 4)))), some (.int (nI (5)))]) dX1_levelOfRule_32 rfl rfl (by decide) rfl ?_
    refine ex_goto (tgt := 4) dX1_levelOfRule_35 (by decide) ?_
    refine ex_iload_n (i := 3) dX1_levelOfRule_4 rfl rfl ?_
    refine ex_iconst (v := nI 4) dX1_levelOfRule_5 (by decide) ?_
    refine ex_icmp_gtN (tgt := 38) dX1_levelOfRule_6 (by decide) (by decide) (by decide) (fun hz6 => ?_) (fun hz6 => by exact absurd hz6 (by decide))
    refine ex_iload_n (i := 2) dX1_levelOfRule_38 rfl rfl ?_
    refine ex_iret dX1_levelOfRule_39 rfl rfl ?_
    simp only [c1, c2, c3, c4, if_true, if_false, if_pos, show ((0 : Nat) = 1) = False from by simp] at hQ; exact hQ
  ·
    refine ex_iconst (v := nI 0) dX1_levelOfRule_0 (by decide) ?_
    refine ex_istore_n (L' := [some (.ref (1)), some (.int (nI (r))), some (.int (nI (0))), none]) dX1_levelOfRule_1 (i := 2) rfl (by decide) rfl ?_
    refine ex_iconst (v := nI 1) dX1_levelOfRule_2 (by decide) ?_
    refine ex_istore_n (L' := [some (.ref (1)), some (.int (nI (r))), some (.int (nI (0))), some (.int (nI (1)))]) dX1_levelOfRule_3 (i := 3) rfl (by decide) rfl ?_
    refine ex_iload_n (i := 3) dX1_levelOfRule_4 rfl rfl ?_
    refine ex_iconst (v := nI 4) dX1_levelOfRule_5 (by decide) ?_
    refine ex_icmp_gtN (tgt := 38) dX1_levelOfRule_6 (by decide) (by decide) (by decide) (fun hz6 => by exact absurd hz6 (by decide)) (fun hz6 => ?_)
    refine ex_aload_n (i := 0) dX1_levelOfRule_9 rfl rfl ?_
    refine ex_iload_n (i := 1) dX1_levelOfRule_10 rfl rfl ?_
    refine ex_iload_n (i := 3) dX1_levelOfRule_11 rfl rfl ?_
    refine ex_cV (ν := m_Grammar_symbolAt) (a := 1) (ci := 1) (as := [.int (nI (r)), .int (nI (1))]) dX1_levelOfRule_12 ln_Grammar_71 mf_Grammar_symbolAt rfl (l56 (by decide)) rfl rfl np_Grammar_symbolAt rfl rfl ⟨(Nat.le_of_ble_eq_true rfl), (Nat.le_of_ble_eq_true rfl), (Nat.le_of_ble_eq_true rfl), (Nat.le_of_ble_eq_true rfl)⟩ (by decide) ?_
    refine sp_Grammar_symbolAt sc (by omega) (by omega) ?_
    refine ⟨_, rfl, ?_⟩
    refine ex_asN (a := f 1) (hf 1 (by decide)) ?_
    refine ex_cN (ν := m_Works_isTerminal) (as := [.int (nI (f 1))]) dX1_levelOfRule_15 ln_Grammar_74 mf_Works_isTerminal np_Works_isTerminal rfl rfl ⟨(Nat.le_of_ble_eq_true rfl), (Nat.le_of_ble_eq_true rfl), (Nat.le_of_ble_eq_true rfl), (Nat.le_of_ble_eq_true rfl)⟩ (by decide) ?_
    refine sp_Works_isTerminal (by omega) ?_
    refine ⟨_, rfl, ?_⟩
    refine ex_asN (a := 1) (by rw [c1]) ?_
    refine ex_if_eqN (tgt := 32) dX1_levelOfRule_18 (by decide) (by omega) (fun hz18 => by exact absurd hz18 (by decide)) (fun hz18 => ?_)
    refine ex_aload_n (i := 0) dX1_levelOfRule_21 rfl rfl ?_
    refine ex_aload_n (i := 0) dX1_levelOfRule_22 rfl rfl ?_
    refine ex_iload_n (i := 1) dX1_levelOfRule_23 rfl rfl ?_
    refine ex_iload_n (i := 3) dX1_levelOfRule_24 rfl rfl ?_
    refine ex_cV (ν := m_Grammar_symbolAt) (a := 1) (ci := 1) (as := [.int (nI (r)), .int (nI (1))]) dX1_levelOfRule_25 ln_Grammar_71 mf_Grammar_symbolAt rfl (l56 (by decide)) rfl rfl np_Grammar_symbolAt rfl rfl ⟨(Nat.le_of_ble_eq_true rfl), (Nat.le_of_ble_eq_true rfl), (Nat.le_of_ble_eq_true rfl), (Nat.le_of_ble_eq_true rfl)⟩ (by decide) ?_
    refine sp_Grammar_symbolAt sc (by omega) (by omega) ?_
    refine ⟨_, rfl, ?_⟩
    refine ex_asN (a := f 1) (hf 1 (by decide)) ?_
    refine ex_cV (ν := m_Grammar_levelOf) (a := 1) (ci := 1) (as := [.int (nI (f 1))]) dX1_levelOfRule_28 ln_Grammar_78 mf_Grammar_levelOf rfl (l56 (by decide)) rfl rfl np_Grammar_levelOf rfl rfl ⟨(Nat.le_of_ble_eq_true rfl), (Nat.le_of_ble_eq_true rfl), (Nat.le_of_ble_eq_true rfl), (Nat.le_of_ble_eq_true rfl)⟩ (by decide) ?_
    refine sp_Grammar_levelOf (tm7 _ (by assumption)) ?_
    refine ⟨_, rfl, ?_⟩
    refine ex_asN (a := lv (f 1)) (hlv (f 1) (tm7 _ c1)) ?_
    refine ex_istore_n (L' := [some (.ref (1)), some (.int (nI (r))), some (.int (nI (lv (f 1)))), some (.int (nI (1)))]) dX1_levelOfRule_31 (i := 2) rfl (by decide) rfl ?_
    refine ex_iincN (L' := [some (.ref (1)), some (.int (nI (r))), some (.int (nI (lv (f 1)))), some (.int (nI (2)))]) dX1_levelOfRule_32 rfl rfl (by decide) rfl ?_
    refine ex_goto (tgt := 4) dX1_levelOfRule_35 (by decide) ?_
    refine ex_iload_n (i := 3) dX1_levelOfRule_4 rfl rfl ?_
    refine ex_iconst (v := nI 4) dX1_levelOfRule_5 (by decide) ?_
    refine ex_icmp_gtN (tgt := 38) dX1_levelOfRule_6 (by decide) (by decide) (by decide) (fun hz6 => by exact absurd hz6 (by decide)) (fun hz6 => ?_)
    refine ex_aload_n (i := 0) dX1_levelOfRule_9 rfl rfl ?_
    refine ex_iload_n (i := 1) dX1_levelOfRule_10 rfl rfl ?_
    refine ex_iload_n (i := 3) dX1_levelOfRule_11 rfl rfl ?_
    refine ex_cV (ν := m_Grammar_symbolAt) (a := 1) (ci := 1) (as := [.int (nI (r)), .int (nI (2))]) dX1_levelOfRule_12 ln_Grammar_71 mf_Grammar_symbolAt rfl (l56 (by decide)) rfl rfl np_Grammar_symbolAt rfl rfl ⟨(Nat.le_of_ble_eq_true rfl), (Nat.le_of_ble_eq_true rfl), (Nat.le_of_ble_eq_true rfl), (Nat.le_of_ble_eq_true rfl)⟩ (by decide) ?_
    refine sp_Grammar_symbolAt sc (by omega) (by omega) ?_
    refine ⟨_, rfl, ?_⟩
    refine ex_asN (a := f 2) (hf 2 (by decide)) ?_
    refine ex_cN (ν := m_Works_isTerminal) (as := [.int (nI (f 2))]) dX1_levelOfRule_15 ln_Grammar_74 mf_Works_isTerminal np_Works_isTerminal rfl rfl ⟨(Nat.le_of_ble_eq_true rfl), (Nat.le_of_ble_eq_true rfl), (Nat.le_of_ble_eq_true rfl), (Nat.le_of_ble_eq_true rfl)⟩ (by decide) ?_
    refine sp_Works_isTerminal (by omega) ?_
    refine ⟨_, rfl, ?_⟩
    refine ex_asN (a := 0) (by rw [c2]) ?_
    refine ex_if_eqN (tgt := 32) dX1_levelOfRule_18 (by decide) (by omega) (fun hz18 => ?_) (fun hz18 => by exact absurd hz18 (by decide))
    refine ex_iincN (L' := [some (.ref (1)), some (.int (nI (r))), some (.int (nI (lv (f 1)))), some (.int (nI (3)))]) dX1_levelOfRule_32 rfl rfl (by decide) rfl ?_
    refine ex_goto (tgt := 4) dX1_levelOfRule_35 (by decide) ?_
    refine ex_iload_n (i := 3) dX1_levelOfRule_4 rfl rfl ?_
    refine ex_iconst (v := nI 4) dX1_levelOfRule_5 (by decide) ?_
    refine ex_icmp_gtN (tgt := 38) dX1_levelOfRule_6 (by decide) (by decide) (by decide) (fun hz6 => by exact absurd hz6 (by decide)) (fun hz6 => ?_)
    refine ex_aload_n (i := 0) dX1_levelOfRule_9 rfl rfl ?_
    refine ex_iload_n (i := 1) dX1_levelOfRule_10 rfl rfl ?_
    refine ex_iload_n (i := 3) dX1_levelOfRule_11 rfl rfl ?_
    refine ex_cV (ν := m_Grammar_symbolAt) (a := 1) (ci := 1) (as := [.int (nI (r)), .int (nI (3))]) dX1_levelOfRule_12 ln_Grammar_71 mf_Grammar_symbolAt rfl (l56 (by decide)) rfl rfl np_Grammar_symbolAt rfl rfl ⟨(Nat.le_of_ble_eq_true rfl), (Nat.le_of_ble_eq_true rfl), (Nat.le_of_ble_eq_true rfl), (Nat.le_of_ble_eq_true rfl)⟩ (by decide) ?_
    refine sp_Grammar_symbolAt sc (by omega) (by omega) ?_
    refine ⟨_, rfl, ?_⟩
    refine ex_asN (a := f 3) (hf 3 (by decide)) ?_
    refine ex_cN (ν := m_Works_isTerminal) (as := [.int (nI (f 3))]) dX1_levelOfRule_15 ln_Grammar_74 mf_Works_isTerminal np_Works_isTerminal rfl rfl ⟨(Nat.le_of_ble_eq_true rfl), (Nat.le_of_ble_eq_true rfl), (Nat.le_of_ble_eq_true rfl), (Nat.le_of_ble_eq_true rfl)⟩ (by decide) ?_
    refine sp_Works_isTerminal (by omega) ?_
    refine ⟨_, rfl, ?_⟩
    refine ex_asN (a := 1) (by rw [c3]) ?_
    refine ex_if_eqN (tgt := 32) dX1_levelOfRule_18 (by decide) (by omega) (fun hz18 => by exact absurd hz18 (by decide)) (fun hz18 => ?_)
    refine ex_aload_n (i := 0) dX1_levelOfRule_21 rfl rfl ?_
    refine ex_aload_n (i := 0) dX1_levelOfRule_22 rfl rfl ?_
    refine ex_iload_n (i := 1) dX1_levelOfRule_23 rfl rfl ?_
    refine ex_iload_n (i := 3) dX1_levelOfRule_24 rfl rfl ?_
    refine ex_cV (ν := m_Grammar_symbolAt) (a := 1) (ci := 1) (as := [.int (nI (r)), .int (nI (3))]) dX1_levelOfRule_25 ln_Grammar_71 mf_Grammar_symbolAt rfl (l56 (by decide)) rfl rfl np_Grammar_symbolAt rfl rfl ⟨(Nat.le_of_ble_eq_true rfl), (Nat.le_of_ble_eq_true rfl), (Nat.le_of_ble_eq_true rfl), (Nat.le_of_ble_eq_true rfl)⟩ (by decide) ?_
    refine sp_Grammar_symbolAt sc (by omega) (by omega) ?_
    refine ⟨_, rfl, ?_⟩
    refine ex_asN (a := f 3) (hf 3 (by decide)) ?_
    refine ex_cV (ν := m_Grammar_levelOf) (a := 1) (ci := 1) (as := [.int (nI (f 3))]) dX1_levelOfRule_28 ln_Grammar_78 mf_Grammar_levelOf rfl (l56 (by decide)) rfl rfl np_Grammar_levelOf rfl rfl ⟨(Nat.le_of_ble_eq_true rfl), (Nat.le_of_ble_eq_true rfl), (Nat.le_of_ble_eq_true rfl), (Nat.le_of_ble_eq_true rfl)⟩ (by decide) ?_
    refine sp_Grammar_levelOf (tm7 _ (by assumption)) ?_
    refine ⟨_, rfl, ?_⟩
    refine ex_asN (a := lv (f 3)) (hlv (f 3) (tm7 _ c3)) ?_
    refine ex_istore_n (L' := [some (.ref (1)), some (.int (nI (r))), some (.int (nI (lv (f 3)))), some (.int (nI (3)))]) dX1_levelOfRule_31 (i := 2) rfl (by decide) rfl ?_
    refine ex_iincN (L' := [some (.ref (1)), some (.int (nI (r))), some (.int (nI (lv (f 3)))), some (.int (nI (4)))]) dX1_levelOfRule_32 rfl rfl (by decide) rfl ?_
    refine ex_goto (tgt := 4) dX1_levelOfRule_35 (by decide) ?_
    refine ex_iload_n (i := 3) dX1_levelOfRule_4 rfl rfl ?_
    refine ex_iconst (v := nI 4) dX1_levelOfRule_5 (by decide) ?_
    refine ex_icmp_gtN (tgt := 38) dX1_levelOfRule_6 (by decide) (by decide) (by decide) (fun hz6 => by exact absurd hz6 (by decide)) (fun hz6 => ?_)
    refine ex_aload_n (i := 0) dX1_levelOfRule_9 rfl rfl ?_
    refine ex_iload_n (i := 1) dX1_levelOfRule_10 rfl rfl ?_
    refine ex_iload_n (i := 3) dX1_levelOfRule_11 rfl rfl ?_
    refine ex_cV (ν := m_Grammar_symbolAt) (a := 1) (ci := 1) (as := [.int (nI (r)), .int (nI (4))]) dX1_levelOfRule_12 ln_Grammar_71 mf_Grammar_symbolAt rfl (l56 (by decide)) rfl rfl np_Grammar_symbolAt rfl rfl ⟨(Nat.le_of_ble_eq_true rfl), (Nat.le_of_ble_eq_true rfl), (Nat.le_of_ble_eq_true rfl), (Nat.le_of_ble_eq_true rfl)⟩ (by decide) ?_
    refine sp_Grammar_symbolAt sc (by omega) (by omega) ?_
    refine ⟨_, rfl, ?_⟩
    refine ex_asN (a := f 4) (hf 4 (by decide)) ?_
    refine ex_cN (ν := m_Works_isTerminal) (as := [.int (nI (f 4))]) dX1_levelOfRule_15 ln_Grammar_74 mf_Works_isTerminal np_Works_isTerminal rfl rfl ⟨(Nat.le_of_ble_eq_true rfl), (Nat.le_of_ble_eq_true rfl), (Nat.le_of_ble_eq_true rfl), (Nat.le_of_ble_eq_true rfl)⟩ (by decide) ?_
    refine sp_Works_isTerminal (by omega) ?_
    refine ⟨_, rfl, ?_⟩
    refine ex_asN (a := 0) (by rw [c4]) ?_
    refine ex_if_eqN (tgt := 32) dX1_levelOfRule_18 (by decide) (by omega) (fun hz18 => ?_) (fun hz18 => by exact absurd hz18 (by decide))
    refine ex_iincN (L' := [some (.ref (1)), some (.int (nI (r))), some (.int (nI (lv (f 3)))), some (.int (nI (5)))]) dX1_levelOfRule_32 rfl rfl (by decide) rfl ?_
    refine ex_goto (tgt := 4) dX1_levelOfRule_35 (by decide) ?_
    refine ex_iload_n (i := 3) dX1_levelOfRule_4 rfl rfl ?_
    refine ex_iconst (v := nI 4) dX1_levelOfRule_5 (by decide) ?_
    refine ex_icmp_gtN (tgt := 38) dX1_levelOfRule_6 (by decide) (by decide) (by decide) (fun hz6 => ?_) (fun hz6 => by exact absurd hz6 (by decide))
    refine ex_iload_n (i := 2) dX1_levelOfRule_38 rfl rfl ?_
    refine ex_iret dX1_levelOfRule_39 rfl rfl ?_
    simp only [c1, c2, c3, c4, if_true, if_false, if_pos, show ((0 : Nat) = 1) = False from by simp] at hQ; exact hQ
  ·
    refine ex_iconst (v := nI 0) dX1_levelOfRule_0 (by decide) ?_
    refine ex_istore_n (L' := [some (.ref (1)), some (.int (nI (r))), some (.int (nI (0))), none]) dX1_levelOfRule_1 (i := 2) rfl (by decide) rfl ?_
    refine ex_iconst (v := nI 1) dX1_levelOfRule_2 (by decide) ?_
    refine ex_istore_n (L' := [some (.ref (1)), some (.int (nI (r))), some (.int (nI (0))), some (.int (nI (1)))]) dX1_levelOfRule_3 (i := 3) rfl (by decide) rfl ?_
    refine ex_iload_n (i := 3) dX1_levelOfRule_4 rfl rfl ?_
    refine ex_iconst (v := nI 4) dX1_levelOfRule_5 (by decide) ?_
    refine ex_icmp_gtN (tgt := 38) dX1_levelOfRule_6 (by decide) (by decide) (by decide) (fun hz6 => by exact absurd hz6 (by decide)) (fun hz6 => ?_)
    refine ex_aload_n (i := 0) dX1_levelOfRule_9 rfl rfl ?_
    refine ex_iload_n (i := 1) dX1_levelOfRule_10 rfl rfl ?_
    refine ex_iload_n (i := 3) dX1_levelOfRule_11 rfl rfl ?_
    refine ex_cV (ν := m_Grammar_symbolAt) (a := 1) (ci := 1) (as := [.int (nI (r)), .int (nI (1))]) dX1_levelOfRule_12 ln_Grammar_71 mf_Grammar_symbolAt rfl (l56 (by decide)) rfl rfl np_Grammar_symbolAt rfl rfl ⟨(Nat.le_of_ble_eq_true rfl), (Nat.le_of_ble_eq_true rfl), (Nat.le_of_ble_eq_true rfl), (Nat.le_of_ble_eq_true rfl)⟩ (by decide) ?_
    refine sp_Grammar_symbolAt sc (by omega) (by omega) ?_
    refine ⟨_, rfl, ?_⟩
    refine ex_asN (a := f 1) (hf 1 (by decide)) ?_
    refine ex_cN (ν := m_Works_isTerminal) (as := [.int (nI (f 1))]) dX1_levelOfRule_15 ln_Grammar_74 mf_Works_isTerminal np_Works_isTerminal rfl rfl ⟨(Nat.le_of_ble_eq_true rfl), (Nat.le_of_ble_eq_true rfl), (Nat.le_of_ble_eq_true rfl), (Nat.le_of_ble_eq_true rfl)⟩ (by decide) ?_
    refine sp_Works_isTerminal (by omega) ?_
    refine ⟨_, rfl, ?_⟩
    refine ex_asN (a := 1) (by rw [c1]) ?_
    refine ex_if_eqN (tgt := 32) dX1_levelOfRule_18 (by decide) (by omega) (fun hz18 => by exact absurd hz18 (by decide)) (fun hz18 => ?_)
    refine ex_aload_n (i := 0) dX1_levelOfRule_21 rfl rfl ?_
    refine ex_aload_n (i := 0) dX1_levelOfRule_22 rfl rfl ?_
    refine ex_iload_n (i := 1) dX1_levelOfRule_23 rfl rfl ?_
    refine ex_iload_n (i := 3) dX1_levelOfRule_24 rfl rfl ?_
    refine ex_cV (ν := m_Grammar_symbolAt) (a := 1) (ci := 1) (as := [.int (nI (r)), .int (nI (1))]) dX1_levelOfRule_25 ln_Grammar_71 mf_Grammar_symbolAt rfl (l56 (by decide)) rfl rfl np_Grammar_symbolAt rfl rfl ⟨(Nat.le_of_ble_eq_true rfl), (Nat.le_of_ble_eq_true rfl), (Nat.le_of_ble_eq_true rfl), (Nat.le_of_ble_eq_true rfl)⟩ (by decide) ?_
    refine sp_Grammar_symbolAt sc (by omega) (by omega) ?_
    refine ⟨_, rfl, ?_⟩
    refine ex_asN (a := f 1) (hf 1 (by decide)) ?_
    refine ex_cV (ν := m_Grammar_levelOf) (a := 1) (ci := 1) (as := [.int (nI (f 1))]) dX1_levelOfRule_28 ln_Grammar_78 mf_Grammar_levelOf rfl (l56 (by decide)) rfl rfl np_Grammar_levelOf rfl rfl ⟨(Nat.le_of_ble_eq_true rfl), (Nat.le_of_ble_eq_true rfl), (Nat.le_of_ble_eq_true rfl), (Nat.le_of_ble_eq_true rfl)⟩ (by decide) ?_
    refine sp_Grammar_levelOf (tm7 _ (by assumption)) ?_
    refine ⟨_, rfl, ?_⟩
    refine ex_asN (a := lv (f 1)) (hlv (f 1) (tm7 _ c1)) ?_
    refine ex_istore_n (L' := [some (.ref (1)), some (.int (nI (r))), some (.int (nI (lv (f 1)))), some (.int (nI (1)))]) dX1_levelOfRule_31 (i := 2) rfl (by decide) rfl ?_
    refine ex_iincN (L' := [some (.ref (1)), some (.int (nI (r))), some (.int (nI (lv (f 1)))), some (.int (nI (2)))]) dX1_levelOfRule_32 rfl rfl (by decide) rfl ?_
    refine ex_goto (tgt := 4) dX1_levelOfRule_35 (by decide) ?_
    refine ex_iload_n (i := 3) dX1_levelOfRule_4 rfl rfl ?_
    refine ex_iconst (v := nI 4) dX1_levelOfRule_5 (by decide) ?_
    refine ex_icmp_gtN (tgt := 38) dX1_levelOfRule_6 (by decide) (by decide) (by decide) (fun hz6 => by exact absurd hz6 (by decide)) (fun hz6 => ?_)
    refine ex_aload_n (i := 0) dX1_levelOfRule_9 rfl rfl ?_
    refine ex_iload_n (i := 1) dX1_levelOfRule_10 rfl rfl ?_
    refine ex_iload_n (i := 3) dX1_levelOfRule_11 rfl rfl ?_
    refine ex_cV (ν := m_Grammar_symbolAt) (a := 1) (ci := 1) (as := [.int (nI (r)), .int (nI (2))]) dX1_levelOfRule_12 ln_Grammar_71 mf_Grammar_symbolAt rfl (l56 (by decide)) rfl rfl np_Grammar_symbolAt rfl rfl ⟨(Nat.le_of_ble_eq_true rfl), (Nat.le_of_ble_eq_true rfl), (Nat.le_of_ble_eq_true rfl), (Nat.le_of_ble_eq_true rfl)⟩ (by decide) ?_
    refine sp_Grammar_symbolAt sc (by omega) (by omega) ?_
    refine ⟨_, rfl, ?_⟩
    refine ex_asN (a := f 2) (hf 2 (by decide)) ?_
    refine ex_cN (ν := m_Works_isTerminal) (as := [.int (nI (f 2))]) dX1_levelOfRule_15 ln_Grammar_74 mf_Works_isTerminal np_Works_isTerminal rfl rfl ⟨(Nat.le_of_ble_eq_true rfl), (Nat.le_of_ble_eq_true rfl), (Nat.le_of_ble_eq_true rfl), (Nat.le_of_ble_eq_true rfl)⟩ (by decide) ?_
    refine sp_Works_isTerminal (by omega) ?_
    refine ⟨_, rfl, ?_⟩
    refine ex_asN (a := 0) (by rw [c2]) ?_
    refine ex_if_eqN (tgt := 32) dX1_levelOfRule_18 (by decide) (by omega) (fun hz18 => ?_) (fun hz18 => by exact absurd hz18 (by decide))
    refine ex_iincN (L' := [some (.ref (1)), some (.int (nI (r))), some (.int (nI (lv (f 1)))), some (.int (nI (3)))]) dX1_levelOfRule_32 rfl rfl (by decide) rfl ?_
    refine ex_goto (tgt := 4) dX1_levelOfRule_35 (by decide) ?_
    refine ex_iload_n (i := 3) dX1_levelOfRule_4 rfl rfl ?_
    refine ex_iconst (v := nI 4) dX1_levelOfRule_5 (by decide) ?_
    refine ex_icmp_gtN (tgt := 38) dX1_levelOfRule_6 (by decide) (by decide) (by decide) (fun hz6 => by exact absurd hz6 (by decide)) (fun hz6 => ?_)
    refine ex_aload_n (i := 0) dX1_levelOfRule_9 rfl rfl ?_
    refine ex_iload_n (i := 1) dX1_levelOfRule_10 rfl rfl ?_
    refine ex_iload_n (i := 3) dX1_levelOfRule_11 rfl rfl ?_
    refine ex_cV (ν := m_Grammar_symbolAt) (a := 1) (ci := 1) (as := [.int (nI (r)), .int (nI (3))]) dX1_levelOfRule_12 ln_Grammar_71 mf_Grammar_symbolAt rfl (l56 (by decide)) rfl rfl np_Grammar_symbolAt rfl rfl ⟨(Nat.le_of_ble_eq_true rfl), (Nat.le_of_ble_eq_true rfl), (Nat.le_of_ble_eq_true rfl), (Nat.le_of_ble_eq_true rfl)⟩ (by decide) ?_
    refine sp_Grammar_symbolAt sc (by omega) (by omega) ?_
    refine ⟨_, rfl, ?_⟩
    refine ex_asN (a := f 3) (hf 3 (by decide)) ?_
    refine ex_cN (ν := m_Works_isTerminal) (as := [.int (nI (f 3))]) dX1_levelOfRule_15 ln_Grammar_74 mf_Works_isTerminal np_Works_isTerminal rfl rfl ⟨(Nat.le_of_ble_eq_true rfl), (Nat.le_of_ble_eq_true rfl), (Nat.le_of_ble_eq_true rfl), (Nat.le_of_ble_eq_true rfl)⟩ (by decide) ?_
    refine sp_Works_isTerminal (by omega) ?_
    refine ⟨_, rfl, ?_⟩
    refine ex_asN (a := 1) (by rw [c3]) ?_
    refine ex_if_eqN (tgt := 32) dX1_levelOfRule_18 (by decide) (by omega) (fun hz18 => by exact absurd hz18 (by decide)) (fun hz18 => ?_)
    refine ex_aload_n (i := 0) dX1_levelOfRule_21 rfl rfl ?_
    refine ex_aload_n (i := 0) dX1_levelOfRule_22 rfl rfl ?_
    refine ex_iload_n (i := 1) dX1_levelOfRule_23 rfl rfl ?_
    refine ex_iload_n (i := 3) dX1_levelOfRule_24 rfl rfl ?_
    refine ex_cV (ν := m_Grammar_symbolAt) (a := 1) (ci := 1) (as := [.int (nI (r)), .int (nI (3))]) dX1_levelOfRule_25 ln_Grammar_71 mf_Grammar_symbolAt rfl (l56 (by decide)) rfl rfl np_Grammar_symbolAt rfl rfl ⟨(Nat.le_of_ble_eq_true rfl), (Nat.le_of_ble_eq_true rfl), (Nat.le_of_ble_eq_true rfl), (Nat.le_of_ble_eq_true rfl)⟩ (by decide) ?_
    refine sp_Grammar_symbolAt sc (by omega) (by omega) ?_
    refine ⟨_, rfl, ?_⟩
    refine ex_asN (a := f 3) (hf 3 (by decide)) ?_
    refine ex_cV (ν := m_Grammar_levelOf) (a := 1) (ci := 1) (as := [.int (nI (f 3))]) dX1_levelOfRule_28 ln_Grammar_78 mf_Grammar_levelOf rfl (l56 (by decide)) rfl rfl np_Grammar_levelOf rfl rfl ⟨(Nat.le_of_ble_eq_true rfl), (Nat.le_of_ble_eq_true rfl), (Nat.le_of_ble_eq_true rfl), (Nat.le_of_ble_eq_true rfl)⟩ (by decide) ?_
    refine sp_Grammar_levelOf (tm7 _ (by assumption)) ?_
    refine ⟨_, rfl, ?_⟩
    refine ex_asN (a := lv (f 3)) (hlv (f 3) (tm7 _ c3)) ?_
    refine ex_istore_n (L' := [some (.ref (1)), some (.int (nI (r))), some (.int (nI (lv (f 3)))), some (.int (nI (3)))]) dX1_levelOfRule_31 (i := 2) rfl (by decide) rfl ?_
    refine ex_iincN (L' := [some (.ref (1)), some (.int (nI (r))), some (.int (nI (lv (f 3)))), some (.int (nI (4)))]) dX1_levelOfRule_32 rfl rfl (by decide) rfl ?_
    refine ex_goto (tgt := 4) dX1_levelOfRule_35 (by decide) ?_
    refine ex_iload_n (i := 3) dX1_levelOfRule_4 rfl rfl ?_
    refine ex_iconst (v := nI 4) dX1_levelOfRule_5 (by decide) ?_
    refine ex_icmp_gtN (tgt := 38) dX1_levelOfRule_6 (by decide) (by decide) (by decide) (fun hz6 => by exact absurd hz6 (by decide)) (fun hz6 => ?_)
    refine ex_aload_n (i := 0) dX1_levelOfRule_9 rfl rfl ?_
    refine ex_iload_n (i := 1) dX1_levelOfRule_10 rfl rfl ?_
    refine ex_iload_n (i := 3) dX1_levelOfRule_11 rfl rfl ?_
    refine ex_cV (ν := m_Grammar_symbolAt) (a := 1) (ci := 1) (as := [.int (nI (r)), .int (nI (4))]) dX1_levelOfRule_12 ln_Grammar_71 mf_Grammar_symbolAt rfl (l56 (by decide)) rfl rfl np_Grammar_symbolAt rfl rfl ⟨(Nat.le_of_ble_eq_true rfl), (Nat.le_of_ble_eq_true rfl), (Nat.le_of_ble_eq_true rfl), (Nat.le_of_ble_eq_true rfl)⟩ (by decide) ?_
    refine sp_Grammar_symbolAt sc (by omega) (by omega) ?_
    refine ⟨_, rfl, ?_⟩
    refine ex_asN (a := f 4) (hf 4 (by decide)) ?_
    refine ex_cN (ν := m_Works_isTerminal) (as := [.int (nI (f 4))]) dX1_levelOfRule_15 ln_Grammar_74 mf_Works_isTerminal np_Works_isTerminal rfl rfl ⟨(Nat.le_of_ble_eq_true rfl), (Nat.le_of_ble_eq_true rfl), (Nat.le_of_ble_eq_true rfl), (Nat.le_of_ble_eq_true rfl)⟩ (by decide) ?_
    refine sp_Works_isTerminal (by omega) ?_
    refine ⟨_, rfl, ?_⟩
    refine ex_asN (a := 1) (by rw [c4]) ?_
    refine ex_if_eqN (tgt := 32) dX1_levelOfRule_18 (by decide) (by omega) (fun hz18 => by exact absurd hz18 (by decide)) (fun hz18 => ?_)
    refine ex_aload_n (i := 0) dX1_levelOfRule_21 rfl rfl ?_
    refine ex_aload_n (i := 0) dX1_levelOfRule_22 rfl rfl ?_
    refine ex_iload_n (i := 1) dX1_levelOfRule_23 rfl rfl ?_
    refine ex_iload_n (i := 3) dX1_levelOfRule_24 rfl rfl ?_
    refine ex_cV (ν := m_Grammar_symbolAt) (a := 1) (ci := 1) (as := [.int (nI (r)), .int (nI (4))]) dX1_levelOfRule_25 ln_Grammar_71 mf_Grammar_symbolAt rfl (l56 (by decide)) rfl rfl np_Grammar_symbolAt rfl rfl ⟨(Nat.le_of_ble_eq_true rfl), (Nat.le_of_ble_eq_true rfl), (Nat.le_of_ble_eq_true rfl), (Nat.le_of_ble_eq_true rfl)⟩ (by decide) ?_
    refine sp_Grammar_symbolAt sc (by omega) (by omega) ?_
    refine ⟨_, rfl, ?_⟩
    refine ex_asN (a := f 4) (hf 4 (by decide)) ?_
    refine ex_cV (ν := m_Grammar_levelOf) (a := 1) (ci := 1) (as := [.int (nI (f 4))]) dX1_levelOfRule_28 ln_Grammar_78 mf_Grammar_levelOf rfl (l56 (by decide)) rfl rfl np_Grammar_levelOf rfl rfl ⟨(Nat.le_of_ble_eq_true rfl), (Nat.le_of_ble_eq_true rfl), (Nat.le_of_ble_eq_true rfl), (Nat.le_of_ble_eq_true rfl)⟩ (by decide) ?_
    refine sp_Grammar_levelOf (tm7 _ (by assumption)) ?_
    refine ⟨_, rfl, ?_⟩
    refine ex_asN (a := lv (f 4)) (hlv (f 4) (tm7 _ c4)) ?_
    refine ex_istore_n (L' := [some (.ref (1)), some (.int (nI (r))), some (.int (nI (lv (f 4)))), some (.int (nI (4)))]) dX1_levelOfRule_31 (i := 2) rfl (by decide) rfl ?_
    refine ex_iincN (L' := [some (.ref (1)), some (.int (nI (r))), some (.int (nI (lv (f 4)))), some (.int (nI (5)))]) dX1_levelOfRule_32 rfl rfl (by decide) rfl ?_
    refine ex_goto (tgt := 4) dX1_levelOfRule_35 (by decide) ?_
    refine ex_iload_n (i := 3) dX1_levelOfRule_4 rfl rfl ?_
    refine ex_iconst (v := nI 4) dX1_levelOfRule_5 (by decide) ?_
    refine ex_icmp_gtN (tgt := 38) dX1_levelOfRule_6 (by decide) (by decide) (by decide) (fun hz6 => ?_) (fun hz6 => by exact absurd hz6 (by decide))
    refine ex_iload_n (i := 2) dX1_levelOfRule_38 rfl rfl ?_
    refine ex_iret dX1_levelOfRule_39 rfl rfl ?_
    simp only [c1, c2, c3, c4, if_true, if_false, if_pos, show ((0 : Nat) = 1) = False from by simp] at hQ; exact hQ
  ·
    refine ex_iconst (v := nI 0) dX1_levelOfRule_0 (by decide) ?_
    refine ex_istore_n (L' := [some (.ref (1)), some (.int (nI (r))), some (.int (nI (0))), none]) dX1_levelOfRule_1 (i := 2) rfl (by decide) rfl ?_
    refine ex_iconst (v := nI 1) dX1_levelOfRule_2 (by decide) ?_
    refine ex_istore_n (L' := [some (.ref (1)), some (.int (nI (r))), some (.int (nI (0))), some (.int (nI (1)))]) dX1_levelOfRule_3 (i := 3) rfl (by decide) rfl ?_
    refine ex_iload_n (i := 3) dX1_levelOfRule_4 rfl rfl ?_
    refine ex_iconst (v := nI 4) dX1_levelOfRule_5 (by decide) ?_
    refine ex_icmp_gtN (tgt := 38) dX1_levelOfRule_6 (by decide) (by decide) (by decide) (fun hz6 => by exact absurd hz6 (by decide)) (fun hz6 => ?_)
    refine ex_aload_n (i := 0) dX1_levelOfRule_9 rfl rfl ?_
    refine ex_iload_n (i := 1) dX1_levelOfRule_10 rfl rfl ?_
    refine ex_iload_n (i := 3) dX1_levelOfRule_11 rfl rfl ?_
    refine ex_cV (ν := m_Grammar_symbolAt) (a := 1) (ci := 1) (as := [.int (nI (r)), .int (nI (1))]) dX1_levelOfRule_12 ln_Grammar_71 mf_Grammar_symbolAt rfl (l56 (by decide)) rfl rfl np_Grammar_symbolAt rfl rfl ⟨(Nat.le_of_ble_eq_true rfl), (Nat.le_of_ble_eq_true rfl), (Nat.le_of_ble_eq_true rfl), (Nat.le_of_ble_eq_true rfl)⟩ (by decide) ?_
    refine sp_Grammar_symbolAt sc (by omega) (by omega) ?_
    refine ⟨_, rfl, ?_⟩
    refine ex_asN (a := f 1) (hf 1 (by decide)) ?_
    refine ex_cN (ν := m_Works_isTerminal) (as := [.int (nI (f 1))]) dX1_levelOfRule_15 ln_Grammar_74 mf_Works_isTerminal np_Works_isTerminal rfl rfl ⟨(Nat.le_of_ble_eq_true rfl), (Nat.le_of_ble_eq_true rfl), (Nat.le_of_ble_eq_true rfl), (Nat.le_of_ble_eq_true rfl)⟩ (by decide) ?_
    refine sp_Works_isTerminal (by omega) ?_
    refine ⟨_, rfl, ?_⟩
    refine ex_asN (a := 1) (by rw [c1]) ?_
    refine ex_if_eqN (tgt := 32) dX1_levelOfRule_18 (by decide) (by omega) (fun hz18 => by exact absurd hz18 (by decide)) (fun hz18 => ?_)
    refine ex_aload_n (i := 0) dX1_levelOfRule_21 rfl rfl ?_
    refine ex_aload_n (i := 0) dX1_levelOfRule_22 rfl rfl ?_
    refine ex_iload_n (i := 1) dX1_levelOfRule_23 rfl rfl ?_
    refine ex_iload_n (i := 3) dX1_levelOfRule_24 rfl rfl ?_
    refine ex_cV (ν := m_Grammar_symbolAt) (a := 1) (ci := 1) (as := [.int (nI (r)), .int (nI (1))]) dX1_levelOfRule_25 ln_Grammar_71 mf_Grammar_symbolAt rfl (l56 (by decide)) rfl rfl np_Grammar_symbolAt rfl rfl ⟨(Nat.le_of_ble_eq_true rfl), (Nat.le_of_ble_eq_true rfl), (Nat.le_of_ble_eq_true rfl), (Nat.le_of_ble_eq_true rfl)⟩ (by decide) ?_
    refine sp_Grammar_symbolAt sc (by omega) (by omega) ?_
    refine ⟨_, rfl, ?_⟩
    refine ex_asN (a := f 1) (hf 1 (by decide)) ?_
    refine ex_cV (ν := m_Grammar_levelOf) (a := 1) (ci := 1) (as := [.int (nI (f 1))]) dX1_levelOfRule_28 ln_Grammar_78 mf_Grammar_levelOf rfl (l56 (by decide)) rfl rfl np_Grammar_levelOf rfl rfl ⟨(Nat.le_of_ble_eq_true rfl), (Nat.le_of_ble_eq_true rfl), (Nat.le_of_ble_eq_true rfl), (Nat.le_of_ble_eq_true rfl)⟩ (by decide) ?_
    refine sp_Grammar_levelOf (tm7 _ (by assumption)) ?_
    refine ⟨_, rfl, ?_⟩
    refine ex_asN (a := lv (f 1)) (hlv (f 1) (tm7 _ c1)) ?_
    refine ex_istore_n (L' := [some (.ref (1)), some (.int (nI (r))), some (.int (nI (lv (f 1)))), some (.int (nI (1)))]) dX1_levelOfRule_31 (i := 2) rfl (by decide) rfl ?_
    refine ex_iincN (L' := [some (.ref (1)), some (.int (nI (r))), some (.int (nI (lv (f 1)))), some (.int (nI (2)))]) dX1_levelOfRule_32 rfl rfl (by decide) rfl ?_
    refine ex_goto (tgt := 4) dX1_levelOfRule_35 (by decide) ?_
    refine ex_iload_n (i := 3) dX1_levelOfRule_4 rfl rfl ?_
    refine ex_iconst (v := nI 4) dX1_levelOfRule_5 (by decide) ?_
    refine ex_icmp_gtN (tgt := 38) dX1_levelOfRule_6 (by decide) (by decide) (by decide) (fun hz6 => by exact absurd hz6 (by decide)) (fun hz6 => ?_)
    refine ex_aload_n (i := 0) dX1_levelOfRule_9 rfl rfl ?_
    refine ex_iload_n (i := 1) dX1_levelOfRule_10 rfl rfl ?_
    refine ex_iload_n (i := 3) dX1_levelOfRule_11 rfl rfl ?_
    refine ex_cV (ν := m_Grammar_symbolAt) (a := 1) (ci := 1) (as := [.int (nI (r)), .int (nI (2))]) dX1_levelOfRule_12 ln_Grammar_71 mf_Grammar_symbolAt rfl (l56 (by decide)) rfl rfl np_Grammar_symbolAt rfl rfl ⟨(Nat.le_of_ble_eq_true rfl), (Nat.le_of_ble_eq_true rfl), (Nat.le_of_ble_eq_true rfl), (Nat.le_of_ble_eq_true rfl)⟩ (by decide) ?_
    refine sp_Grammar_symbolAt sc (by omega) (by omega) ?_
    refine ⟨_, rfl, ?_⟩
    refine ex_asN (a := f 2) (hf 2 (by decide)) ?_
    refine ex_cN (ν := m_Works_isTerminal) (as := [.int (nI (f 2))]) dX1_levelOfRule_15 ln_Grammar_74 mf_Works_isTerminal np_Works_isTerminal rfl rfl ⟨(Nat.le_of_ble_eq_true rfl), (Nat.le_of_ble_eq_true rfl), (Nat.le_of_ble_eq_true rfl), (Nat.le_of_ble_eq_true rfl)⟩ (by decide) ?_
    refine sp_Works_isTerminal (by omega) ?_
    refine ⟨_, rfl, ?_⟩
    refine ex_asN (a := 1) (by rw [c2]) ?_
    refine ex_if_eqN (tgt := 32) dX1_levelOfRule_18 (by decide) (by omega) (fun hz18 => by exact absurd hz18 (by decide)) (fun hz18 => ?_)
    refine ex_aload_n (i := 0) dX1_levelOfRule_21 rfl rfl ?_
    refine ex_aload_n (i := 0) dX1_levelOfRule_22 rfl rfl ?_
    refine ex_iload_n (i := 1) dX1_levelOfRule_23 rfl rfl ?_
    refine ex_iload_n (i := 3) dX1_levelOfRule_24 rfl rfl ?_
    refine ex_cV (ν := m_Grammar_symbolAt) (a := 1) (ci := 1) (as := [.int (nI (r)), .int (nI (2))]) dX1_levelOfRule_25 ln_Grammar_71 mf_Grammar_symbolAt rfl (l56 (by decide)) rfl rfl np_Grammar_symbolAt rfl rfl ⟨(Nat.le_of_ble_eq_true rfl), (Nat.le_of_ble_eq_true rfl), (Nat.le_of_ble_eq_true rfl), (Nat.le_of_ble_eq_true rfl)⟩ (by decide) ?_
    refine sp_Grammar_symbolAt sc (by omega) (by omega) ?_
    refine ⟨_, rfl, ?_⟩
    refine ex_asN (a := f 2) (hf 2 (by decide)) ?_
    refine ex_cV (ν := m_Grammar_levelOf) (a := 1) (ci := 1) (as := [.int (nI (f 2))]) dX1_levelOfRule_28 ln_Grammar_78 mf_Grammar_levelOf rfl (l56 (by decide)) rfl rfl np_Grammar_levelOf rfl rfl ⟨(Nat.le_of_ble_eq_true rfl), (Nat.le_of_ble_eq_true rfl), (Nat.le_of_ble_eq_true rfl), (Nat.le_of_ble_eq_true rfl)⟩ (by decide) ?_
    refine sp_Grammar_levelOf (tm7 _ (by assumption)) ?_
    refine ⟨_, rfl, ?_⟩
    refine ex_asN (a := lv (f 2)) (hlv (f 2) (tm7 _ c2)) ?_
    refine ex_istore_n (L' := [some (.ref (1)), some (.int (nI (r))), some (.int (nI (lv (f 2)))), some (.int (nI (2)))]) dX1_levelOfRule_31 (i := 2) rfl (by decide) rfl ?_
    refine ex_iincN (L' := [some (.ref (1)), some (.int (nI (r))), some (.int (nI (lv (f 2)))), some (.int (nI (3)))]) dX1_levelOfRule_32 rfl rfl (by decide) rfl ?_
    refine ex_goto (tgt := 4) dX1_levelOfRule_35 (by decide) ?_
    refine ex_iload_n (i := 3) dX1_levelOfRule_4 rfl rfl ?_
    refine ex_iconst (v := nI 4) dX1_levelOfRule_5 (by decide) ?_
    refine ex_icmp_gtN (tgt := 38) dX1_levelOfRule_6 (by decide) (by decide) (by decide) (fun hz6 => by exact absurd hz6 (by decide)) (fun hz6 => ?_)
    refine ex_aload_n (i := 0) dX1_levelOfRule_9 rfl rfl ?_
    refine ex_iload_n (i := 1) dX1_levelOfRule_10 rfl rfl ?_
    refine ex_iload_n (i := 3) dX1_levelOfRule_11 rfl rfl ?_
    refine ex_cV (ν := m_Grammar_symbolAt) (a := 1) (ci := 1) (as := [.int (nI (r)), .int (nI (3))]) dX1_levelOfRule_12 ln_Grammar_71 mf_Grammar_symbolAt rfl (l56 (by decide)) rfl rfl np_Grammar_symbolAt rfl rfl ⟨(Nat.le_of_ble_eq_true rfl), (Nat.le_of_ble_eq_true rfl), (Nat.le_of_ble_eq_true rfl), (Nat.le_of_ble_eq_true rfl)⟩ (by decide) ?_
    refine sp_Grammar_symbolAt sc (by omega) (by omega) ?_
    refine ⟨_, rfl, ?_⟩
    refine ex_asN (a := f 3) (hf 3 (by decide)) ?_
    refine ex_cN (ν := m_Works_isTerminal) (as := [.int (nI (f 3))]) dX1_levelOfRule_15 ln_Grammar_74 mf_Works_isTerminal np_Works_isTerminal rfl rfl ⟨(Nat.le_of_ble_eq_true rfl), (Nat.le_of_ble_eq_true rfl), (Nat.le_of_ble_eq_true rfl), (Nat.le_of_ble_eq_true rfl)⟩ (by decide) ?_
    refine sp_Works_isTerminal (by omega) ?_
    refine ⟨_, rfl, ?_⟩
    refine ex_asN (a := 0) (by rw [c3]) ?_
    refine ex_if_eqN (tgt := 32) dX1_levelOfRule_18 (by decide) (by omega) (fun hz18 => ?_) (fun hz18 => by exact absurd hz18 (by decide))
    refine ex_iincN (L' := [some (.ref (1)), some (.int (nI (r))), some (.int (nI (lv (f 2)))), some (.int (nI (4)))]) dX1_levelOfRule_32 rfl rfl (by decide) rfl ?_
    refine ex_goto (tgt := 4) dX1_levelOfRule_35 (by decide) ?_
    refine ex_iload_n (i := 3) dX1_levelOfRule_4 rfl rfl ?_
    refine ex_iconst (v := nI 4) dX1_levelOfRule_5 (by decide) ?_
    refine ex_icmp_gtN (tgt := 38) dX1_levelOfRule_6 (by decide) (by decide) (by decide) (fun hz6 => by exact absurd hz6 (by decide)) (fun hz6 => ?_)
    refine ex_aload_n (i := 0) dX1_levelOfRule_9 rfl rfl ?_
    refine ex_iload_n (i := 1) dX1_levelOfRule_10 rfl rfl ?_
    refine ex_iload_n (i := 3) dX1_levelOfRule_11 rfl rfl ?_
    refine ex_cV (ν := m_Grammar_symbolAt) (a := 1) (ci := 1) (as := [.int (nI (r)), .int (nI (4))]) dX1_levelOfRule_12 ln_Grammar_71 mf_Grammar_symbolAt rfl (l56 (by decide)) rfl rfl np_Grammar_symbolAt rfl rfl ⟨(Nat.le_of_ble_eq_true rfl), (Nat.le_of_ble_eq_true rfl), (Nat.le_of_ble_eq_true rfl), (Nat.le_of_ble_eq_true rfl)⟩ (by decide) ?_
    refine sp_Grammar_symbolAt sc (by omega) (by omega) ?_
    refine ⟨_, rfl, ?_⟩
    refine ex_asN (a := f 4) (hf 4 (by decide)) ?_
    refine ex_cN (ν := m_Works_isTerminal) (as := [.int (nI (f 4))]) dX1_levelOfRule_15 ln_Grammar_74 mf_Works_isTerminal np_Works_isTerminal rfl rfl ⟨(Nat.le_of_ble_eq_true rfl), (Nat.le_of_ble_eq_true rfl), (Nat.le_of_ble_eq_true rfl), (Nat.le_of_ble_eq_true rfl)⟩ (by decide) ?_
    refine sp_Works_isTerminal (by omega) ?_
    refine ⟨_, rfl, ?_⟩
    refine ex_asN (a := 0) (by rw [c4]) ?_
    refine ex_if_eqN (tgt := 32) dX1_levelOfRule_18 (by decide) (by omega) (fun hz18 => ?_) (fun hz18 => by exact absurd hz18 (by decide))
    refine ex_iincN (L' := [some (.ref (1)), some (.int (nI (r))), some (.int (nI (lv (f 2)))), some (.int (nI (5)))]) dX1_levelOfRule_32 rfl rfl (by decide) rfl ?_
    refine ex_goto (tgt := 4) dX1_levelOfRule_35 (by decide) ?_
    refine ex_iload_n (i := 3) dX1_levelOfRule_4 rfl rfl ?_
    refine ex_iconst (v := nI 4) dX1_levelOfRule_5 (by decide) ?_
    refine ex_icmp_gtN (tgt := 38) dX1_levelOfRule_6 (by decide) (by decide) (by decide) (fun hz6 => ?_) (fun hz6 => by exact absurd hz6 (by decide))
    refine ex_iload_n (i := 2) dX1_levelOfRule_38 rfl rfl ?_
    refine ex_iret dX1_levelOfRule_39 rfl rfl ?_
    simp only [c1, c2, c3, c4, if_true, if_false, if_pos, show ((0 : Nat) = 1) = False from by simp] at hQ; exact hQ
  ·
    refine ex_iconst (v := nI 0) dX1_levelOfRule_0 (by decide) ?_
    refine ex_istore_n (L' := [some (.ref (1)), some (.int (nI (r))), some (.int (nI (0))), none]) dX1_levelOfRule_1 (i := 2) rfl (by decide) rfl ?_
    refine ex_iconst (v := nI 1) dX1_levelOfRule_2 (by decide) ?_
    refine ex_istore_n (L' := [some (.ref (1)), some (.int (nI (r))), some (.int (nI (0))), some (.int (nI (1)))]) dX1_levelOfRule_3 (i := 3) rfl (by decide) rfl ?_
    refine ex_iload_n (i := 3) dX1_levelOfRule_4 rfl rfl ?_
    refine ex_iconst (v := nI 4) dX1_levelOfRule_5 (by decide) ?_
    refine ex_icmp_gtN (tgt := 38) dX1_levelOfRule_6 (by decide) (by decide) (by decide) (fun hz6 => by exact absurd hz6 (by decide)) (fun hz6 => ?_)
    refine ex_aload_n (i := 0) dX1_levelOfRule_9 rfl rfl ?_
    refine ex_iload_n (i := 1) dX1_levelOfRule_10 rfl rfl ?_
    refine ex_iload_n (i := 3) dX1_levelOfRule_11 rfl rfl ?_
    refine ex_cV (ν := m_Grammar_symbolAt) (a := 1) (ci := 1) (as := [.int (nI (r)), .int (nI (1))]) dX1_levelOfRule_12 ln_Grammar_71 mf_Grammar_symbolAt rfl (l56 (by decide)) rfl rfl np_Grammar_symbolAt rfl rfl ⟨(Nat.le_of_ble_eq_true rfl), (Nat.le_of_ble_eq_true rfl), (Nat.le_of_ble_eq_true rfl), (Nat.le_of_ble_eq_true rfl)⟩ (by decide) ?_
    refine sp_Grammar_symbolAt sc (by omega) (by omega) ?_
    refine ⟨_, rfl, ?_⟩
    refine ex_asN (a := f 1) (hf 1 (by decide)) ?_
    refine ex_cN (ν := m_Works_isTerminal) (as := [.int (nI (f 1))]) dX1_levelOfRule_15 ln_Grammar_74 mf_Works_isTerminal np_Works_isTerminal rfl rfl ⟨(Nat.le_of_ble_eq_true rfl), (Nat.le_of_ble_eq_true rfl), (Nat.le_of_ble_eq_true rfl), (Nat.le_of_ble_eq_true rfl)⟩ (by decide) ?_
    refine sp_Works_isTerminal (by omega) ?_
    refine ⟨_, rfl, ?_⟩
    refine ex_asN (a := 1) (by rw [c1]) ?_
    refine ex_if_eqN (tgt := 32) dX1_levelOfRule_18 (by decide) (by omega) (fun hz18 => by exact absurd hz18 (by decide)) (fun hz18 => ?_)
    refine ex_aload_n (i := 0) dX1_levelOfRule_21 rfl rfl ?_
    refine ex_aload_n (i := 0) dX1_levelOfRule_22 rfl rfl ?_
    refine ex_iload_n (i := 1) dX1_levelOfRule_23 rfl rfl ?_
    refine ex_iload_n (i := 3) dX1_levelOfRule_24 rfl rfl ?_
    refine ex_cV (ν := m_Grammar_symbolAt) (a := 1) (ci := 1) (as := [.int (nI (r)), .int (nI (1))]) dX1_levelOfRule_25 ln_Grammar_71 mf_Grammar_symbolAt rfl (l56 (by decide)) rfl rfl np_Grammar_symbolAt rfl rfl ⟨(Nat.le_of_ble_eq_true rfl), (Nat.le_of_ble_eq_true rfl), (Nat.le_of_ble_eq_true rfl), (Nat.le_of_ble_eq_true rfl)⟩ (by decide) ?_
    refine sp_Grammar_symbolAt sc (by omega) (by omega) ?_
    refine ⟨_, rfl, ?_⟩
    refine ex_asN (a := f 1) (hf 1 (by decide)) ?_
    refine ex_cV (ν := m_Grammar_levelOf) (a := 1) (ci := 1) (as := [.int (nI (f 1))]) dX1_levelOfRule_28 ln_Grammar_78 mf_Grammar_levelOf rfl (l56 (by decide)) rfl rfl np_Grammar_levelOf rfl rfl ⟨(Nat.le_of_ble_eq_true rfl), (Nat.le_of_ble_eq_true rfl), (Nat.le_of_ble_eq_true rfl), (Nat.le_of_ble_eq_true rfl)⟩ (by decide) ?_
    refine sp_Grammar_levelOf (tm7 _ (by assumption)) ?_
    refine ⟨_, rfl, ?_⟩
    refine ex_asN (a := lv (f 1)) (hlv (f 1) (tm7 _ c1)) ?_
    refine ex_istore_n (L' := [some (.ref (1)), some (.int (nI (r))), some (.int (nI (lv (f 1)))), some (.int (nI (1)))]) dX1_levelOfRule_31 (i := 2) rfl (by decide) rfl ?_
    refine ex_iincN (L' := [some (.ref (1)), some (.int (nI (r))), some (.int (nI (lv (f 1)))), some (.int (nI (2)))]) dX1_levelOfRule_32 rfl rfl (by decide) rfl ?_
    refine ex_goto (tgt := 4) dX1_levelOfRule_35 (by decide) ?_
    refine ex_iload_n (i := 3) dX1_levelOfRule_4 rfl rfl ?_
    refine ex_iconst (v := nI 4) dX1_levelOfRule_5 (by decide) ?_
    refine ex_icmp_gtN (tgt := 38) dX1_levelOfRule_6 (by decide) (by decide) (by decide) (fun hz6 => by exact absurd hz6 (by decide)) (fun hz6 => ?_)
    refine ex_aload_n (i := 0) dX1_levelOfRule_9 rfl rfl ?_
    refine ex_iload_n (i := 1) dX1_levelOfRule_10 rfl rfl ?_
    refine ex_iload_n (i := 3) dX1_levelOfRule_11 rfl rfl ?_
    refine ex_cV (ν := m_Grammar_symbolAt) (a := 1) (ci := 1) (as := [.int (nI (r)), .int (nI (2))]) dX1_levelOfRule_12 ln_Grammar_71 mf_Grammar_symbolAt rfl (l56 (by decide)) rfl rfl np_Grammar_symbolAt rfl rfl ⟨(Nat.le_of_ble_eq_true rfl), (Nat.le_of_ble_eq_true rfl), (Nat.le_of_ble_eq_true rfl), (Nat.le_of_ble_eq_true rfl)⟩ (by decide) ?_
    refine sp_Grammar_symbolAt sc (by omega) (by omega) ?_
    refine ⟨_, rfl, ?_⟩
    refine ex_asN (a := f 2) (hf 2 (by decide)) ?_
    refine ex_cN (ν := m_Works_isTerminal) (as := [.int (nI (f 2))]) dX1_levelOfRule_15 ln_Grammar_74 mf_Works_isTerminal np_Works_isTerminal rfl rfl ⟨(Nat.le_of_ble_eq_true rfl), (Nat.le_of_ble_eq_true rfl), (Nat.le_of_ble_eq_true rfl), (Nat.le_of_ble_eq_true rfl)⟩ (by decide) ?_
    refine sp_Works_isTerminal (by omega) ?_
    refine ⟨_, rfl, ?_⟩
    refine ex_asN (a := 1) (by rw [c2]) ?_
    refine ex_if_eqN (tgt := 32) dX1_levelOfRule_18 (by decide) (by omega) (fun hz18 => by exact absurd hz18 (by decide)) (fun hz18 => ?_)
    refine ex_aload_n (i := 0) dX1_levelOfRule_21 rfl rfl ?_
    refine ex_aload_n (i := 0) dX1_levelOfRule_22 rfl rfl ?_
    refine ex_iload_n (i := 1) dX1_levelOfRule_23 rfl rfl ?_
    refine ex_iload_n (i := 3) dX1_levelOfRule_24 rfl rfl ?_
    refine ex_cV (ν := m_Grammar_symbolAt) (a := 1) (ci := 1) (as := [.int (nI (r)), .int (nI (2))]) dX1_levelOfRule_25 ln_Grammar_71 mf_Grammar_symbolAt rfl (l56 (by decide)) rfl rfl np_Grammar_symbolAt rfl rfl ⟨(Nat.le_of_ble_eq_true rfl), (Nat.le_of_ble_eq_true rfl), (Nat.le_of_ble_eq_true rfl), (Nat.le_of_ble_eq_true rfl)⟩ (by decide) ?_
    refine sp_Grammar_symbolAt sc (by omega) (by omega) ?_
    refine ⟨_, rfl, ?_⟩
    refine ex_asN (a := f 2) (hf 2 (by decide)) ?_
    refine ex_cV (ν := m_Grammar_levelOf) (a := 1) (ci := 1) (as := [.int (nI (f 2))]) dX1_levelOfRule_28 ln_Grammar_78 mf_Grammar_levelOf rfl (l56 (by decide)) rfl rfl np_Grammar_levelOf rfl rfl ⟨(Nat.le_of_ble_eq_true rfl), (Nat.le_of_ble_eq_true rfl), (Nat.le_of_ble_eq_true rfl), (Nat.le_of_ble_eq_true rfl)⟩ (by decide) ?_
    refine sp_Grammar_levelOf (tm7 _ (by assumption)) ?_
    refine ⟨_, rfl, ?_⟩
    refine ex_asN (a := lv (f 2)) (hlv (f 2) (tm7 _ c2)) ?_
    refine ex_istore_n (L' := [some (.ref (1)), some (.int (nI (r))), some (.int (nI (lv (f 2)))), some (.int (nI (2)))]) dX1_levelOfRule_31 (i := 2) rfl (by decide) rfl ?_
    refine ex_iincN (L' := [some (.ref (1)), some (.int (nI (r))), some (.int (nI (lv (f 2)))), some (.int (nI (3)))]) dX1_levelOfRule_32 rfl rfl (by decide) rfl ?_
    refine ex_goto (tgt := 4) dX1_levelOfRule_35 (by decide) ?_
    refine ex_iload_n (i := 3) dX1_levelOfRule_4 rfl rfl ?_
    refine ex_iconst (v := nI 4) dX1_levelOfRule_5 (by decide) ?_
    refine ex_icmp_gtN (tgt := 38) dX1_levelOfRule_6 (by decide) (by decide) (by decide) (fun hz6 => by exact absurd hz6 (by decide)) (fun hz6 => ?_)
    refine ex_aload_n (i := 0) dX1_levelOfRule_9 rfl rfl ?_
    refine ex_iload_n (i := 1) dX1_levelOfRule_10 rfl rfl ?_
    refine ex_iload_n (i := 3) dX1_levelOfRule_11 rfl rfl ?_
    refine ex_cV (ν := m_Grammar_symbolAt) (a := 1) (ci := 1) (as := [.int (nI (r)), .int (nI (3))]) dX1_levelOfRule_12 ln_Grammar_71 mf_Grammar_symbolAt rfl (l56 (by decide)) rfl rfl np_Grammar_symbolAt rfl rfl ⟨(Nat.le_of_ble_eq_true rfl), (Nat.le_of_ble_eq_true rfl), (Nat.le_of_ble_eq_true rfl), (Nat.le_of_ble_eq_true rfl)⟩ (by decide) ?_
    refine sp_Grammar_symbolAt sc (by omega) (by omega) ?_
    refine ⟨_, rfl, ?_⟩
    refine ex_asN (a := f 3) (hf 3 (by decide)) ?_
    refine ex_cN (ν := m_Works_isTerminal) (as := [.int (nI (f 3))]) dX1_levelOfRule_15 ln_Grammar_74 mf_Works_isTerminal np_Works_isTerminal rfl rfl ⟨(Nat.le_of_ble_eq_true rfl), (Nat.le_of_ble_eq_true rfl), (Nat.le_of_ble_eq_true rfl), (Nat.le_of_ble_eq_true rfl)⟩ (by decide) ?_
    refine sp_Works_isTerminal (by omega) ?_
    refine ⟨_, rfl, ?_⟩
    refine ex_asN (a := 0) (by rw [c3]) ?_
    refine ex_if_eqN (tgt := 32) dX1_levelOfRule_18 (by decide) (by omega) (fun hz18 => ?_) (fun hz18 => by exact absurd hz18 (by decide))
    refine ex_iincN (L' := [some (.ref (1)), some (.int (nI (r))), some (.int (nI (lv (f 2)))), some (.int (nI (4)))]) dX1_levelOfRule_32 rfl rfl (by decide) rfl ?_
    refine ex_goto (tgt := 4) dX1_levelOfRule_35 (by decide) ?_
    refine ex_iload_n (i := 3) dX1_levelOfRule_4 rfl rfl ?_
    refine ex_iconst (v := nI 4) dX1_levelOfRule_5 (by decide) ?_
    refine ex_icmp_gtN (tgt := 38) dX1_levelOfRule_6 (by decide) (by decide) (by decide) (fun hz6 => by exact absurd hz6 (by decide)) (fun hz6 => ?_)
    refine ex_aload_n (i := 0) dX1_levelOfRule_9 rfl rfl ?_
    refine ex_iload_n (i := 1) dX1_levelOfRule_10 rfl rfl ?_
    refine ex_iload_n (i := 3) dX1_levelOfRule_11 rfl rfl ?_
    refine ex_cV (ν := m_Grammar_symbolAt) (a := 1) (ci := 1) (as := [.int (nI (r)), .int (nI (4))]) dX1_levelOfRule_12 ln_Grammar_71 mf_Grammar_symbolAt rfl (l56 (by decide)) rfl rfl np_Grammar_symbolAt rfl rfl ⟨(Nat.le_of_ble_eq_true rfl), (Nat.le_of_ble_eq_true rfl), (Nat.le_of_ble_eq_true rfl), (Nat.le_of_ble_eq_true rfl)⟩ (by decide) ?_
    refine sp_Grammar_symbolAt sc (by omega) (by omega) ?_
    refine ⟨_, rfl, ?_⟩
    refine ex_asN (a := f 4) (hf 4 (by decide)) ?_
    refine ex_cN (ν := m_Works_isTerminal) (as := [.int (nI (f 4))]) dX1_levelOfRule_15 ln_Grammar_74 mf_Works_isTerminal np_Works_isTerminal rfl rfl ⟨(Nat.le_of_ble_eq_true rfl), (Nat.le_of_ble_eq_true rfl), (Nat.le_of_ble_eq_true rfl), (Nat.le_of_ble_eq_true rfl)⟩ (by decide) ?_
    refine sp_Works_isTerminal (by omega) ?_
    refine ⟨_, rfl, ?_⟩
    refine ex_asN (a := 1) (by rw [c4]) ?_
    refine ex_if_eqN (tgt := 32) dX1_levelOfRule_18 (by decide) (by omega) (fun hz18 => by exact absurd hz18 (by decide)) (fun hz18 => ?_)
    refine ex_aload_n (i := 0) dX1_levelOfRule_21 rfl rfl ?_
    refine ex_aload_n (i := 0) dX1_levelOfRule_22 rfl rfl ?_
    refine ex_iload_n (i := 1) dX1_levelOfRule_23 rfl rfl ?_
    refine ex_iload_n (i := 3) dX1_levelOfRule_24 rfl rfl ?_
    refine ex_cV (ν := m_Grammar_symbolAt) (a := 1) (ci := 1) (as := [.int (nI (r)), .int (nI (4))]) dX1_levelOfRule_25 ln_Grammar_71 mf_Grammar_symbolAt rfl (l56 (by decide)) rfl rfl np_Grammar_symbolAt rfl rfl ⟨(Nat.le_of_ble_eq_true rfl), (Nat.le_of_ble_eq_true rfl), (Nat.le_of_ble_eq_true rfl), (Nat.le_of_ble_eq_true rfl)⟩ (by decide) ?_
    refine sp_Grammar_symbolAt sc (by omega) (by omega) ?_
    refine ⟨_, rfl, ?_⟩
    refine ex_asN (a := f 4) (hf 4 (by decide)) ?_
    refine ex_cV (ν := m_Grammar_levelOf) (a := 1) (ci := 1) (as := [.int (nI (f 4))]) dX1_levelOfRule_28 ln_Grammar_78 mf_Grammar_levelOf rfl (l56 (by decide)) rfl rfl np_Grammar_levelOf rfl rfl ⟨(Nat.le_of_ble_eq_true rfl), (Nat.le_of_ble_eq_true rfl), (Nat.le_of_ble_eq_true rfl), (Nat.le_of_ble_eq_true rfl)⟩ (by decide) ?_
    refine sp_Grammar_levelOf (tm7 _ (by assumption)) ?_
    refine ⟨_, rfl, ?_⟩
    refine ex_asN (a := lv (f 4)) (hlv (f 4) (tm7 _ c4)) ?_
    refine ex_istore_n (L' := [some (.ref (1)), some (.int (nI (r))), some (.int (nI (lv (f 4)))), some (.int (nI (4)))]) dX1_levelOfRule_31 (i := 2) rfl (by decide) rfl ?_
    refine ex_iincN (L' := [some (.ref (1)), some (.int (nI (r))), some (.int (nI (lv (f 4)))), some (.int (nI (5)))]) dX1_levelOfRule_32 rfl rfl (by decide) rfl ?_
    refine ex_goto (tgt := 4) dX1_levelOfRule_35 (by decide) ?_
    refine ex_iload_n (i := 3) dX1_levelOfRule_4 rfl rfl ?_
    refine ex_iconst (v := nI 4) dX1_levelOfRule_5 (by decide) ?_
    refine ex_icmp_gtN (tgt := 38) dX1_levelOfRule_6 (by decide) (by decide) (by decide) (fun hz6 => ?_) (fun hz6 => by exact absurd hz6 (by decide))
    refine ex_iload_n (i := 2) dX1_levelOfRule_38 rfl rfl ?_
    refine ex_iret dX1_levelOfRule_39 rfl rfl ?_
    simp only [c1, c2, c3, c4, if_true, if_false, if_pos, show ((0 : Nat) = 1) = False from by simp] at hQ; exact hQ
  ·
    refine ex_iconst (v := nI 0) dX1_levelOfRule_0 (by decide) ?_
    refine ex_istore_n (L' := [some (.ref (1)), some (.int (nI (r))), some (.int (nI (0))), none]) dX1_levelOfRule_1 (i := 2) rfl (by decide) rfl ?_
    refine ex_iconst (v := nI 1) dX1_levelOfRule_2 (by decide) ?_
    refine ex_istore_n (L' := [some (.ref (1)), some (.int (nI (r))), some (.int (nI (0))), some (.int (nI (1)))]) dX1_levelOfRule_3 (i := 3) rfl (by decide) rfl ?_
    refine ex_iload_n (i := 3) dX1_levelOfRule_4 rfl rfl ?_
    refine ex_iconst (v := nI 4) dX1_levelOfRule_5 (by decide) ?_
    refine ex_icmp_gtN (tgt := 38) dX1_levelOfRule_6 (by decide) (by decide) (by decide) (fun hz6 => by exact absurd hz6 (by decide)) (fun hz6 => ?_)
    refine ex_aload_n (i := 0) dX1_levelOfRule_9 rfl rfl ?_
    refine ex_iload_n (i := 1) dX1_levelOfRule_10 rfl rfl ?_
    refine ex_iload_n (i := 3) dX1_levelOfRule_11 rfl rfl ?_
    refine ex_cV (ν := m_Grammar_symbolAt) (a := 1) (ci := 1) (as := [.int (nI (r)), .int (nI (1))]) dX1_levelOfRule_12 ln_Grammar_71 mf_Grammar_symbolAt rfl (l56 (by decide)) rfl rfl np_Grammar_symbolAt rfl rfl ⟨(Nat.le_of_ble_eq_true rfl), (Nat.le_of_ble_eq_true rfl), (Nat.le_of_ble_eq_true rfl), (Nat.le_of_ble_eq_true rfl)⟩ (by decide) ?_
    refine sp_Grammar_symbolAt sc (by omega) (by omega) ?_
    refine ⟨_, rfl, ?_⟩
    refine ex_asN (a := f 1) (hf 1 (by decide)) ?_
    refine ex_cN (ν := m_Works_isTerminal) (as := [.int (nI (f 1))]) dX1_levelOfRule_15 ln_Grammar_74 mf_Works_isTerminal np_Works_isTerminal rfl rfl ⟨(Nat.le_of_ble_eq_true rfl), (Nat.le_of_ble_eq_true rfl), (Nat.le_of_ble_eq_true rfl), (Nat.le_of_ble_eq_true rfl)⟩ (by decide) ?_
    refine sp_Works_isTerminal (by omega) ?_
    refine ⟨_, rfl, ?_⟩
    refine ex_asN (a := 1) (by rw [c1]) ?_
    refine ex_if_eqN (tgt := 32) dX1_levelOfRule_18 (by decide) (by omega) (fun hz18 => by exact absurd hz18 (by decide)) (fun hz18 => ?_)
    refine ex_aload_n (i := 0) dX1_levelOfRule_21 rfl rfl ?_
    refine ex_aload_n (i := 0) dX1_levelOfRule_22 rfl rfl ?_
    refine ex_iload_n (i := 1) dX1_levelOfRule_23 rfl rfl ?_
    refine ex_iload_n (i := 3) dX1_levelOfRule_24 rfl rfl ?_
    refine ex_cV (ν := m_Grammar_symbolAt) (a := 1) (ci := 1) (as := [.int (nI (r)), .int (nI (1))]) dX1_levelOfRule_25 ln_Grammar_71 mf_Grammar_symbolAt rfl (l56 (by decide)) rfl rfl np_Grammar_symbolAt rfl rfl ⟨(Nat.le_of_ble_eq_true rfl), (Nat.le_of_ble_eq_true rfl), (Nat.le_of_ble_eq_true rfl), (Nat.le_of_ble_eq_true rfl)⟩ (by decide) ?_
    refine sp_Grammar_symbolAt sc (by omega) (by omega) ?_
    refine ⟨_, rfl, ?_⟩
    refine ex_asN (a := f 1) (hf 1 (by decide)) ?_
    refine ex_cV (ν := m_Grammar_levelOf) (a := 1) (ci := 1) (as := [.int (nI (f 1))]) dX1_levelOfRule_28 ln_Grammar_78 mf_Grammar_levelOf rfl (l56 (by decide)) rfl rfl np_Grammar_levelOf rfl rfl ⟨(Nat.le_of_ble_eq_true rfl), (Nat.le_of_ble_eq_true rfl), (Nat.le_of_ble_eq_true rfl), (Nat.le_of_ble_eq_true rfl)⟩ (by decide) ?_
    refine sp_Grammar_levelOf (tm7 _ (by assumption)) ?_
    refine ⟨_, rfl, ?_⟩
    refine ex_asN (a := lv (f 1)) (hlv (f 1) (tm7 _ c1)) ?_
    refine ex_istore_n (L' := [some (.ref (1)), some (.int (nI (r))), some (.int (nI (lv (f 1)))), some (.int (nI (1)))]) dX1_levelOfRule_31 (i := 2) rfl (by decide) rfl ?_
    refine ex_iincN (L' := [some (.ref (1)), some (.int (nI (r))), some (.int (nI (lv (f 1)))), some (.int (nI (2)))]) dX1_levelOfRule_32 rfl rfl (by decide) rfl ?_
    refine ex_goto (tgt := 4) dX1_levelOfRule_35 (by decide) ?_
    refine ex_iload_n (i := 3) dX1_levelOfRule_4 rfl rfl ?_
    refine ex_iconst (v := nI 4) dX1_levelOfRule_5 (by decide) ?_
    refine ex_icmp_gtN (tgt := 38) dX1_levelOfRule_6 (by decide) (by decide) (by decide) (fun hz6 => by exact absurd hz6 (by decide)) (fun hz6 => ?_)
    refine ex_aload_n (i := 0) dX1_levelOfRule_9 rfl rfl ?_
    refine ex_iload_n (i := 1) dX1_levelOfRule_10 rfl rfl ?_
    refine ex_iload_n (i := 3) dX1_levelOfRule_11 rfl rfl ?_
    refine ex_cV (ν := m_Grammar_symbolAt) (a := 1) (ci := 1) (as := [.int (nI (r)), .int (nI (2))]) dX1_levelOfRule_12 ln_Grammar_71 mf_Grammar_symbolAt rfl (l56 (by decide)) rfl rfl np_Grammar_symbolAt rfl rfl ⟨(Nat.le_of_ble_eq_true rfl), (Nat.le_of_ble_eq_true rfl), (Nat.le_of_ble_eq_true rfl), (Nat.le_of_ble_eq_true rfl)⟩ (by decide) ?_
    refine sp_Grammar_symbolAt sc (by omega) (by omega) ?_
    refine ⟨_, rfl, ?_⟩
    refine ex_asN (a := f 2) (hf 2 (by decide)) ?_
    refine ex_cN (ν := m_Works_isTerminal) (as := [.int (nI (f 2))]) dX1_levelOfRule_15 ln_Grammar_74 mf_Works_isTerminal np_Works_isTerminal rfl rfl ⟨(Nat.le_of_ble_eq_true rfl), (Nat.le_of_ble_eq_true rfl), (Nat.le_of_ble_eq_true rfl), (Nat.le_of_ble_eq_true rfl)⟩ (by decide) ?_
    refine sp_Works_isTerminal (by omega) ?_
    refine ⟨_, rfl, ?_⟩
    refine ex_asN (a := 1) (by rw [c2]) ?_
    refine ex_if_eqN (tgt := 32) dX1_levelOfRule_18 (by decide) (by omega) (fun hz18 => by exact absurd hz18 (by decide)) (fun hz18 => ?_)
    refine ex_aload_n (i := 0) dX1_levelOfRule_21 rfl rfl ?_
    refine ex_aload_n (i := 0) dX1_levelOfRule_22 rfl rfl ?_
    refine ex_iload_n (i := 1) dX1_levelOfRule_23 rfl rfl ?_
    refine ex_iload_n (i := 3) dX1_levelOfRule_24 rfl rfl ?_
    refine ex_cV (ν := m_Grammar_symbolAt) (a := 1) (ci := 1) (as := [.int (nI (r)), .int (nI (2))]) dX1_levelOfRule_25 ln_Grammar_71 mf_Grammar_symbolAt rfl (l56 (by decide)) rfl rfl np_Grammar_symbolAt rfl rfl ⟨(Nat.le_of_ble_eq_true rfl), (Nat.le_of_ble_eq_true rfl), (Nat.le_of_ble_eq_true rfl), (Nat.le_of_ble_eq_true rfl)⟩ (by decide) ?_
    refine sp_Grammar_symbolAt sc (by omega) (by omega) ?_
    refine ⟨_, rfl, ?_⟩
    refine ex_asN (a := f 2) (hf 2 (by decide)) ?_
    refine ex_cV (ν := m_Grammar_levelOf) (a := 1) (ci := 1) (as := [.int (nI (f 2))]) dX1_levelOfRule_28 ln_Grammar_78 mf_Grammar_levelOf rfl (l56 (by decide)) rfl rfl np_Grammar_levelOf rfl rfl ⟨(Nat.le_of_ble_eq_true rfl), (Nat.le_of_ble_eq_true rfl), (Nat.le_of_ble_eq_true rfl), (Nat.le_of_ble_eq_true rfl)⟩ (by decide) ?_
    refine sp_Grammar_levelOf (tm7 _ (by assumption)) ?_
    refine ⟨_, rfl, ?_⟩
    refine ex_asN (a := lv (f 2)) (hlv (f 2) (tm7 _ c2)) ?_
    refine ex_istore_n (L' := [some (.ref (1)), some (.int (nI (r))), some (.int (nI (lv (f 2)))), some (.int (nI (2)))]) dX1_levelOfRule_31 (i := 2) rfl (by decide) rfl ?_
    refine ex_iincN (L' := [some (.ref (1)), some (.int (nI (r))), some (.int (nI (lv (f 2)))), some (.int (nI (3)))]) dX1_levelOfRule_32 rfl rfl (by decide) rfl ?_
    refine ex_goto (tgt := 4) dX1_levelOfRule_35 (by decide) ?_
    refine ex_iload_n (i := 3) dX1_levelOfRule_4 rfl rfl ?_
    refine ex_iconst (v := nI 4) dX1_levelOfRule_5 (by decide) ?_
    refine ex_icmp_gtN (tgt := 38) dX1_levelOfRule_6 (by decide) (by decide) (by decide) (fun hz6 => by exact absurd hz6 (by decide)) (fun hz6 => ?_)
    refine ex_aload_n (i := 0) dX1_levelOfRule_9 rfl rfl ?_
    refine ex_iload_n (i := 1) dX1_levelOfRule_10 rfl rfl ?_
    refine ex_iload_n (i := 3) dX1_levelOfRule_11 rfl rfl ?_
    refine ex_cV (ν := m_Grammar_symbolAt) (a := 1) (ci := 1) (as := [.int (nI (r)), .int (nI (3))]) dX1_levelOfRule_12 ln_Grammar_71 mf_Grammar_symbolAt rfl (l56 (by decide)) rfl rfl np_Grammar_symbolAt rfl rfl ⟨(Nat.le_of_ble_eq_true rfl), (Nat.le_of_ble_eq_true rfl), (Nat.le_of_ble_eq_true rfl), (Nat.le_of_ble_eq_true rfl)⟩ (by decide) ?_
    refine sp_Grammar_symbolAt sc (by omega) (by omega) ?_
    refine ⟨_, rfl, ?_⟩
    refine ex_asN (a := f 3) (hf 3 (by decide)) ?_
    refine ex_cN (ν := m_Works_isTerminal) (as := [.int (nI (f 3))]) dX1_levelOfRule_15 ln_Grammar_74 mf_Works_isTerminal np_Works_isTerminal rfl rfl ⟨(Nat.le_of_ble_eq_true rfl), (Nat.le_of_ble_eq_true rfl), (Nat.le_of_ble_eq_true rfl), (Nat.le_of_ble_eq_true rfl)⟩ (by decide) ?_
    refine sp_Works_isTerminal (by omega) ?_
    refine ⟨_, rfl, ?_⟩
    refine ex_asN (a := 1) (by rw [c3]) ?_
    refine ex_if_eqN (tgt := 32) dX1_levelOfRule_18 (by decide) (by omega) (fun hz18 => by exact absurd hz18 (by decide)) (fun hz18 => ?_)
    refine ex_aload_n (i := 0) dX1_levelOfRule_21 rfl rfl ?_
    refine ex_aload_n (i := 0) dX1_levelOfRule_22 rfl rfl ?_
    refine ex_iload_n (i := 1) dX1_levelOfRule_23 rfl rfl ?_
    refine ex_iload_n (i := 3) dX1_levelOfRule_24 rfl rfl ?_
    refine ex_cV (ν := m_Grammar_symbolAt) (a := 1) (ci := 1) (as := [.int (nI (r)), .int (nI (3))]) dX1_levelOfRule_25 ln_Grammar_71 mf_Grammar_symbolAt rfl (l56 (by decide)) rfl rfl np_Grammar_symbolAt rfl rfl ⟨(Nat.le_of_ble_eq_true rfl), (Nat.le_of_ble_eq_true rfl), (Nat.le_of_ble_eq_true rfl), (Nat.le_of_ble_eq_true rfl)⟩ (by decide) ?_
    refine sp_Grammar_symbolAt sc (by omega) (by omega) ?_
    refine ⟨_, rfl, ?_⟩
    refine ex_asN (a := f 3) (hf 3 (by decide)) ?_
    refine ex_cV (ν := m_Grammar_levelOf) (a := 1) (ci := 1) (as := [.int (nI (f 3))]) dX1_levelOfRule_28 ln_Grammar_78 mf_Grammar_levelOf rfl (l56 (by decide)) rfl rfl np_Grammar_levelOf rfl rfl ⟨(Nat.le_of_ble_eq_true rfl), (Nat.le_of_ble_eq_true rfl), (Nat.le_of_ble_eq_true rfl), (Nat.le_of_ble_eq_true rfl)⟩ (by decide) ?_
    refine sp_Grammar_levelOf (tm7 _ (by assumption)) ?_
    refine ⟨_, rfl, ?_⟩
    refine ex_asN (a := lv (f 3)) (hlv (f 3) (tm7 _ c3)) ?_
    refine ex_istore_n (L' := [some (.ref (1)), some (.int (nI (r))), some (.int (nI (lv (f 3)))), some (.int (nI (3)))]) dX1_levelOfRule_31 (i := 2) rfl (by decide) rfl ?_
    refine ex_iincN (L' := [some (.ref (1)), some (.int (nI (r))), some (.int (nI (lv (f 3)))), some (.int (nI (4)))]) dX1_levelOfRule_32 rfl rfl (by decide) rfl ?_
    refine ex_goto (tgt := 4) dX1_levelOfRule_35 (by decide) ?_
    refine ex_iload_n (i := 3) dX1_levelOfRule_4 rfl rfl ?_
    refine ex_iconst (v := nI 4) dX1_levelOfRule_5 (by decide) ?_
    refine ex_icmp_gtN (tgt := 38) dX1_levelOfRule_6 (by decide) (by decide) (by decide) (fun hz6 => by exact absurd hz6 (by decide)) (fun hz6 => ?_)
    refine ex_aload_n (i := 0) dX1_levelOfRule_9 rfl rfl ?_
    refine ex_iload_n (i := 1) dX1_levelOfRule_10 rfl rfl ?_
    refine ex_iload_n (i := 3) dX1_levelOfRule_11 rfl rfl ?_
    refine ex_cV (ν := m_Grammar_symbolAt) (a := 1) (ci := 1) (as := [.int (nI (r)), .int (nI (4))]) dX1_levelOfRule_12 ln_Grammar_71 mf_Grammar_symbolAt rfl (l56 (by decide)) rfl rfl np_Grammar_symbolAt rfl rfl ⟨(Nat.le_of_ble_eq_true rfl), (Nat.le_of_ble_eq_true rfl), (Nat.le_of_ble_eq_true rfl), (Nat.le_of_ble_eq_true rfl)⟩ (by decide) ?_
    refine sp_Grammar_symbolAt sc (by omega) (by omega) ?_
    refine ⟨_, rfl, ?_⟩
    refine ex_asN (a := f 4) (hf 4 (by decide)) ?_
    refine ex_cN (ν := m_Works_isTerminal) (as := [.int (nI (f 4))]) dX1_levelOfRule_15 ln_Grammar_74 mf_Works_isTerminal np_Works_isTerminal rfl rfl ⟨(Nat.le_of_ble_eq_true rfl), (Nat.le_of_ble_eq_true rfl), (Nat.le_of_ble_eq_true rfl), (Nat.le_of_ble_eq_true rfl)⟩ (by decide) ?_
    refine sp_Works_isTerminal (by omega) ?_
    refine ⟨_, rfl, ?_⟩
    refine ex_asN (a := 0) (by rw [c4]) ?_
    refine ex_if_eqN (tgt := 32) dX1_levelOfRule_18 (by decide) (by omega) (fun hz18 => ?_) (fun hz18 => by exact absurd hz18 (by decide))
    refine ex_iincN (L' := [some (.ref (1)), some (.int (nI (r))), some (.int (nI (lv (f 3)))), some (.int (nI (5)))]) dX1_levelOfRule_32 rfl rfl (by decide) rfl ?_
    refine ex_goto (tgt := 4) dX1_levelOfRule_35 (by decide) ?_
    refine ex_iload_n (i := 3) dX1_levelOfRule_4 rfl rfl ?_
    refine ex_iconst (v := nI 4) dX1_levelOfRule_5 (by decide) ?_
    refine ex_icmp_gtN (tgt := 38) dX1_levelOfRule_6 (by decide) (by decide) (by decide) (fun hz6 => ?_) (fun hz6 => by exact absurd hz6 (by decide))
    refine ex_iload_n (i := 2) dX1_levelOfRule_38 rfl rfl ?_
    refine ex_iret dX1_levelOfRule_39 rfl rfl ?_
    simp only [c1, c2, c3, c4, if_true, if_false, if_pos, show ((0 : Nat) = 1) = False from by simp] at hQ; exact hQ
  ·
    refine ex_iconst (v := nI 0) dX1_levelOfRule_0 (by decide) ?_
    refine ex_istore_n (L' := [some (.ref (1)), some (.int (nI (r))), some (.int (nI (0))), none]) dX1_levelOfRule_1 (i := 2) rfl (by decide) rfl ?_
    refine ex_iconst (v := nI 1) dX1_levelOfRule_2 (by decide) ?_
    refine ex_istore_n (L' := [some (.ref (1)), some (.int (nI (r))), some (.int (nI (0))), some (.int (nI (1)))]) dX1_levelOfRule_3 (i := 3) rfl (by decide) rfl ?_
    refine ex_iload_n (i := 3) dX1_levelOfRule_4 rfl rfl ?_
    refine ex_iconst (v := nI 4) dX1_levelOfRule_5 (by decide) ?_
    refine ex_icmp_gtN (tgt := 38) dX1_levelOfRule_6 (by decide) (by decide) (by decide) (fun hz6 => by exact absurd hz6 (by decide)) (fun hz6 => ?_)
    refine ex_aload_n (i := 0) dX1_levelOfRule_9 rfl rfl ?_
    refine ex_iload_n (i := 1) dX1_levelOfRule_10 rfl rfl ?_
    refine ex_iload_n (i := 3) dX1_levelOfRule_11 rfl rfl ?_
    refine ex_cV (ν := m_Grammar_symbolAt) (a := 1) (ci := 1) (as := [.int (nI (r)), .int (nI (1))]) dX1_levelOfRule_12 ln_Grammar_71 mf_Grammar_symbolAt rfl (l56 (by decide)) rfl rfl np_Grammar_symbolAt rfl rfl ⟨(Nat.le_of_ble_eq_true rfl), (Nat.le_of_ble_eq_true rfl), (Nat.le_of_ble_eq_true rfl), (Nat.le_of_ble_eq_true rfl)⟩ (by decide) ?_
    refine sp_Grammar_symbolAt sc (by omega) (by omega) ?_
    refine ⟨_, rfl, ?_⟩
    refine ex_asN (a := f 1) (hf 1 (by decide)) ?_
    refine ex_cN (ν := m_Works_isTerminal) (as := [.int (nI (f 1))]) dX1_levelOfRule_15 ln_Grammar_74 mf_Works_isTerminal np_Works_isTerminal rfl rfl ⟨(Nat.le_of_ble_eq_true rfl), (Nat.le_of_ble_eq_true rfl), (Nat.le_of_ble_eq_true rfl), (Nat.le_of_ble_eq_true rfl)⟩ (by decide) ?_
    refine sp_Works_isTerminal (by omega) ?_
    refine ⟨_, rfl, ?_⟩
    refine ex_asN (a := 1) (by rw [c1]) ?_
    refine ex_if_eqN (tgt := 32) dX1_levelOfRule_18 (by decide) (by omega) (fun hz18 => by exact absurd hz18 (by decide)) (fun hz18 => ?_)
    refine ex_aload_n (i := 0) dX1_levelOfRule_21 rfl rfl ?_
    refine ex_aload_n (i := 0) dX1_levelOfRule_22 rfl rfl ?_
    refine ex_iload_n (i := 1) dX1_levelOfRule_23 rfl rfl ?_
    refine ex_iload_n (i := 3) dX1_levelOfRule_24 rfl rfl ?_
    refine ex_cV (ν := m_Grammar_symbolAt) (a := 1) (ci := 1) (as := [.int (nI (r)), .int (nI (1))]) dX1_levelOfRule_25 ln_Grammar_71 mf_Grammar_symbolAt rfl (l56 (by decide)) rfl rfl np_Grammar_symbolAt rfl rfl ⟨(Nat.le_of_ble_eq_true rfl), (Nat.le_of_ble_eq_true rfl), (Nat.le_of_ble_eq_true rfl), (Nat.le_of_ble_eq_true rfl)⟩ (by decide) ?_
    refine sp_Grammar_symbolAt sc (by omega) (by omega) ?_
    refine ⟨_, rfl, ?_⟩
    refine ex_asN (a := f 1) (hf 1 (by decide)) ?_
    refine ex_cV (ν := m_Grammar_levelOf) (a := 1) (ci := 1) (as := [.int (nI (f 1))]) dX1_levelOfRule_28 ln_Grammar_78 mf_Grammar_levelOf rfl (l56 (by decide)) rfl rfl np_Grammar_levelOf rfl rfl ⟨(Nat.le_of_ble_eq_true rfl), (Nat.le_of_ble_eq_true rfl), (Nat.le_of_ble_eq_true rfl), (Nat.le_of_ble_eq_true rfl)⟩ (by decide) ?_
    refine sp_Grammar_levelOf (tm7 _ (by assumption)) ?_
    refine ⟨_, rfl, ?_⟩
    refine ex_asN (a := lv (f 1)) (hlv (f 1) (tm7 _ c1)) ?_
    refine ex_istore_n (L' := [some (.ref (1)), some (.int (nI (r))), some (.int (nI (lv (f 1)))), some (.int (nI (1)))]) dX1_levelOfRule_31 (i := 2) rfl (by decide) rfl ?_
    refine ex_iincN (L' := [some (.ref (1)), some (.int (nI (r))), some (.int (nI (lv (f 1)))), some (.int (nI (2)))]) dX1_levelOfRule_32 rfl rfl (by decide) rfl ?_
    refine ex_goto (tgt := 4) dX1_levelOfRule_35 (by decide) ?_
    refine ex_iload_n (i := 3) dX1_levelOfRule_4 rfl rfl ?_
    refine ex_iconst (v := nI 4) dX1_levelOfRule_5 (by decide) ?_
    refine ex_icmp_gtN (tgt := 38) dX1_levelOfRule_6 (by decide) (by decide) (by decide) (fun hz6 => by exact absurd hz6 (by decide)) (fun hz6 => ?_)
    refine ex_aload_n (i := 0) dX1_levelOfRule_9 rfl rfl ?_
    refine ex_iload_n (i := 1) dX1_levelOfRule_10 rfl rfl ?_
    refine ex_iload_n (i := 3) dX1_levelOfRule_11 rfl rfl ?_
    refine ex_cV (ν := m_Grammar_symbolAt) (a := 1) (ci := 1) (as := [.int (nI (r)), .int (nI (2))]) dX1_levelOfRule_12 ln_Grammar_71 mf_Grammar_symbolAt rfl (l56 (by decide)) rfl rfl np_Grammar_symbolAt rfl rfl ⟨(Nat.le_of_ble_eq_true rfl), (Nat.le_of_ble_eq_true rfl), (Nat.le_of_ble_eq_true rfl), (Nat.le_of_ble_eq_true rfl)⟩ (by decide) ?_
    refine sp_Grammar_symbolAt sc (by omega) (by omega) ?_
    refine ⟨_, rfl, ?_⟩
    refine ex_asN (a := f 2) (hf 2 (by decide)) ?_
    refine ex_cN (ν := m_Works_isTerminal) (as := [.int (nI (f 2))]) dX1_levelOfRule_15 ln_Grammar_74 mf_Works_isTerminal np_Works_isTerminal rfl rfl ⟨(Nat.le_of_ble_eq_true rfl), (Nat.le_of_ble_eq_true rfl), (Nat.le_of_ble_eq_true rfl), (Nat.le_of_ble_eq_true rfl)⟩ (by decide) ?_
    refine sp_Works_isTerminal (by omega) ?_
    refine ⟨_, rfl, ?_⟩
    refine ex_asN (a := 1) (by rw [c2]) ?_
    refine ex_if_eqN (tgt := 32) dX1_levelOfRule_18 (by decide) (by omega) (fun hz18 => by exact absurd hz18 (by decide)) (fun hz18 => ?_)
    refine ex_aload_n (i := 0) dX1_levelOfRule_21 rfl rfl ?_
    refine ex_aload_n (i := 0) dX1_levelOfRule_22 rfl rfl ?_
    refine ex_iload_n (i := 1) dX1_levelOfRule_23 rfl rfl ?_
    refine ex_iload_n (i := 3) dX1_levelOfRule_24 rfl rfl ?_
    refine ex_cV (ν := m_Grammar_symbolAt) (a := 1) (ci := 1) (as := [.int (nI (r)), .int (nI (2))]) dX1_levelOfRule_25 ln_Grammar_71 mf_Grammar_symbolAt rfl (l56 (by decide)) rfl rfl np_Grammar_symbolAt rfl rfl ⟨(Nat.le_of_ble_eq_true rfl), (Nat.le_of_ble_eq_true rfl), (Nat.le_of_ble_eq_true rfl), (Nat.le_of_ble_eq_true rfl)⟩ (by decide) ?_
    refine sp_Grammar_symbolAt sc (by omega) (by omega) ?_
    refine ⟨_, rfl, ?_⟩
    refine ex_asN (a := f 2) (hf 2 (by decide)) ?_
    refine ex_cV (ν := m_Grammar_levelOf) (a := 1) (ci := 1) (as := [.int (nI (f 2))]) dX1_levelOfRule_28 ln_Grammar_78 mf_Grammar_levelOf rfl (l56 (by decide)) rfl rfl np_Grammar_levelOf rfl rfl ⟨(Nat.le_of_ble_eq_true rfl), (Nat.le_of_ble_eq_true rfl), (Nat.le_of_ble_eq_true rfl), (Nat.le_of_ble_eq_true rfl)⟩ (by decide) ?_
    refine sp_Grammar_levelOf (tm7 _ (by assumption)) ?_
    refine ⟨_, rfl, ?_⟩
    refine ex_asN (a := lv (f 2)) (hlv (f 2) (tm7 _ c2)) ?_
    refine ex_istore_n (L' := [some (.ref (1)), some (.int (nI (r))), some (.int (nI (lv (f 2)))), some (.int (nI (2)))]) dX1_levelOfRule_31 (i := 2) rfl (by decide) rfl ?_
    refine ex_iincN (L' := [some (.ref (1)), some (.int (nI (r))), some (.int (nI (lv (f 2)))), some (.int (nI (3)))]) dX1_levelOfRule_32 rfl rfl (by decide) rfl ?_
    refine ex_goto (tgt := 4) dX1_levelOfRule_35 (by decide) ?_
    refine ex_iload_n (i := 3) dX1_levelOfRule_4 rfl rfl ?_
    refine ex_iconst (v := nI 4) dX1_levelOfRule_5 (by decide) ?_
    refine ex_icmp_gtN (tgt := 38) dX1_levelOfRule_6 (by decide) (by decide) (by decide) (fun hz6 => by exact absurd hz6 (by decide)) (fun hz6 => ?_)
    refine ex_aload_n (i := 0) dX1_levelOfRule_9 rfl rfl ?_
    refine ex_iload_n (i := 1) dX1_levelOfRule_10 rfl rfl ?_
    refine ex_iload_n (i := 3) dX1_levelOfRule_11 rfl rfl ?_
    refine ex_cV (ν := m_Grammar_symbolAt) (a := 1) (ci := 1) (as := [.int (nI (r)), .int (nI (3))]) dX1_levelOfRule_12 ln_Grammar_71 mf_Grammar_symbolAt rfl (l56 (by decide)) rfl rfl np_Grammar_symbolAt rfl rfl ⟨(Nat.le_of_ble_eq_true rfl), (Nat.le_of_ble_eq_true rfl), (Nat.le_of_ble_eq_true rfl), (Nat.le_of_ble_eq_true rfl)⟩ (by decide) ?_
    refine sp_Grammar_symbolAt sc (by omega) (by omega) ?_
    refine ⟨_, rfl, ?_⟩
    refine ex_asN (a := f 3) (hf 3 (by decide)) ?_
    refine ex_cN (ν := m_Works_isTerminal) (as := [.int (nI (f 3))]) dX1_levelOfRule_15 ln_Grammar_74 mf_Works_isTerminal np_Works_isTerminal rfl rfl ⟨(Nat.le_of_ble_eq_true rfl), (Nat.le_of_ble_eq_true rfl), (Nat.le_of_ble_eq_true rfl), (Nat.le_of_ble_eq_true rfl)⟩ (by decide) ?_
    refine sp_Works_isTerminal (by omega) ?_
    refine ⟨_, rfl, ?_⟩
    refine ex_asN (a := 1) (by rw [c3]) ?_
    refine ex_if_eqN (tgt := 32) dX1_levelOfRule_18 (by decide) (by omega) (fun hz18 => by exact absurd hz18 (by decide)) (fun hz18 => ?_)
    refine ex_aload_n (i := 0) dX1_levelOfRule_21 rfl rfl ?_
    refine ex_aload_n (i := 0) dX1_levelOfRule_22 rfl rfl ?_
    refine ex_iload_n (i := 1) dX1_levelOfRule_23 rfl rfl ?_
    refine ex_iload_n (i := 3) dX1_levelOfRule_24 rfl rfl ?_
    refine ex_cV (ν := m_Grammar_symbolAt) (a := 1) (ci := 1) (as := [.int (nI (r)), .int (nI (3))]) dX1_levelOfRule_25 ln_Grammar_71 mf_Grammar_symbolAt rfl (l56 (by decide)) rfl rfl np_Grammar_symbolAt rfl rfl ⟨(Nat.le_of_ble_eq_true rfl), (Nat.le_of_ble_eq_true rfl), (Nat.le_of_ble_eq_true rfl), (Nat.le_of_ble_eq_true rfl)⟩ (by decide) ?_
    refine sp_Grammar_symbolAt sc (by omega) (by omega) ?_
    refine ⟨_, rfl, ?_⟩
    refine ex_asN (a := f 3) (hf 3 (by decide)) ?_
    refine ex_cV (ν := m_Grammar_levelOf) (a := 1) (ci := 1) (as := [.int (nI (f 3))]) dX1_levelOfRule_28 ln_Grammar_78 mf_Grammar_levelOf rfl (l56 (by decide)) rfl rfl np_Grammar_levelOf rfl rfl ⟨(Nat.le_of_ble_eq_true rfl), (Nat.le_of_ble_eq_true rfl), (Nat.le_of_ble_eq_true rfl), (Nat.le_of_ble_eq_true rfl)⟩ (by decide) ?_
    refine sp_Grammar_levelOf (tm7 _ (by assumption)) ?_
    refine ⟨_, rfl, ?_⟩
    refine ex_asN (a := lv (f 3)) (hlv (f 3) (tm7 _ c3)) ?_
    refine ex_istore_n (L' := [some (.ref (1)), some (.int (nI (r))), some (.int (nI (lv (f 3)))), some (.int (nI (3)))]) dX1_levelOfRule_31 (i := 2) rfl (by decide) rfl ?_
    refine ex_iincN (L' := [some (.ref (1)), some (.int (nI (r))), some (.int (nI (lv (f 3)))), some (.int (nI (4)))]) dX1_levelOfRule_32 rfl rfl (by decide) rfl ?_
    refine ex_goto (tgt := 4) dX1_levelOfRule_35 (by decide) ?_
    refine ex_iload_n (i := 3) dX1_levelOfRule_4 rfl rfl ?_
    refine ex_iconst (v := nI 4) dX1_levelOfRule_5 (by decide) ?_
    refine ex_icmp_gtN (tgt := 38) dX1_levelOfRule_6 (by decide) (by decide) (by decide) (fun hz6 => by exact absurd hz6 (by decide)) (fun hz6 => ?_)
    refine ex_aload_n (i := 0) dX1_levelOfRule_9 rfl rfl ?_
    refine ex_iload_n (i := 1) dX1_levelOfRule_10 rfl rfl ?_
    refine ex_iload_n (i := 3) dX1_levelOfRule_11 rfl rfl ?_
    refine ex_cV (ν := m_Grammar_symbolAt) (a := 1) (ci := 1) (as := [.int (nI (r)), .int (nI (4))]) dX1_levelOfRule_12 ln_Grammar_71 mf_Grammar_symbolAt rfl (l56 (by decide)) rfl rfl np_Grammar_symbolAt rfl rfl ⟨(Nat.le_of_ble_eq_true rfl), (Nat.le_of_ble_eq_true rfl), (Nat.le_of_ble_eq_true rfl), (Nat.le_of_ble_eq_true rfl)⟩ (by decide) ?_
    refine sp_Grammar_symbolAt sc (by omega) (by omega) ?_
    refine ⟨_, rfl, ?_⟩
    refine ex_asN (a := f 4) (hf 4 (by decide)) ?_
    refine ex_cN (ν := m_Works_isTerminal) (as := [.int (nI (f 4))]) dX1_levelOfRule_15 ln_Grammar_74 mf_Works_isTerminal np_Works_isTerminal rfl rfl ⟨(Nat.le_of_ble_eq_true rfl), (Nat.le_of_ble_eq_true rfl), (Nat.le_of_ble_eq_true rfl), (Nat.le_of_ble_eq_true rfl)⟩ (by decide) ?_
    refine sp_Works_isTerminal (by omega) ?_
    refine ⟨_, rfl, ?_⟩
    refine ex_asN (a := 1) (by rw [c4]) ?_
    refine ex_if_eqN (tgt := 32) dX1_levelOfRule_18 (by decide) (by omega) (fun hz18 => by exact absurd hz18 (by decide)) (fun hz18 => ?_)
    refine ex_aload_n (i := 0) dX1_levelOfRule_21 rfl rfl ?_
    refine ex_aload_n (i := 0) dX1_levelOfRule_22 rfl rfl ?_
    refine ex_iload_n (i := 1) dX1_levelOfRule_23 rfl rfl ?_
    refine ex_iload_n (i := 3) dX1_levelOfRule_24 rfl rfl ?_
    refine ex_cV (ν := m_Grammar_symbolAt) (a := 1) (ci := 1) (as := [.int (nI (r)), .int (nI (4))]) dX1_levelOfRule_25 ln_Grammar_71 mf_Grammar_symbolAt rfl (l56 (by decide)) rfl rfl np_Grammar_symbolAt rfl rfl ⟨(Nat.le_of_ble_eq_true rfl), (Nat.le_of_ble_eq_true rfl), (Nat.le_of_ble_eq_true rfl), (Nat.le_of_ble_eq_true rfl)⟩ (by decide) ?_
    refine sp_Grammar_symbolAt sc (by omega) (by omega) ?_
    refine ⟨_, rfl, ?_⟩
    refine ex_asN (a := f 4) (hf 4 (by decide)) ?_
    refine ex_cV (ν := m_Grammar_levelOf) (a := 1) (ci := 1) (as := [.int (nI (f 4))]) dX1_levelOfRule_28 ln_Grammar_78 mf_Grammar_levelOf rfl (l56 (by decide)) rfl rfl np_Grammar_levelOf rfl rfl ⟨(Nat.le_of_ble_eq_true rfl), (Nat.le_of_ble_eq_true rfl), (Nat.le_of_ble_eq_true rfl), (Nat.le_of_ble_eq_true rfl)⟩ (by decide) ?_
    refine sp_Grammar_levelOf (tm7 _ (by assumption)) ?_
    refine ⟨_, rfl, ?_⟩
    refine ex_asN (a := lv (f 4)) (hlv (f 4) (tm7 _ c4)) ?_
    refine ex_istore_n (L' := [some (.ref (1)), some (.int (nI (r))), some (.int (nI (lv (f 4)))), some (.int (nI (4)))]) dX1_levelOfRule_31 (i := 2) rfl (by decide) rfl ?_
    refine ex_iincN (L' := [some (.ref (1)), some (.int (nI (r))), some (.int (nI (lv (f 4)))), some (.int (nI (5)))]) dX1_levelOfRule_32 rfl rfl (by decide) rfl ?_
    refine ex_goto (tgt := 4) dX1_levelOfRule_35 (by decide) ?_
    refine ex_iload_n (i := 3) dX1_levelOfRule_4 rfl rfl ?_
    refine ex_iconst (v := nI 4) dX1_levelOfRule_5 (by decide) ?_
    refine ex_icmp_gtN (tgt := 38) dX1_levelOfRule_6 (by decide) (by decide) (by decide) (fun hz6 => ?_) (fun hz6 => by exact absurd hz6 (by decide))
    refine ex_iload_n (i := 2) dX1_levelOfRule_38 rfl rfl ?_
    refine ex_iret dX1_levelOfRule_39 rfl rfl ?_
    simp only [c1, c2, c3, c4, if_true, if_false, if_pos, show ((0 : Nat) = 1) = False from by simp] at hQ; exact hQ
theorem sp_States_weigh {r x : Nat} {sh re : Int32} (sc : SC i) (gs : GS i n sy) (hr : r < 15) (hx : x < 7) (hlv : Vw i 5 7 lv) (hlb : ∀ s, lv s ≤ 9) (hkd : Vw i 7 7 kd) (hkb : ∀ s, kd s ≤ 2) (hQ : Q (.ok (some (.int (wgh (lvS lv (sy r)) (lv x) (kd x) sh re)))) (56 + ζ, g, i, q, RT t)) : Wx m_States_weigh 0 [some (.ref 16), some (.int (nI r)), some (.int (nI x)), some (.int sh), some (.int re), none, none] [] (56 + ζ, g, i, q, RT t) (0, 0) Q := by
  have hl1 : lvS lv (sy r) ≤ 9 := by
    have := hlb
    unfold lvS
    repeat' split
    all_goals first | exact hlb _ | omega
  have hl2 := hlb x
  have hk2 := hkb x
  unfold wgh at hQ
  refine ex_aload_n (i := 0) dX7_weigh_0 rfl rfl ?_
  refine ex_getR (v := .ref (1)) dX7_weigh_1 fl_States_9 rfl rfl (l56 (by decide)) rfl ?_
  refine ex_iload_n (i := 1) dX7_weigh_4 rfl rfl ?_
  refine ex_cV (ν := m_Grammar_levelOfRule) (a := 1) (ci := 1) (as := [.int (nI (r))]) dX7_weigh_5 ln_States_136 mf_Grammar_levelOfRule rfl (l56 (by decide)) rfl rfl np_Grammar_levelOfRule rfl rfl ⟨(Nat.le_of_ble_eq_true rfl), (Nat.le_of_ble_eq_true rfl), (Nat.le_of_ble_eq_true rfl), (Nat.le_of_ble_eq_true rfl)⟩ (by decide) ?_
  refine sp_Grammar_levelOfRule (f := sy r) (lv := lv) sc hr (fun k hk => gs.2.1 r k hr hk) (fun k hk => Nat.lt_of_le_of_lt (gs.2.2.le hr hk) (by decide)) hlv hlb ?_
  refine ⟨_, rfl, ?_⟩
  refine ex_istore (L' := [some (.ref (16)), some (.int (nI (r))), some (.int (nI (x))), some (.int (sh)), some (.int (re)), some (.int (nI (lvS lv (sy r)))), none]) dX7_weigh_8 (by decide) rfl ?_
  refine ex_aload_n (i := 0) dX7_weigh_10 rfl rfl ?_
  refine ex_getR (v := .ref (1)) dX7_weigh_11 fl_States_9 rfl rfl (l56 (by decide)) rfl ?_
  refine ex_iload_n (i := 2) dX7_weigh_14 rfl rfl ?_
  refine ex_cV (ν := m_Grammar_levelOf) (a := 1) (ci := 1) (as := [.int (nI (x))]) dX7_weigh_15 ln_States_139 mf_Grammar_levelOf rfl (l56 (by decide)) rfl rfl np_Grammar_levelOf rfl rfl ⟨(Nat.le_of_ble_eq_true rfl), (Nat.le_of_ble_eq_true rfl), (Nat.le_of_ble_eq_true rfl), (Nat.le_of_ble_eq_true rfl)⟩ (by decide) ?_
  refine sp_Grammar_levelOf (by omega) ?_
  refine ⟨_, rfl, ?_⟩
  refine ex_asN (a := lv x) (hlv x hx) ?_
  refine ex_istore (L' := [some (.ref (16)), some (.int (nI (r))), some (.int (nI (x))), some (.int (sh)), some (.int (re)), some (.int (nI (lvS lv (sy r)))), some (.int (nI (lv x)))]) dX7_weigh_18 (by decide) rfl ?_
  refine ex_iload dX7_weigh_20 rfl ?_
  refine ex_if_eqN (tgt := 30) dX7_weigh_22 (by decide) (by omega) (fun hw22 => ?_) (fun hw22 => ?_)
  · refine ex_sipush (v := nI 1001) dX7_weigh_30 (by decide) ?_
    refine ex_iret dX7_weigh_33 rfl rfl ?_
    first | (rw [if_pos (by omega)] at hQ; exact hQ) | (rw [if_neg (by omega), if_pos (by omega), if_pos (by omega)] at hQ; exact hQ) | (rw [if_neg (by omega), if_pos (by omega), if_neg (by omega)] at hQ; exact hQ) | (rw [if_neg (by omega), if_neg (by omega), if_pos (by omega)] at hQ; exact hQ) | (rw [if_neg (by omega), if_neg (by omega), if_neg (by omega), if_pos (by omega)] at hQ; exact hQ) | (rw [if_neg (by omega), if_neg (by omega), if_neg (by omega), if_neg (by omega)] at hQ; exact hQ)
  · refine ex_iload dX7_weigh_25 rfl ?_
    refine ex_if_neN (tgt := 34) dX7_weigh_27 (by decide) (by omega) (fun hw27 => ?_) (fun hw27 => ?_)
    · refine ex_iload dX7_weigh_34 rfl ?_
      refine ex_iload dX7_weigh_36 rfl ?_
      refine ex_icmp_eqN (tgt := 55) dX7_weigh_38 (by decide) (by omega) (by omega) (fun hw38 => ?_) (fun hw38 => ?_)
      · refine ex_aload_n (i := 0) dX7_weigh_55 rfl rfl ?_
        refine ex_getR (v := .ref (1)) dX7_weigh_56 fl_States_9 rfl rfl (l56 (by decide)) rfl ?_
        refine ex_iload_n (i := 2) dX7_weigh_59 rfl rfl ?_
        refine ex_cV (ν := m_Grammar_kindOf) (a := 1) (ci := 1) (as := [.int (nI (x))]) dX7_weigh_60 ln_States_142 mf_Grammar_kindOf rfl (l56 (by decide)) rfl rfl np_Grammar_kindOf rfl rfl ⟨(Nat.le_of_ble_eq_true rfl), (Nat.le_of_ble_eq_true rfl), (Nat.le_of_ble_eq_true rfl), (Nat.le_of_ble_eq_true rfl)⟩ (by decide) ?_
        refine sp_Grammar_kindOf (by omega) ?_
        refine ⟨_, rfl, ?_⟩
        refine ex_asN (a := kd x) (hkd x hx) ?_
        refine ex_if_neN (tgt := 69) dX7_weigh_63 (by decide) (by omega) (fun hw63 => ?_) (fun hw63 => ?_)
        · refine ex_aload_n (i := 0) dX7_weigh_69 rfl rfl ?_
          refine ex_getR (v := .ref (1)) dX7_weigh_70 fl_States_9 rfl rfl (l56 (by decide)) rfl ?_
          refine ex_iload_n (i := 2) dX7_weigh_73 rfl rfl ?_
          refine ex_cV (ν := m_Grammar_kindOf) (a := 1) (ci := 1) (as := [.int (nI (x))]) dX7_weigh_74 ln_States_142 mf_Grammar_kindOf rfl (l56 (by decide)) rfl rfl np_Grammar_kindOf rfl rfl ⟨(Nat.le_of_ble_eq_true rfl), (Nat.le_of_ble_eq_true rfl), (Nat.le_of_ble_eq_true rfl), (Nat.le_of_ble_eq_true rfl)⟩ (by decide) ?_
          refine sp_Grammar_kindOf (by omega) ?_
          refine ⟨_, rfl, ?_⟩
          refine ex_asN (a := kd x) (hkd x hx) ?_
          refine ex_iconst (v := nI 1) dX7_weigh_77 (by decide) ?_
          refine ex_icmp_neN (tgt := 85) dX7_weigh_78 (by decide) (by omega) (by omega) (fun hw78 => ?_) (fun hw78 => ?_)
          · refine ex_iconst (v := nI 0) dX7_weigh_85 (by decide) ?_
            refine ex_iret dX7_weigh_86 rfl rfl ?_
            first | (rw [if_pos (by omega)] at hQ; exact hQ) | (rw [if_neg (by omega), if_pos (by omega), if_pos (by omega)] at hQ; exact hQ) | (rw [if_neg (by omega), if_pos (by omega), if_neg (by omega)] at hQ; exact hQ) | (rw [if_neg (by omega), if_neg (by omega), if_pos (by omega)] at hQ; exact hQ) | (rw [if_neg (by omega), if_neg (by omega), if_neg (by omega), if_pos (by omega)] at hQ; exact hQ) | (rw [if_neg (by omega), if_neg (by omega), if_neg (by omega), if_neg (by omega)] at hQ; exact hQ)
          · refine ex_iload_n (i := 3) dX7_weigh_81 rfl rfl ?_
            refine ex_goto (tgt := 86) dX7_weigh_82 (by decide) ?_
            refine ex_iret dX7_weigh_86 rfl rfl ?_
            first | (rw [if_pos (by omega)] at hQ; exact hQ) | (rw [if_neg (by omega), if_pos (by omega), if_pos (by omega)] at hQ; exact hQ) | (rw [if_neg (by omega), if_pos (by omega), if_neg (by omega)] at hQ; exact hQ) | (rw [if_neg (by omega), if_neg (by omega), if_pos (by omega)] at hQ; exact hQ) | (rw [if_neg (by omega), if_neg (by omega), if_neg (by omega), if_pos (by omega)] at hQ; exact hQ) | (rw [if_neg (by omega), if_neg (by omega), if_neg (by omega), if_neg (by omega)] at hQ; exact hQ)
        · refine ex_iload dX7_weigh_66 rfl ?_
          refine ex_iret dX7_weigh_68 rfl rfl ?_
          first | (rw [if_pos (by omega)] at hQ; exact hQ) | (rw [if_neg (by omega), if_pos (by omega), if_pos (by omega)] at hQ; exact hQ) | (rw [if_neg (by omega), if_pos (by omega), if_neg (by omega)] at hQ; exact hQ) | (rw [if_neg (by omega), if_neg (by omega), if_pos (by omega)] at hQ; exact hQ) | (rw [if_neg (by omega), if_neg (by omega), if_neg (by omega), if_pos (by omega)] at hQ; exact hQ) | (rw [if_neg (by omega), if_neg (by omega), if_neg (by omega), if_neg (by omega)] at hQ; exact hQ)
      · refine ex_iload dX7_weigh_41 rfl ?_
        refine ex_iload dX7_weigh_43 rfl ?_
        refine ex_icmp_leN (tgt := 53) dX7_weigh_45 (by decide) (by omega) (by omega) (fun hw45 => ?_) (fun hw45 => ?_)
        · refine ex_iload_n (i := 3) dX7_weigh_53 rfl rfl ?_
          refine ex_iret dX7_weigh_54 rfl rfl ?_
          first | (rw [if_pos (by omega)] at hQ; exact hQ) | (rw [if_neg (by omega), if_pos (by omega), if_pos (by omega)] at hQ; exact hQ) | (rw [if_neg (by omega), if_pos (by omega), if_neg (by omega)] at hQ; exact hQ) | (rw [if_neg (by omega), if_neg (by omega), if_pos (by omega)] at hQ; exact hQ) | (rw [if_neg (by omega), if_neg (by omega), if_neg (by omega), if_pos (by omega)] at hQ; exact hQ) | (rw [if_neg (by omega), if_neg (by omega), if_neg (by omega), if_neg (by omega)] at hQ; exact hQ)
        · refine ex_iload dX7_weigh_48 rfl ?_
          refine ex_goto (tgt := 54) dX7_weigh_50 (by decide) ?_
          refine ex_iret dX7_weigh_54 rfl rfl ?_
          first | (rw [if_pos (by omega)] at hQ; exact hQ) | (rw [if_neg (by omega), if_pos (by omega), if_pos (by omega)] at hQ; exact hQ) | (rw [if_neg (by omega), if_pos (by omega), if_neg (by omega)] at hQ; exact hQ) | (rw [if_neg (by omega), if_neg (by omega), if_pos (by omega)] at hQ; exact hQ) | (rw [if_neg (by omega), if_neg (by omega), if_neg (by omega), if_pos (by omega)] at hQ; exact hQ) | (rw [if_neg (by omega), if_neg (by omega), if_neg (by omega), if_neg (by omega)] at hQ; exact hQ)
    · refine ex_sipush (v := nI 1001) dX7_weigh_30 (by decide) ?_
      refine ex_iret dX7_weigh_33 rfl rfl ?_
      first | (rw [if_pos (by omega)] at hQ; exact hQ) | (rw [if_neg (by omega), if_pos (by omega), if_pos (by omega)] at hQ; exact hQ) | (rw [if_neg (by omega), if_pos (by omega), if_neg (by omega)] at hQ; exact hQ) | (rw [if_neg (by omega), if_neg (by omega), if_pos (by omega)] at hQ; exact hQ) | (rw [if_neg (by omega), if_neg (by omega), if_neg (by omega), if_pos (by omega)] at hQ; exact hQ) | (rw [if_neg (by omega), if_neg (by omega), if_neg (by omega), if_neg (by omega)] at hQ; exact hQ)
theorem lp_States_decide {s x : Nat} {sh : Int32} (sc : SC i) (gs : GS i n sy) (hs : s < 50) (hx : x < 7) (hV : Vw i 22 3750 F)
    (hk : Wx m_States_decide 50 [some (.ref 16), some (.int (nI s)), some (.int (nI x)), some (.int sh), some (.int (nI (rcF (redP sy F s x) 15).1)), some (.int (nI (rcF (redP sy F s x) 15).2)), none] [] (56 + ζ, g, i, q, RT t) (0, 0) Q) :
    ∀ d r, r + d = 15 → Wx m_States_decide 16 [some (.ref 16), some (.int (nI s)), some (.int (nI x)), some (.int sh), some (.int (nI (rcF (redP sy F s x) r).1)), some (.int (nI (rcF (redP sy F s x) r).2)), some (.int (nI r))] [] (56 + ζ, g, i, q, RT t) (0, 0) Q := by
  intro d
  induction d with
  | zero =>
    intro r hr
    have e : r = 15 := by omega
    subst e
    refine ex_iload dX7_decide_16 rfl ?_
    refine ex_bipush (v := nI 14) dX7_decide_18 (by decide) ?_
    refine ex_icmp_gtN (tgt := 50) dX7_decide_20 (by decide) (by decide) (by decide) (fun h20 => ?_) (fun h20 => by exact absurd h20 (by decide))
    exact ex_less (L' := [some (.ref 16), some (.int (nI s)), some (.int (nI x)), some (.int sh), some (.int (nI (rcF (redP sy F s x) 15).1)), some (.int (nI (rcF (redP sy F s x) 15).2)), none]) (by simp [xSub]) hk
  | succ d ih =>
    intro r hr
    have ih2 := ih (r + 1) (by omega)
    have h127 : F (s * 75 + (r * 5 + lnR sy r)) &&& 127 < 128 := and127
    have hdl : (F (s * 75 + (r * 5 + lnR sy r)) &&& 127) / 2 ^ x ≤ F (s * 75 + (r * 5 + lnR sy r)) &&& 127 := Nat.div_le_self _ _
    have hal : (F (s * 75 + (r * 5 + lnR sy r)) &&& 127) / 2 ^ x &&& 1 ≤ 1 := Nat.and_le_right
    by_cases hp : redP sy F s x r
    · rw [rcF_yes hp] at ih2
      refine ex_iload dX7_decide_16 rfl ?_
      refine ex_bipush (v := nI 14) dX7_decide_18 (by decide) ?_
      refine ex_icmp_gtN (tgt := 50) dX7_decide_20 (by decide) (by omega) (by omega) (fun h20 => by omega) (fun h20 => ?_)
      refine ex_aload_n (i := 0) dX7_decide_23 rfl rfl ?_
      refine ex_iload_n (i := 1) dX7_decide_24 rfl rfl ?_
      refine ex_iload dX7_decide_25 rfl ?_
      refine ex_cV (ν := m_States_lookaheadsAtEnd) (a := 16) (ci := 7) (as := [.int (nI (s)), .int (nI (r))]) dX7_decide_27 ln_States_129 mf_States_lookaheadsAtEnd rfl (l56 (by decide)) rfl rfl np_States_lookaheadsAtEnd rfl rfl ⟨(Nat.le_of_ble_eq_true rfl), (Nat.le_of_ble_eq_true rfl), (Nat.le_of_ble_eq_true rfl), (Nat.le_of_ble_eq_true rfl)⟩ (by decide) ?_
      refine sp_States_lookaheadsAtEnd sc gs hs (by omega) hV ?_
      refine ⟨_, rfl, ?_⟩
      refine ex_iload_n (i := 2) dX7_decide_30 rfl rfl ?_
      refine ex_ishrN dX7_decide_31 (by omega) (by omega) ?_
      refine ex_iconst (v := nI 1) dX7_decide_32 (by decide) ?_
      refine ex_iandN dX7_decide_33 ?_
      refine ex_if_eqN (tgt := 44) dX7_decide_34 (by decide) (by omega) (fun h34 => by exact absurd hp (tb_shift.mp h34)) (fun h34 => ?_)
      refine ex_iincN (L' := [some (.ref (16)), some (.int (nI (s))), some (.int (nI (x))), some (.int (sh)), some (.int (nI ((rcF (redP sy F s x) r).1 + 1))), some (.int (nI ((rcF (redP sy F s x) r).2))), some (.int (nI (r)))]) dX7_decide_37 rfl rfl (by decide) rfl ?_
      refine ex_iload dX7_decide_40 rfl ?_
      refine ex_istore (L' := [some (.ref (16)), some (.int (nI (s))), some (.int (nI (x))), some (.int (sh)), some (.int (nI ((rcF (redP sy F s x) r).1 + 1))), some (.int (nI (r))), some (.int (nI (r)))]) dX7_decide_42 (by decide) rfl ?_
      refine ex_iincN (L' := [some (.ref (16)), some (.int (nI (s))), some (.int (nI (x))), some (.int (sh)), some (.int (nI ((rcF (redP sy F s x) r).1 + 1))), some (.int (nI (r))), some (.int (nI (r + 1)))]) dX7_decide_44 rfl rfl (by decide) rfl ?_
      refine ex_goto (tgt := 16) dX7_decide_47 (by decide) ?_
      exact ih2
    · rw [rcF_no hp] at ih2
      refine ex_iload dX7_decide_16 rfl ?_
      refine ex_bipush (v := nI 14) dX7_decide_18 (by decide) ?_
      refine ex_icmp_gtN (tgt := 50) dX7_decide_20 (by decide) (by omega) (by omega) (fun h20 => by omega) (fun h20 => ?_)
      refine ex_aload_n (i := 0) dX7_decide_23 rfl rfl ?_
      refine ex_iload_n (i := 1) dX7_decide_24 rfl rfl ?_
      refine ex_iload dX7_decide_25 rfl ?_
      refine ex_cV (ν := m_States_lookaheadsAtEnd) (a := 16) (ci := 7) (as := [.int (nI (s)), .int (nI (r))]) dX7_decide_27 ln_States_129 mf_States_lookaheadsAtEnd rfl (l56 (by decide)) rfl rfl np_States_lookaheadsAtEnd rfl rfl ⟨(Nat.le_of_ble_eq_true rfl), (Nat.le_of_ble_eq_true rfl), (Nat.le_of_ble_eq_true rfl), (Nat.le_of_ble_eq_true rfl)⟩ (by decide) ?_
      refine sp_States_lookaheadsAtEnd sc gs hs (by omega) hV ?_
      refine ⟨_, rfl, ?_⟩
      refine ex_iload_n (i := 2) dX7_decide_30 rfl rfl ?_
      refine ex_ishrN dX7_decide_31 (by omega) (by omega) ?_
      refine ex_iconst (v := nI 1) dX7_decide_32 (by decide) ?_
      refine ex_iandN dX7_decide_33 ?_
      refine ex_if_eqN (tgt := 44) dX7_decide_34 (by decide) (by omega) (fun h34 => ?_) (fun h34 => by exact absurd (tb_shift.mpr hp) h34)
      refine ex_iincN (L' := [some (.ref (16)), some (.int (nI (s))), some (.int (nI (x))), some (.int (sh)), some (.int (nI ((rcF (redP sy F s x) r).1))), some (.int (nI ((rcF (redP sy F s x) r).2))), some (.int (nI (r + 1)))]) dX7_decide_44 rfl rfl (by decide) rfl ?_
      refine ex_goto (tgt := 16) dX7_decide_47 (by decide) ?_
      exact ih2
theorem nI_m1 {a : Nat} (h : a < 4096) : (-1 : Int32) - nI a = -1 - nI a := rfl
theorem sp_States_decide {s x : Nat} (sc : SC i) (gs : GS i n sy) (hs : s < S) (hS : S ≤ 50) (hx : x < 7) (hV : Vw i 22 3750 F) (hT : ∀ s x, s < S → 1 ≤ x → x < 14 → i 24 (s * 14 + x) = nI (T s x) ∧ T s x < S) (hT0 : i 24 (s * 14) = 0) (hlv : Vw i 5 7 lv) (hlb : ∀ s, lv s ≤ 9) (hkd : Vw i 7 7 kd) (hkb : ∀ s, kd s ≤ 2)
    (hQ : Q (.ok (some (.int (dcS sy lv kd F T s x)))) (56 + ζ, g, i, q, RT t)) : Wx m_States_decide 0 [some (.ref 16), some (.int (nI s)), some (.int (nI x)), none, none, none, none] [] (56 + ζ, g, i, q, RT t) (0, 0) Q := by
  obtain ⟨sh, hsh⟩ : ∃ sh, sh = if x = 0 then 0 else T s x := ⟨_, rfl⟩
  have hsv : i 24 (s * 14 + x) = nI sh := by
    rw [hsh]
    by_cases e : x = 0
    · subst e; rw [if_pos rfl]; exact hT0
    · rw [if_neg e]; exact (hT s x hs (by omega) (by omega)).1
  have hs50 : sh < 50 := by
    rw [hsh]
    by_cases e : x = 0
    · rw [if_pos e]; omega
    · rw [if_neg e]
      have := (hT s x hs (by omega) (by omega)).2
      omega
  unfold dcS at hQ
  rw [← hsh] at hQ
  have hc := rcF_le (P := redP sy F s x) (k := 15)
  have hc2 := rcF_lt (P := redP sy F s x) (k := 15)
  have hc3 : (rcF (redP sy F s x) 15).2 < 15 := by
    by_cases h : (rcF (redP sy F s x) 15).2 < 15
    · exact h
    · exfalso
      have h14 : (rcF (redP sy F s x) (14 + 1)).2 < 15 := by
        by_cases hp : redP sy F s x 14
        · rw [rcF_yes hp]; show 14 < 15; omega
        · rw [rcF_no hp]; exact rcF_lt
      exact h h14
  unfold dcV at hQ
  have hend : Wx m_States_decide 50 [some (.ref 16), some (.int (nI s)), some (.int (nI x)), some (.int (nI sh)), some (.int (nI (rcF (redP sy F s x) 15).1)), some (.int (nI (rcF (redP sy F s x) 15).2)), none] [] (56 + ζ, g, i, q, RT t) (0, 0) Q := by
    generalize (rcF (redP sy F s x) 15).1 = c1 at hQ hc ⊢
    generalize (rcF (redP sy F s x) 15).2 = c2 at hQ hc3 ⊢
    refine ex_iload dX7_decide_50 rfl ?_
    refine ex_if_neN (tgt := 65) dX7_decide_52 (by decide) (by omega) (fun hu52 => ?_) (fun hu52 => ?_)
    · refine ex_iload dX7_decide_65 rfl ?_
      refine ex_iconst (v := nI 1) dX7_decide_67 (by decide) ?_
      refine ex_icmp_leN (tgt := 75) dX7_decide_68 (by decide) (by omega) (by omega) (fun hu68 => ?_) (fun hu68 => ?_)
      · refine ex_iload dX7_decide_75 rfl ?_
        refine ex_bipush (v := nI 14) dX7_decide_77 (by decide) ?_
        refine ex_icmp_neN (tgt := 88) dX7_decide_79 (by decide) (by omega) (by omega) (fun hu79 => ?_) (fun hu79 => ?_)
        · refine ex_iconst (v := -1) dX7_decide_88 (by decide) ?_
          refine ex_iload dX7_decide_89 rfl ?_
          refine ex_isub dX7_decide_91 ?_
          refine ex_istore (L' := [some (.ref (16)), some (.int (nI (s))), some (.int (nI (x))), some (.int (nI (sh))), some (.int (nI (c1))), some (.int (nI (c2))), some (.int (((-1)) - (nI (c2))))]) dX7_decide_92 (by decide) rfl ?_
          refine ex_iload_n (i := 3) dX7_decide_94 rfl rfl ?_
          refine ex_if_neN (tgt := 103) dX7_decide_95 (by decide) (by omega) (fun hu95 => ?_) (fun hu95 => ?_)
          · refine ex_aload_n (i := 0) dX7_decide_103 rfl rfl ?_
            refine ex_iload dX7_decide_104 rfl ?_
            refine ex_iload_n (i := 2) dX7_decide_106 rfl rfl ?_
            refine ex_iload_n (i := 3) dX7_decide_107 rfl rfl ?_
            refine ex_iload dX7_decide_108 rfl ?_
            refine ex_cV (ν := m_States_weigh) (a := 16) (ci := 7) (as := [.int (nI (c2)), .int (nI (x)), .int (nI (sh)), .int (((-1)) - (nI (c2)))]) dX7_decide_110 ln_States_132 mf_States_weigh rfl (l56 (by decide)) rfl rfl np_States_weigh rfl rfl ⟨(Nat.le_of_ble_eq_true rfl), (Nat.le_of_ble_eq_true rfl), (Nat.le_of_ble_eq_true rfl), (Nat.le_of_ble_eq_true rfl)⟩ (by decide) ?_
            refine sp_States_weigh sc gs hc3 hx hlv hlb hkd hkb ?_
            refine ⟨_, rfl, ?_⟩
            refine ex_iret dX7_decide_113 rfl rfl ?_
            first | (rw [if_pos (by omega)] at hQ; exact hQ) | (rw [if_neg (by omega), if_pos (by omega)] at hQ; exact hQ) | (rw [if_neg (by omega), if_neg (by omega), if_pos (by omega), if_pos (by omega)] at hQ; exact hQ) | (rw [if_neg (by omega), if_neg (by omega), if_pos (by omega), if_neg (by omega)] at hQ; exact hQ) | (rw [if_neg (by omega), if_neg (by omega), if_neg (by omega), if_pos (by omega)] at hQ; exact hQ) | (rw [if_neg (by omega), if_neg (by omega), if_neg (by omega), if_neg (by omega)] at hQ; exact hQ) | (have e0 : sh = 0 := (by omega); subst e0; rw [if_pos (by omega)] at hQ; exact hQ)
          · refine ex_iload dX7_decide_98 rfl ?_
            refine ex_goto (tgt := 113) dX7_decide_100 (by decide) ?_
            refine ex_iret dX7_decide_113 rfl rfl ?_
            first | (rw [if_pos (by omega)] at hQ; exact hQ) | (rw [if_neg (by omega), if_pos (by omega)] at hQ; exact hQ) | (rw [if_neg (by omega), if_neg (by omega), if_pos (by omega), if_pos (by omega)] at hQ; exact hQ) | (rw [if_neg (by omega), if_neg (by omega), if_pos (by omega), if_neg (by omega)] at hQ; exact hQ) | (rw [if_neg (by omega), if_neg (by omega), if_neg (by omega), if_pos (by omega)] at hQ; exact hQ) | (rw [if_neg (by omega), if_neg (by omega), if_neg (by omega), if_neg (by omega)] at hQ; exact hQ) | (have e0 : sh = 0 := (by omega); subst e0; rw [if_pos (by omega)] at hQ; exact hQ)
        · refine ex_sipush (v := nI 1000) dX7_decide_82 (by decide) ?_
          refine ex_goto (tgt := 92) dX7_decide_85 (by decide) ?_
          refine ex_istore (L' := [some (.ref (16)), some (.int (nI (s))), some (.int (nI (x))), some (.int (nI (sh))), some (.int (nI (c1))), some (.int (nI (c2))), some (.int (nI (1000)))]) dX7_decide_92 (by decide) rfl ?_
          refine ex_iload_n (i := 3) dX7_decide_94 rfl rfl ?_
          refine ex_if_neN (tgt := 103) dX7_decide_95 (by decide) (by omega) (fun hu95 => ?_) (fun hu95 => ?_)
          · refine ex_aload_n (i := 0) dX7_decide_103 rfl rfl ?_
            refine ex_iload dX7_decide_104 rfl ?_
            refine ex_iload_n (i := 2) dX7_decide_106 rfl rfl ?_
            refine ex_iload_n (i := 3) dX7_decide_107 rfl rfl ?_
            refine ex_iload dX7_decide_108 rfl ?_
            refine ex_cV (ν := m_States_weigh) (a := 16) (ci := 7) (as := [.int (nI (c2)), .int (nI (x)), .int (nI (sh)), .int (nI (1000))]) dX7_decide_110 ln_States_132 mf_States_weigh rfl (l56 (by decide)) rfl rfl np_States_weigh rfl rfl ⟨(Nat.le_of_ble_eq_true rfl), (Nat.le_of_ble_eq_true rfl), (Nat.le_of_ble_eq_true rfl), (Nat.le_of_ble_eq_true rfl)⟩ (by decide) ?_
            refine sp_States_weigh sc gs hc3 hx hlv hlb hkd hkb ?_
            refine ⟨_, rfl, ?_⟩
            refine ex_iret dX7_decide_113 rfl rfl ?_
            first | (rw [if_pos (by omega)] at hQ; exact hQ) | (rw [if_neg (by omega), if_pos (by omega)] at hQ; exact hQ) | (rw [if_neg (by omega), if_neg (by omega), if_pos (by omega), if_pos (by omega)] at hQ; exact hQ) | (rw [if_neg (by omega), if_neg (by omega), if_pos (by omega), if_neg (by omega)] at hQ; exact hQ) | (rw [if_neg (by omega), if_neg (by omega), if_neg (by omega), if_pos (by omega)] at hQ; exact hQ) | (rw [if_neg (by omega), if_neg (by omega), if_neg (by omega), if_neg (by omega)] at hQ; exact hQ) | (have e0 : sh = 0 := (by omega); subst e0; rw [if_pos (by omega)] at hQ; exact hQ)
          · refine ex_iload dX7_decide_98 rfl ?_
            refine ex_goto (tgt := 113) dX7_decide_100 (by decide) ?_
            refine ex_iret dX7_decide_113 rfl rfl ?_
            first | (rw [if_pos (by omega)] at hQ; exact hQ) | (rw [if_neg (by omega), if_pos (by omega)] at hQ; exact hQ) | (rw [if_neg (by omega), if_neg (by omega), if_pos (by omega), if_pos (by omega)] at hQ; exact hQ) | (rw [if_neg (by omega), if_neg (by omega), if_pos (by omega), if_neg (by omega)] at hQ; exact hQ) | (rw [if_neg (by omega), if_neg (by omega), if_neg (by omega), if_pos (by omega)] at hQ; exact hQ) | (rw [if_neg (by omega), if_neg (by omega), if_neg (by omega), if_neg (by omega)] at hQ; exact hQ) | (have e0 : sh = 0 := (by omega); subst e0; rw [if_pos (by omega)] at hQ; exact hQ)
      · refine ex_sipush (v := nI 1001) dX7_decide_71 (by decide) ?_
        refine ex_iret dX7_decide_74 rfl rfl ?_
        first | (rw [if_pos (by omega)] at hQ; exact hQ) | (rw [if_neg (by omega), if_pos (by omega)] at hQ; exact hQ) | (rw [if_neg (by omega), if_neg (by omega), if_pos (by omega), if_pos (by omega)] at hQ; exact hQ) | (rw [if_neg (by omega), if_neg (by omega), if_pos (by omega), if_neg (by omega)] at hQ; exact hQ) | (rw [if_neg (by omega), if_neg (by omega), if_neg (by omega), if_pos (by omega)] at hQ; exact hQ) | (rw [if_neg (by omega), if_neg (by omega), if_neg (by omega), if_neg (by omega)] at hQ; exact hQ) | (have e0 : sh = 0 := (by omega); subst e0; rw [if_pos (by omega)] at hQ; exact hQ)
    · refine ex_iload_n (i := 3) dX7_decide_55 rfl rfl ?_
      refine ex_if_neN (tgt := 63) dX7_decide_56 (by decide) (by omega) (fun hu56 => ?_) (fun hu56 => ?_)
      · refine ex_iload_n (i := 3) dX7_decide_63 rfl rfl ?_
        refine ex_iret dX7_decide_64 rfl rfl ?_
        first | (rw [if_pos (by omega)] at hQ; exact hQ) | (rw [if_neg (by omega), if_pos (by omega)] at hQ; exact hQ) | (rw [if_neg (by omega), if_neg (by omega), if_pos (by omega), if_pos (by omega)] at hQ; exact hQ) | (rw [if_neg (by omega), if_neg (by omega), if_pos (by omega), if_neg (by omega)] at hQ; exact hQ) | (rw [if_neg (by omega), if_neg (by omega), if_neg (by omega), if_pos (by omega)] at hQ; exact hQ) | (rw [if_neg (by omega), if_neg (by omega), if_neg (by omega), if_neg (by omega)] at hQ; exact hQ) | (have e0 : sh = 0 := (by omega); subst e0; rw [if_pos (by omega)] at hQ; exact hQ)
      · refine ex_iconst (v := nI 0) dX7_decide_59 (by decide) ?_
        refine ex_goto (tgt := 64) dX7_decide_60 (by decide) ?_
        refine ex_iret dX7_decide_64 rfl rfl ?_
        first | (rw [if_pos (by omega)] at hQ; exact hQ) | (rw [if_neg (by omega), if_pos (by omega)] at hQ; exact hQ) | (rw [if_neg (by omega), if_neg (by omega), if_pos (by omega), if_pos (by omega)] at hQ; exact hQ) | (rw [if_neg (by omega), if_neg (by omega), if_pos (by omega), if_neg (by omega)] at hQ; exact hQ) | (rw [if_neg (by omega), if_neg (by omega), if_neg (by omega), if_pos (by omega)] at hQ; exact hQ) | (rw [if_neg (by omega), if_neg (by omega), if_neg (by omega), if_neg (by omega)] at hQ; exact hQ) | (have e0 : sh = 0 := (by omega); subst e0; rw [if_pos (by omega)] at hQ; exact hQ)
  refine ex_aload_n (i := 0) dX7_decide_0 rfl rfl ?_
  refine ex_iload_n (i := 1) dX7_decide_1 rfl rfl ?_
  refine ex_iload_n (i := 2) dX7_decide_2 rfl rfl ?_
  refine ex_cV (ν := m_States_target) (a := 16) (ci := 7) (as := [.int (nI (s)), .int (nI (x))]) dX7_decide_3 ln_States_116 mf_States_target rfl (l56 (by decide)) rfl rfl np_States_target rfl rfl ⟨(Nat.le_of_ble_eq_true rfl), (Nat.le_of_ble_eq_true rfl), (Nat.le_of_ble_eq_true rfl), (Nat.le_of_ble_eq_true rfl)⟩ (by decide) ?_
  refine sp_States_target sc (by omega) (by omega) ?_
  refine ⟨_, rfl, ?_⟩
  refine ex_asN (a := sh) hsv ?_
  refine ex_istore_n (L' := [some (.ref (16)), some (.int (nI (s))), some (.int (nI (x))), some (.int (nI (sh))), none, none, none]) dX7_decide_6 (i := 3) rfl (by decide) rfl ?_
  refine ex_iconst (v := nI 0) dX7_decide_7 (by decide) ?_
  refine ex_istore (L' := [some (.ref (16)), some (.int (nI (s))), some (.int (nI (x))), some (.int (nI (sh))), some (.int (nI (0))), none, none]) dX7_decide_8 (by decide) rfl ?_
  refine ex_iconst (v := nI 0) dX7_decide_10 (by decide) ?_
  refine ex_istore (L' := [some (.ref (16)), some (.int (nI (s))), some (.int (nI (x))), some (.int (nI (sh))), some (.int (nI (0))), some (.int (nI (0))), none]) dX7_decide_11 (by decide) rfl ?_
  refine ex_iconst (v := nI 0) dX7_decide_13 (by decide) ?_
  refine ex_istore (L' := [some (.ref (16)), some (.int (nI (s))), some (.int (nI (x))), some (.int (nI (sh))), some (.int (nI (0))), some (.int (nI (0))), some (.int (nI (0)))]) dX7_decide_14 (by decide) rfl ?_
  exact lp_States_decide sc gs (by omega) hx hV hend 15 0 (by omega)
end S27
