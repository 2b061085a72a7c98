/-! ===== rows over naturals: nI n is the int of n ===== -/
theorem nI_and {a b : Nat} : nI a &&& nI b = nI (a &&& b) := by
  unfold nI
  apply Int32.toBitVec_inj.mp
  simp [Int32.toBitVec_and, Int32.toBitVec_ofNat']
theorem nI_or {a b : Nat} : nI a ||| nI b = nI (a ||| b) := by
  unfold nI
  apply Int32.toBitVec_inj.mp
  simp [Int32.toBitVec_or, Int32.toBitVec_ofNat']
theorem nI_neg1 : (-1 : Int32) &&& 31 = 31 := by decide
theorem nI_sh {b : Nat} (h : b < 32) : nI b &&& 31 = nI b := by
  have e : (31 : Int32) = nI 31 := by decide
  rw [e, nI_and]
  congr 1
  exact Nat.and_two_pow_sub_one_of_lt_two_pow (n := 5) h
theorem nI_shl {a b : Nat} (hb : b < 32) (h : a * 2 ^ b < 2 ^ 32) : nI a <<< (nI b &&& 31) = nI (a * 2 ^ b) := by
  rw [nI_sh hb]
  refine pk_shlN (nI b) b ?_ h
  have : b = 0 ∨ b = 1 ∨ b = 2 ∨ b = 3 ∨ b = 4 ∨ b = 5 ∨ b = 6 ∨ b = 7 ∨ b = 8 ∨ b = 9 ∨ b = 10 ∨ b = 11 ∨ b = 12 ∨ b = 13 ∨ b = 14 ∨ b = 15 ∨ b = 16 ∨ b = 17 ∨ b = 18 ∨ b = 19 ∨ b = 20 ∨ b = 21 ∨ b = 22 ∨ b = 23 ∨ b = 24 ∨ b = 25 ∨ b = 26 ∨ b = 27 ∨ b = 28 ∨ b = 29 ∨ b = 30 ∨ b = 31 := by omega
  rcases this with rfl | rfl | rfl | rfl | rfl | rfl | rfl | rfl | rfl | rfl | rfl | rfl | rfl | rfl | rfl | rfl | rfl | rfl | rfl | rfl | rfl | rfl | rfl | rfl | rfl | rfl | rfl | rfl | rfl | rfl | rfl | rfl <;> decide
theorem nI_shr {a b : Nat} (ha : a < 2 ^ 31) (hb : b < 32) : nI a >>> (nI b &&& 31) = nI (a / 2 ^ b) := by
  rw [nI_sh hb]
  refine pk_shrN ha (nI b) b ?_
  have : b = 0 ∨ b = 1 ∨ b = 2 ∨ b = 3 ∨ b = 4 ∨ b = 5 ∨ b = 6 ∨ b = 7 ∨ b = 8 ∨ b = 9 ∨ b = 10 ∨ b = 11 ∨ b = 12 ∨ b = 13 ∨ b = 14 ∨ b = 15 ∨ b = 16 ∨ b = 17 ∨ b = 18 ∨ b = 19 ∨ b = 20 ∨ b = 21 ∨ b = 22 ∨ b = 23 ∨ b = 24 ∨ b = 25 ∨ b = 26 ∨ b = 27 ∨ b = 28 ∨ b = 29 ∨ b = 30 ∨ b = 31 := by omega
  rcases this with rfl | rfl | rfl | rfl | rfl | rfl | rfl | rfl | rfl | rfl | rfl | rfl | rfl | rfl | rfl | rfl | rfl | rfl | rfl | rfl | rfl | rfl | rfl | rfl | rfl | rfl | rfl | rfl | rfl | rfl | rfl | rfl <;> decide
section XN
variable {μ : xMeth} {pc : Nat} {L : xLoc} {st : List Value} {M : xMem} {K : Nat × Nat} {Q : xRes → xMem → Prop} {a b : Nat}
theorem ex_topi {x : Int32} (k : ∀ y : Int32, y = x → Wx μ pc L (.int y :: st) M K Q) : Wx μ pc L (.int x :: st) M K Q := k x rfl
theorem ex_topl {x : Int64} (k : ∀ y : Int64, y = x → Wx μ pc L (.long y :: st) M K Q) : Wx μ pc L (.long x :: st) M K Q := k x rfl
theorem ex_asN {x : Int32} (h : x = nI a) (k : Wx μ pc L (.int (nI a) :: st) M K Q) : Wx μ pc L (.int x :: st) M K Q := by rw [h]; exact k
theorem ex_asI {x y : Int32} (h : x = y) (k : Wx μ pc L (.int y :: st) M K Q) : Wx μ pc L (.int x :: st) M K Q := by rw [h]; exact k
theorem ex_iincN {i : Nat} {n : Int} {L' : xLoc} (d : decode (xCd μ) pc = .ok (.iinc i n, 3)) (hn1 : n = 1) (h : L[i]? = some (some (.int (nI a)))) (hn : i < xMl μ) (he : xPut L i (some (.int (nI (a + 1)))) = L') (k : Wx μ (pc + 3) L' st M K Q) : Wx μ pc L st M K Q := by
  subst hn1
  exact ex_iinc d h (nI_1 a) hn he k
theorem ex_iaddN (d : decode (xCd μ) pc = .ok (.iadd, 1))  (k : Wx μ (pc + 1) L (.int (nI (a + b)) :: st) M K Q) : Wx μ pc L (.int (nI b) :: .int (nI a) :: st) M K Q := by
  refine ex_iadd d  ?_
  rw [nI_add]; exact k
theorem ex_imulN (d : decode (xCd μ) pc = .ok (.imul, 1))  (k : Wx μ (pc + 1) L (.int (nI (a * b)) :: st) M K Q) : Wx μ pc L (.int (nI b) :: .int (nI a) :: st) M K Q := by
  refine ex_imul d  ?_
  rw [pk_mul]; exact k
theorem ex_isubN (d : decode (xCd μ) pc = .ok (.isub, 1)) (h : b ≤ a) (k : Wx μ (pc + 1) L (.int (nI (a - b)) :: st) M K Q) : Wx μ pc L (.int (nI b) :: .int (nI a) :: st) M K Q := by
  refine ex_isub d  ?_
  rw [pk_sub h]; exact k
theorem ex_iandN (d : decode (xCd μ) pc = .ok (.iand, 1))  (k : Wx μ (pc + 1) L (.int (nI (a &&& b)) :: st) M K Q) : Wx μ pc L (.int (nI b) :: .int (nI a) :: st) M K Q := by
  refine ex_iand d  ?_
  rw [nI_and]; exact k
theorem ex_iorN (d : decode (xCd μ) pc = .ok (.ior, 1))  (k : Wx μ (pc + 1) L (.int (nI (a ||| b)) :: st) M K Q) : Wx μ pc L (.int (nI b) :: .int (nI a) :: st) M K Q := by
  refine ex_ior d  ?_
  rw [nI_or]; exact k
theorem ex_ishlN (d : decode (xCd μ) pc = .ok (.ishl, 1)) (hb : b < 32) (h : a * 2 ^ b < 2 ^ 32) (k : Wx μ (pc + 1) L (.int (nI (a * 2 ^ b)) :: st) M K Q) : Wx μ pc L (.int (nI b) :: .int (nI a) :: st) M K Q := by
  refine ex_ishl d  ?_
  rw [nI_shl hb h]; exact k
theorem ex_ishrN (d : decode (xCd μ) pc = .ok (.ishr, 1)) (ha : a < 2 ^ 31) (hb : b < 32) (k : Wx μ (pc + 1) L (.int (nI (a / 2 ^ b)) :: st) M K Q) : Wx μ pc L (.int (nI b) :: .int (nI a) :: st) M K Q := by
  refine ex_ishr d  ?_
  rw [nI_shr ha hb]; exact k
theorem ex_idivN (d : decode (xCd μ) pc = .ok (.idiv, 1)) (ha : a < 2 ^ 31) (h0 : 0 < b) (hb : b < 2 ^ 31) (k : Wx μ (pc + 1) L (.int (nI (a / b)) :: st) M K Q) : Wx μ pc L (.int (nI b) :: .int (nI a) :: st) M K Q := by
  refine ex_idiv d (nI_ne0 h0 hb) ?_
  rw [pk_div ha h0 hb]; exact k
theorem ex_iremN (d : decode (xCd μ) pc = .ok (.irem, 1)) (ha : a < 2 ^ 31) (h0 : 0 < b) (hb : b < 2 ^ 31) (k : Wx μ (pc + 1) L (.int (nI (a % b)) :: st) M K Q) : Wx μ pc L (.int (nI b) :: .int (nI a) :: st) M K Q := by
  refine ex_irem d (nI_ne0 h0 hb) ?_
  rw [pk_rem ha h0 hb]; exact k
theorem ex_icmp_eqN {off : Int} {tgt : Nat} (d : decode (xCd μ) pc = .ok (.if_icmp .eq off, 3)) (ht : (pc : Int) + off = (tgt : Int)) (ha : a < 2 ^ 31) (hb : b < 2 ^ 31) (kt : a = b → Wx μ tgt L st M K Q) (kf : a ≠ b → Wx μ (pc + 3) L st M K Q) : Wx μ pc L (.int (nI b) :: .int (nI a) :: st) M K Q :=
  ex_icmp_eq d ht (fun h => kt ((nI_eq ha hb).mp h)) (fun h => kf (fun e => h ((nI_eq ha hb).mpr e)))
theorem ex_icmp_neN {off : Int} {tgt : Nat} (d : decode (xCd μ) pc = .ok (.if_icmp .ne off, 3)) (ht : (pc : Int) + off = (tgt : Int)) (ha : a < 2 ^ 31) (hb : b < 2 ^ 31) (kt : a ≠ b → Wx μ tgt L st M K Q) (kf : a = b → Wx μ (pc + 3) L st M K Q) : Wx μ pc L (.int (nI b) :: .int (nI a) :: st) M K Q :=
  ex_icmp_ne d ht (fun h => kt (fun e => h ((nI_eq ha hb).mpr e))) (fun h => kf ((nI_eq ha hb).mp h))
theorem ex_icmp_ltN {off : Int} {tgt : Nat} (d : decode (xCd μ) pc = .ok (.if_icmp .lt off, 3)) (ht : (pc : Int) + off = (tgt : Int)) (ha : a < 2 ^ 31) (hb : b < 2 ^ 31) (kt : a < b → Wx μ tgt L st M K Q) (kf : b ≤ a → Wx μ (pc + 3) L st M K Q) : Wx μ pc L (.int (nI b) :: .int (nI a) :: st) M K Q :=
  ex_icmp_lt d ht (fun h => kt ((nI_ltI ha hb).mp h)) (fun h => kf (Nat.le_of_not_lt fun e => h ((nI_ltI ha hb).mpr e)))
theorem ex_icmp_geN {off : Int} {tgt : Nat} (d : decode (xCd μ) pc = .ok (.if_icmp .ge off, 3)) (ht : (pc : Int) + off = (tgt : Int)) (ha : a < 2 ^ 31) (hb : b < 2 ^ 31) (kt : b ≤ a → Wx μ tgt L st M K Q) (kf : a < b → Wx μ (pc + 3) L st M K Q) : Wx μ pc L (.int (nI b) :: .int (nI a) :: st) M K Q :=
  ex_icmp_ge d ht (fun h => kt ((nI_leI hb ha).mp h)) (fun h => kf (Nat.lt_of_not_le fun e => h ((nI_leI hb ha).mpr e)))
theorem ex_icmp_gtN {off : Int} {tgt : Nat} (d : decode (xCd μ) pc = .ok (.if_icmp .gt off, 3)) (ht : (pc : Int) + off = (tgt : Int)) (ha : a < 2 ^ 31) (hb : b < 2 ^ 31) (kt : b < a → Wx μ tgt L st M K Q) (kf : a ≤ b → Wx μ (pc + 3) L st M K Q) : Wx μ pc L (.int (nI b) :: .int (nI a) :: st) M K Q :=
  ex_icmp_gt d ht (fun h => kt ((nI_ltI hb ha).mp h)) (fun h => kf (Nat.le_of_not_lt fun e => h ((nI_ltI hb ha).mpr e)))
theorem ex_icmp_leN {off : Int} {tgt : Nat} (d : decode (xCd μ) pc = .ok (.if_icmp .le off, 3)) (ht : (pc : Int) + off = (tgt : Int)) (ha : a < 2 ^ 31) (hb : b < 2 ^ 31) (kt : a ≤ b → Wx μ tgt L st M K Q) (kf : b < a → Wx μ (pc + 3) L st M K Q) : Wx μ pc L (.int (nI b) :: .int (nI a) :: st) M K Q :=
  ex_icmp_le d ht (fun h => kt ((nI_leI ha hb).mp h)) (fun h => kf (Nat.lt_of_not_le fun e => h ((nI_leI ha hb).mpr e)))
theorem ex_if_eqN {off : Int} {tgt : Nat} (d : decode (xCd μ) pc = .ok (.ifCond .eq off, 3)) (ht : (pc : Int) + off = (tgt : Int)) (ha : a < 2 ^ 31) (kt : a = 0 → Wx μ tgt L st M K Q) (kf : a ≠ 0 → Wx μ (pc + 3) L st M K Q) : Wx μ pc L (.int (nI a) :: st) M K Q :=
  ex_if_eq d ht (fun h => kt ((nI_eq ha (by decide)).mp (h.trans nI_0.symm))) (fun h => kf (fun e => h (by rw [e]; exact nI_0)))
theorem ex_if_neN {off : Int} {tgt : Nat} (d : decode (xCd μ) pc = .ok (.ifCond .ne off, 3)) (ht : (pc : Int) + off = (tgt : Int)) (ha : a < 2 ^ 31) (kt : a ≠ 0 → Wx μ tgt L st M K Q) (kf : a = 0 → Wx μ (pc + 3) L st M K Q) : Wx μ pc L (.int (nI a) :: st) M K Q :=
  ex_if_ne d ht (fun h => kt (fun e => h (by rw [e]; exact nI_0))) (fun h => kf ((nI_eq ha (by decide)).mp (h.trans nI_0.symm)))
theorem ex_if_gtN {off : Int} {tgt : Nat} (d : decode (xCd μ) pc = .ok (.ifCond .gt off, 3)) (ht : (pc : Int) + off = (tgt : Int)) (ha : a < 2 ^ 31) (kt : 0 < a → Wx μ tgt L st M K Q) (kf : a = 0 → Wx μ (pc + 3) L st M K Q) : Wx μ pc L (.int (nI a) :: st) M K Q :=
  ex_if_gt d ht (fun h => kt (Nat.pos_of_ne_zero fun e => by rw [e] at h; exact absurd h (by decide))) (fun h => kf (Nat.eq_zero_of_not_pos fun e => h (by rw [← nI_0]; exact nI_lt e ha)))
theorem ex_if_leN {off : Int} {tgt : Nat} (d : decode (xCd μ) pc = .ok (.ifCond .le off, 3)) (ht : (pc : Int) + off = (tgt : Int)) (ha : a < 2 ^ 31) (kt : a = 0 → Wx μ tgt L st M K Q) (kf : 0 < a → Wx μ (pc + 3) L st M K Q) : Wx μ pc L (.int (nI a) :: st) M K Q :=
  ex_if_le d ht (fun h => kt (Nat.eq_zero_of_not_pos fun e => nI_nle e ha h)) (fun h => kf (Nat.pos_of_ne_zero fun e => h (by rw [e]; decide)))
theorem ex_if_ltN {off : Int} (d : decode (xCd μ) pc = .ok (.ifCond .lt off, 3)) {tgt : Nat} (ht : (pc : Int) + off = (tgt : Int)) (ha : a < 2 ^ 31) (kf : Wx μ (pc + 3) L st M K Q) : Wx μ pc L (.int (nI a) :: st) M K Q :=
  ex_if_lt d ht (fun h => absurd h (nI_pos ha)) (fun _ => kf)
theorem ex_if_geN {off : Int} {tgt : Nat} (d : decode (xCd μ) pc = .ok (.ifCond .ge off, 3)) (ht : (pc : Int) + off = (tgt : Int)) (ha : a < 2 ^ 31) (kt : Wx μ tgt L st M K Q) : Wx μ pc L (.int (nI a) :: st) M K Q :=
  ex_if_ge d ht (fun _ => kt) (fun h => absurd (nI_pos' ha) h)
end XN
section XNM
variable {μ : xMeth} {pc : Nat} {L : xLoc} {st : List Value} {n g : Nat} {i : Nat → Nat → Int32} {q : Nat → Nat → Int64} {r : Nat → Nat → Value} {K : Nat × Nat} {Q : xRes → xMem → Prop}
theorem sh_len {a t N : Nat} (h : SHl[a]? = some (.inr (t, N))) : N < 4096 := by
  have hall : ∀ z ∈ SHl, (match z with | .inl _ => true | .inr (_, N) => decide (N < 4096)) = true := by decide +kernel
  have := hall _ (List.mem_of_getElem? h)
  exact of_decide_eq_true this
theorem sh_in {a t N k : Nat} (h : SHl[a]? = some (.inr (t, N))) (hk : k < N) : vp_in (nI k) N := vp_in_nI hk (Nat.lt_trans (sh_len h) (by decide))
theorem sh_cl {a t N k : Nat} (h : SHl[a]? = some (.inr (t, N))) (hk : k < N) : (nI k).toNatClampNeg = k := nI_clamp (Nat.lt_trans hk (Nat.lt_trans (sh_len h) (by decide)))
theorem ex_ialdN {a N k : Nat} {x : Int32} (d : decode (xCd μ) pc = .ok (.iaload, 1)) (hs : SHl[a]? = some (.inr (0, N))) (ha : a < n) (hk : k < N) (hx : i a k = x) (kk : Wx μ (pc + 1) L (.int x :: st) (n, g, i, q, r) K Q) : Wx μ pc L (.int (nI k) :: .ref a :: st) (n, g, i, q, r) K Q :=
  ex_iald d hs ha (sh_in hs hk) (by rw [sh_cl hs hk]; exact hx) kk
theorem ex_laldN {a N k : Nat} {x : Int64} (d : decode (xCd μ) pc = .ok (.laload, 1)) (hs : SHl[a]? = some (.inr (2, N))) (ha : a < n) (hk : k < N) (hx : q a k = x) (kk : Wx μ (pc + 1) L (.long x :: st) (n, g, i, q, r) K Q) : Wx μ pc L (.int (nI k) :: .ref a :: st) (n, g, i, q, r) K Q :=
  ex_lald d hs ha (sh_in hs hk) (by rw [sh_cl hs hk]; exact hx) kk
theorem ex_iastN {a N k : Nat} {x : Int32} (d : decode (xCd μ) pc = .ok (.iastore, 1)) (hs : SHl[a]? = some (.inr (0, N))) (ha : a < n) (hk : k < N) (kk : Wx μ (pc + 1) L st (n, g, xU i a k x, q, r) K Q) : Wx μ pc L (.int x :: .int (nI k) :: .ref a :: st) (n, g, i, q, r) K Q :=
  ex_iast d hs ha (sh_in hs hk) (by rw [sh_cl hs hk]; exact kk)
theorem ex_lastN {a N k : Nat} {x : Int64} (d : decode (xCd μ) pc = .ok (.lastore, 1)) (hs : SHl[a]? = some (.inr (2, N))) (ha : a < n) (hk : k < N) (kk : Wx μ (pc + 1) L st (n, g, i, xUL q a k x, r) K Q) : Wx μ pc L (.long x :: .int (nI k) :: .ref a :: st) (n, g, i, q, r) K Q :=
  ex_last d hs ha (sh_in hs hk) (by rw [sh_cl hs hk]; exact kk)
end XNM
section XC2
variable {μ ν : xMeth} {pc : Nat} {L : xLoc} {st stk : List Value} {M : xMem} {K : Nat × Nat} {Q : xRes → xMem → Prop} {idx : Nat} {as : List Value}
/-- calls that make nothing: what is behind the call is the callee's end -/
theorem ex_cV {a ci : Nat} {z : vw_C} {L0 : xLoc} (d : decode (xCd μ) pc = .ok (.invokevirtual idx, 3)) (ln : xLV (xOwn μ) idx ν) (mf : xMF ν) (hs : SHl[a]? = some (.inl ci)) (ha : a < M.1) (hz : vwCl[ci]? = some z) (hzn : z.1 = xOwn ν) (hnp : (parseMethodDescriptor (xNm ν).desc).map (fun d => d.parameters.length) = some as.length) (hst : stk = as.reverse ++ .ref a :: st) (hL0 : xEn (xMl ν) (.ref a :: as) = L0) (hr : (xEnA (.ref a :: as)).length ≤ xMl ν ∧ (st.map fun v => v.category).sum ≤ 8 ∧ (xFr ν + 1 ≤ xFr μ ∧ 8 + (xMl ν + 11) + xLo ν ≤ xLo μ)) (hx : ¬ xLw (xNm μ).name)
    (hk : Wx ν 0 L0 [] M (0, 0) (fun r M' => ∃ v, r = .ok v ∧ Wx μ (pc + 3) L (v.toList ++ st) M' K Q)) : Wx μ pc L stk M K Q :=
  ex_callV (Kc := (0, 0)) (Qk := fun v M' => Wx μ (pc + 3) L (v.toList ++ st) M' K Q) d ln mf hs ha hz hzn hnp hst hr.1 hr.2.1 hr.2.2 (Or.inl hx) ⟨Nat.le_refl _, Nat.le_refl _⟩ (by rw [hL0]; exact hk) (fun _ _ h => h)
theorem ex_cS {L0 : xLoc} (d : decode (xCd μ) pc = .ok (.invokestatic idx, 3)) (ln : xLS (xOwn μ) idx ν) (mf : xMF ν) (hnp : (parseMethodDescriptor (xNm ν).desc).map (fun d => d.parameters.length) = some as.length) (hst : stk = as.reverse ++ st) (hL0 : xEn (xMl ν) as = L0) (hr : (xEnA as).length ≤ xMl ν ∧ (st.map fun v => v.category).sum ≤ 8 ∧ (xFr ν + 1 ≤ xFr μ ∧ 8 + (xMl ν + 11) + xLo ν ≤ xLo μ)) (hx : ¬ xLw (xNm μ).name)
    (hk : Wx ν 0 L0 [] M (0, 0) (fun r M' => ∃ v, r = .ok v ∧ Wx μ (pc + 3) L (v.toList ++ st) M' K Q)) : Wx μ pc L stk M K Q :=
  ex_callS (Kc := (0, 0)) (Qk := fun v M' => Wx μ (pc + 3) L (v.toList ++ st) M' K Q) d ln mf hnp hst hr.1 hr.2.1 hr.2.2 (Or.inl hx) ⟨Nat.le_refl _, Nat.le_refl _⟩ (by rw [hL0]; exact hk) (fun _ _ h => h)
theorem ex_cN {host : String} {L0 : xLoc} (d : decode (xCd μ) pc = .ok (.invokestatic idx, 3)) (ln : xLN (xOwn μ) idx ν host) (mf : xMF ν) (hnp : (parseMethodDescriptor (xNm ν).desc).map (fun d => d.parameters.length) = some as.length) (hst : stk = as.reverse ++ st) (hL0 : xEn (xMl ν) as = L0) (hr : (xEnA as).length ≤ xMl ν ∧ (st.map fun v => v.category).sum ≤ 8 ∧ (xFr ν + 1 ≤ xFr μ ∧ 8 + (xMl ν + 11) + xLo ν ≤ xLo μ)) (hx : ¬ xLw (xNm μ).name)
    (hk : Wx ν 0 L0 [] M (0, 0) (fun r M' => ∃ v, r = .ok v ∧ Wx μ (pc + 3) L (v.toList ++ st) M' K Q)) : Wx μ pc L stk M K Q :=
  ex_callN (Kc := (0, 0)) (Qk := fun v M' => Wx μ (pc + 3) L (v.toList ++ st) M' K Q) d ln mf hnp hst hr.1 hr.2.1 hr.2.2 (Or.inl hx) ⟨Nat.le_refl _, Nat.le_refl _⟩ (by rw [hL0]; exact hk) (fun _ _ h => h)
end XC2
/-- references in the main phase: the class's tree and spare may be swapped -/
def RTl : List (Nat × List Nat) := [(0, [1, 16, 27, 32, 41, 0, 0]), (1, [2, 4, 6, 8, 10, 12, 14]), (2, [0, 0, 3]), (4, [5]), (6, [7]), (8, [9]), (10, [0, 0, 11]), (12, [0, 0, 13]), (14, [0, 0, 15]), (16, [1, 17, 19, 21, 23, 25]), (17, [18]), (19, [20]), (21, [0, 0, 22]), (23, [0, 0, 24]), (25, [0, 0, 26]), (27, [1, 28, 30]), (28, [29]), (30, [31]), (32, [1, 16, 33, 35, 37, 39]), (33, [34]), (35, [36]), (37, [38]), (39, [40]), (41, [1, 42, 44]), (42, [43]), (44, [45]), (46, [47, 49]), (47, [0, 0, 48]), (49, [50]), (51, [52, 54]), (52, [0, 0, 53]), (54, [55])]
def RT (t : Bool) : Nat → Nat → Value := fun a k => if a = 0 then (if k = 5 then .ref (if t then 51 else 46) else if k = 6 then .ref (if t then 46 else 51) else match ((RTl.lookup 0).getD [])[k]? with | some v => .ref v | none => .null) else match ((RTl.lookup a).getD [])[k]? with | some v => .ref v | none => .null
