/-! ===== the rows of the abstract machine ===== -/
section XROWS
variable {μ : xMeth} {pc : Nat} {L : xLoc} {st : List Value} {M : xMem} {K : Nat × Nat} {Q : xRes → xMem → Prop}
theorem ex_less {L' : xLoc} (h : xSub L' L) (k : Wx μ pc L' st M K Q) : Wx μ pc L st M K Q := by
  intro p l e s m args below meth c R base b D T CT ST QF hC hF H locs cells slots ls hS hL hc hs
  refine k p l e s m args below meth c R base b D T CT ST QF hC hF H locs cells slots ls hS (lv_less hL fun q hq => ?_) hc hs
  obtain ⟨j, v⟩ := q
  obtain ⟨i, u, h1, h2, h3⟩ := xlv_mem.mp hq
  exact xlv_mem.mpr ⟨i, u, h1, xSub_get h h2, h3⟩
theorem ex_mono {K' : Nat × Nat} {Q' : xRes → xMem → Prop} (hQ : ∀ r M', Q' r M' → Q r M') (h1 : K'.1 ≤ K.1) (h2 : K'.2 ≤ K.2) (k : Wx μ pc L st M K' Q') : Wx μ pc L st M K Q := by
  intro p l e s m args below meth c R base b D T CT ST QF hC hF H locs cells slots ls hS hL hc hs
  exact k p l e s m args below meth c R base b D T CT ST QF hC ⟨fun pc ls H locs M v ins a1 a2 => hF.1 pc ls H locs M v ins a1 (hQ _ _ a2), fun pc ls H locs n g i q r E rest cells slots a1 a2 a3 => hF.2 pc ls H locs n g i q r E rest cells slots a1 a2 (hQ _ _ a3)⟩ H locs cells slots ls hS hL (Nat.le_trans (Nat.add_le_add_left h1 _) hc) (Nat.le_trans (Nat.add_le_add_left h2 _) hs)

theorem ex_iconst {n : Int} {v : Int32} (d : decode (xCd μ) pc = .ok (.iconst n, 1)) (hv : Int32.ofInt n = v) (k : Wx μ (pc + 1) L (.int v :: st) M K Q) : Wx μ pc L st M K Q := by
  intro p l e s m args below meth c R base b D T CT ST QF hC hF H locs cells slots ls hS hL hc hs
  exact lv_iconst hC.1 hC.2.1 d hv (k p l e s m args below meth c R base b D T CT ST QF hC hF H locs cells slots ls hS hL hc hs)
theorem ex_bipush {n : Int} {v : Int32} (d : decode (xCd μ) pc = .ok (.bipush n, 2)) (hv : (Int8.ofInt n).toInt32 = v) (k : Wx μ (pc + 2) L (.int v :: st) M K Q) : Wx μ pc L st M K Q := by
  intro p l e s m args below meth c R base b D T CT ST QF hC hF H locs cells slots ls hS hL hc hs
  exact lv_bipush hC.1 hC.2.1 d hv (k p l e s m args below meth c R base b D T CT ST QF hC hF H locs cells slots ls hS hL hc hs)
theorem ex_sipush {n : Int} {v : Int32} (d : decode (xCd μ) pc = .ok (.sipush n, 3)) (hv : (Int16.ofInt n).toInt32 = v) (k : Wx μ (pc + 3) L (.int v :: st) M K Q) : Wx μ pc L st M K Q := by
  intro p l e s m args below meth c R base b D T CT ST QF hC hF H locs cells slots ls hS hL hc hs
  exact lv_sipush hC.1 hC.2.1 d hv (k p l e s m args below meth c R base b D T CT ST QF hC hF H locs cells slots ls hS hL hc hs)
theorem ex_lconst {n : Fin 2} {v : Int64} (d : decode (xCd μ) pc = .ok (.lconst n, 1)) (hv : Int64.ofNat (n : Nat) = v) (k : Wx μ (pc + 1) L (.long v :: st) M K Q) : Wx μ pc L st M K Q := by
  intro p l e s m args below meth c R base b D T CT ST QF hC hF H locs cells slots ls hS hL hc hs
  exact lv_lconst hC.1 hC.2.1 d hv (k p l e s m args below meth c R base b D T CT ST QF hC hF H locs cells slots ls hS hL hc hs)
theorem ex_ldc {ix : Nat} {v : Int32} (d : decode (xCd μ) pc = .ok (.ldc ix, 2)) (h : Cond.constant (xOwn μ) ix v ∈ xWd) (k : Wx μ (pc + 2) L (.int v :: st) M K Q) : Wx μ pc L st M K Q := by
  intro p l e s m args below meth c R base b D T CT ST QF hC hF H locs cells slots ls hS hL hc hs
  exact lv_ldc hC.1 hC.2.1 hC.2.2.1 (hC.2.2.2.2.1 _ h) d (k p l e s m args below meth c R base b D T CT ST QF hC hF H locs cells slots ls hS hL hc hs)
theorem ex_iload_n {kk : Fin 4} {i : Nat} {x : Int32} (d : decode (xCd μ) pc = .ok (.iload_n kk, 1)) (hi : (kk : Nat) = i) (h : L[i]? = some (some (.int x))) (k : Wx μ (pc + 1) L (.int x :: st) M K Q) : Wx μ pc L st M K Q := by
  intro p l e s m args below meth c R base b D T CT ST QF hC hF H locs cells slots ls hS hL hc hs
  exact lv_iload_n hC.1 hC.2.1 d hi (xlv_at hL h) (k p l e s m args below meth c R base b D T CT ST QF hC hF H locs cells slots ls hS hL hc hs)
theorem ex_iload {i : Nat} {x : Int32} (d : decode (xCd μ) pc = .ok (.iload i, 2)) (h : L[i]? = some (some (.int x))) (k : Wx μ (pc + 2) L (.int x :: st) M K Q) : Wx μ pc L st M K Q := by
  intro p l e s m args below meth c R base b D T CT ST QF hC hF H locs cells slots ls hS hL hc hs
  exact lv_iload hC.1 hC.2.1 d (xlv_at hL h) (k p l e s m args below meth c R base b D T CT ST QF hC hF H locs cells slots ls hS hL hc hs)
theorem ex_istore_n {kk : Fin 4} {i : Nat} {x : Int32} {L' : xLoc} (d : decode (xCd μ) pc = .ok (.istore_n kk, 1)) (hi : (kk : Nat) = i) (hn : i < xMl μ) (he : xPut L i (some (.int x)) = L') (k : Wx μ (pc + 1) L' st M K Q) : Wx μ pc L (.int x :: st) M K Q := by
  intro p l e s m args below meth c R base b D T CT ST QF hC hF H locs cells slots ls hS hL hc hs
  subst he
  exact lv_istore_n hC.1 hC.2.1 d hi hL hn rfl (fun ls hl => k p l e s m args below meth c R base b D T CT ST QF hC hF H locs cells slots ls hS (lv_less hl fun q hq => xlv_put hq) hc hs)
theorem ex_istore {i : Nat} {x : Int32} {L' : xLoc} (d : decode (xCd μ) pc = .ok (.istore i, 2)) (hn : i < xMl μ) (he : xPut L i (some (.int x)) = L') (k : Wx μ (pc + 2) L' st M K Q) : Wx μ pc L (.int x :: st) M K Q := by
  intro p l e s m args below meth c R base b D T CT ST QF hC hF H locs cells slots ls hS hL hc hs
  subst he
  exact lv_istore hC.1 hC.2.1 d hL hn rfl (fun ls hl => k p l e s m args below meth c R base b D T CT ST QF hC hF H locs cells slots ls hS (lv_less hl fun q hq => xlv_put hq) hc hs)
theorem ex_lload_n {kk : Fin 4} {i : Nat} {x : Int64} (d : decode (xCd μ) pc = .ok (.lload_n kk, 1)) (hi : (kk : Nat) = i) (h : L[i]? = some (some (.long x))) (k : Wx μ (pc + 1) L (.long x :: st) M K Q) : Wx μ pc L st M K Q := by
  intro p l e s m args below meth c R base b D T CT ST QF hC hF H locs cells slots ls hS hL hc hs
  exact lv_lload_n hC.1 hC.2.1 d hi (xlv_at hL h) (k p l e s m args below meth c R base b D T CT ST QF hC hF H locs cells slots ls hS hL hc hs)
theorem ex_lload {i : Nat} {x : Int64} (d : decode (xCd μ) pc = .ok (.lload i, 2)) (h : L[i]? = some (some (.long x))) (k : Wx μ (pc + 2) L (.long x :: st) M K Q) : Wx μ pc L st M K Q := by
  intro p l e s m args below meth c R base b D T CT ST QF hC hF H locs cells slots ls hS hL hc hs
  exact lv_lload hC.1 hC.2.1 d (xlv_at hL h) (k p l e s m args below meth c R base b D T CT ST QF hC hF H locs cells slots ls hS hL hc hs)
theorem ex_lstore_n {kk : Fin 4} {i : Nat} {x : Int64} {L' : xLoc} (d : decode (xCd μ) pc = .ok (.lstore_n kk, 1)) (hi : (kk : Nat) = i) (hn : i + 1 < xMl μ) (he : xPut2 L i (some (.long x)) = L') (k : Wx μ (pc + 1) L' st M K Q) : Wx μ pc L (.long x :: st) M K Q := by
  intro p l e s m args below meth c R base b D T CT ST QF hC hF H locs cells slots ls hS hL hc hs
  subst he
  exact lv_lstore_n hC.1 hC.2.1 d hi hL hn rfl (fun ls hl => k p l e s m args below meth c R base b D T CT ST QF hC hF H locs cells slots ls hS (lv_less hl fun q hq => xlv_put2 hq) hc hs)
theorem ex_lstore {i : Nat} {x : Int64} {L' : xLoc} (d : decode (xCd μ) pc = .ok (.lstore i, 2)) (hn : i + 1 < xMl μ) (he : xPut2 L i (some (.long x)) = L') (k : Wx μ (pc + 2) L' st M K Q) : Wx μ pc L (.long x :: st) M K Q := by
  intro p l e s m args below meth c R base b D T CT ST QF hC hF H locs cells slots ls hS hL hc hs
  subst he
  exact lv_lstore hC.1 hC.2.1 d hL hn rfl (fun ls hl => k p l e s m args below meth c R base b D T CT ST QF hC hF H locs cells slots ls hS (lv_less hl fun q hq => xlv_put2 hq) hc hs)
theorem ex_aload_n {kk : Fin 4} {i : Nat} {x : Nat} (d : decode (xCd μ) pc = .ok (.aload_n kk, 1)) (hi : (kk : Nat) = i) (h : L[i]? = some (some (.ref x))) (k : Wx μ (pc + 1) L (.ref x :: st) M K Q) : Wx μ pc L st M K Q := by
  intro p l e s m args below meth c R base b D T CT ST QF hC hF H locs cells slots ls hS hL hc hs
  exact lv_aload_n hC.1 hC.2.1 d hi (xlv_at hL h) (k p l e s m args below meth c R base b D T CT ST QF hC hF H locs cells slots ls hS hL hc hs)
theorem ex_aload {i : Nat} {x : Nat} (d : decode (xCd μ) pc = .ok (.aload i, 2)) (h : L[i]? = some (some (.ref x))) (k : Wx μ (pc + 2) L (.ref x :: st) M K Q) : Wx μ pc L st M K Q := by
  intro p l e s m args below meth c R base b D T CT ST QF hC hF H locs cells slots ls hS hL hc hs
  exact lv_aload hC.1 hC.2.1 d (xlv_at hL h) (k p l e s m args below meth c R base b D T CT ST QF hC hF H locs cells slots ls hS hL hc hs)
theorem ex_astore_n {kk : Fin 4} {i : Nat} {x : Nat} {L' : xLoc} (d : decode (xCd μ) pc = .ok (.astore_n kk, 1)) (hi : (kk : Nat) = i) (hn : i < xMl μ) (he : xPut L i (some (.ref x)) = L') (k : Wx μ (pc + 1) L' st M K Q) : Wx μ pc L (.ref x :: st) M K Q := by
  intro p l e s m args below meth c R base b D T CT ST QF hC hF H locs cells slots ls hS hL hc hs
  subst he
  exact lv_astore_n hC.1 hC.2.1 d hi hL hn rfl (fun ls hl => k p l e s m args below meth c R base b D T CT ST QF hC hF H locs cells slots ls hS (lv_less hl fun q hq => xlv_put hq) hc hs)
theorem ex_astore {i : Nat} {x : Nat} {L' : xLoc} (d : decode (xCd μ) pc = .ok (.astore i, 2)) (hn : i < xMl μ) (he : xPut L i (some (.ref x)) = L') (k : Wx μ (pc + 2) L' st M K Q) : Wx μ pc L (.ref x :: st) M K Q := by
  intro p l e s m args below meth c R base b D T CT ST QF hC hF H locs cells slots ls hS hL hc hs
  subst he
  exact lv_astore hC.1 hC.2.1 d hL hn rfl (fun ls hl => k p l e s m args below meth c R base b D T CT ST QF hC hF H locs cells slots ls hS (lv_less hl fun q hq => xlv_put hq) hc hs)
theorem ex_iinc {i : Nat} {n : Int} {x v : Int32} {L' : xLoc} (d : decode (xCd μ) pc = .ok (.iinc i n, 3)) (h : L[i]? = some (some (.int x))) (hv : x + Int32.ofInt n = v) (hn : i < xMl μ) (he : xPut L i (some (.int v)) = L') (k : Wx μ (pc + 3) L' st M K Q) : Wx μ pc L st M K Q := by
  intro p l e s m args below meth c R base b D T CT ST QF hC hF H locs cells slots ls hS hL hc hs
  subst he
  obtain ⟨j, hj⟩ := List.getElem?_of_mem (xlv_mem (base := base) (b := b) (i := 0) (j := i).mpr ⟨i, .int x, (Nat.zero_add i).symm, h, rfl⟩)
  exact lv_iinc hC.1 hC.2.1 d hL (k := j) hj hv hn rfl (fun ls hl => k p l e s m args below meth c R base b D T CT ST QF hC hF H locs cells slots ls hS (lv_less hl fun q hq => xlv_put hq) hc hs)
theorem ex_iadd {x y : Int32} (d : decode (xCd μ) pc = .ok (.iadd, 1)) (k : Wx μ (pc + 1) L (.int (x + y) :: st) M K Q) : Wx μ pc L (.int y :: .int x :: st) M K Q := by
  intro p l e s m args below meth c R base b D T CT ST QF hC hF H locs cells slots ls hS hL hc hs
  exact lv_iadd hC.1 hC.2.1 d (k p l e s m args below meth c R base b D T CT ST QF hC hF H locs cells slots ls hS hL hc hs)
theorem ex_isub {x y : Int32} (d : decode (xCd μ) pc = .ok (.isub, 1)) (k : Wx μ (pc + 1) L (.int (x - y) :: st) M K Q) : Wx μ pc L (.int y :: .int x :: st) M K Q := by
  intro p l e s m args below meth c R base b D T CT ST QF hC hF H locs cells slots ls hS hL hc hs
  exact lv_isub hC.1 hC.2.1 d (k p l e s m args below meth c R base b D T CT ST QF hC hF H locs cells slots ls hS hL hc hs)
theorem ex_imul {x y : Int32} (d : decode (xCd μ) pc = .ok (.imul, 1)) (k : Wx μ (pc + 1) L (.int (x * y) :: st) M K Q) : Wx μ pc L (.int y :: .int x :: st) M K Q := by
  intro p l e s m args below meth c R base b D T CT ST QF hC hF H locs cells slots ls hS hL hc hs
  exact lv_imul hC.1 hC.2.1 d (k p l e s m args below meth c R base b D T CT ST QF hC hF H locs cells slots ls hS hL hc hs)
theorem ex_iand {x y : Int32} (d : decode (xCd μ) pc = .ok (.iand, 1)) (k : Wx μ (pc + 1) L (.int (x &&& y) :: st) M K Q) : Wx μ pc L (.int y :: .int x :: st) M K Q := by
  intro p l e s m args below meth c R base b D T CT ST QF hC hF H locs cells slots ls hS hL hc hs
  exact lv_iand hC.1 hC.2.1 d (k p l e s m args below meth c R base b D T CT ST QF hC hF H locs cells slots ls hS hL hc hs)
theorem ex_ior {x y : Int32} (d : decode (xCd μ) pc = .ok (.ior, 1)) (k : Wx μ (pc + 1) L (.int (x ||| y) :: st) M K Q) : Wx μ pc L (.int y :: .int x :: st) M K Q := by
  intro p l e s m args below meth c R base b D T CT ST QF hC hF H locs cells slots ls hS hL hc hs
  exact lv_ior hC.1 hC.2.1 d (k p l e s m args below meth c R base b D T CT ST QF hC hF H locs cells slots ls hS hL hc hs)
theorem ex_ishl {x y : Int32} (d : decode (xCd μ) pc = .ok (.ishl, 1)) (k : Wx μ (pc + 1) L (.int (x <<< (y &&& 31)) :: st) M K Q) : Wx μ pc L (.int y :: .int x :: st) M K Q := by
  intro p l e s m args below meth c R base b D T CT ST QF hC hF H locs cells slots ls hS hL hc hs
  exact lv_ishl hC.1 hC.2.1 d (k p l e s m args below meth c R base b D T CT ST QF hC hF H locs cells slots ls hS hL hc hs)
theorem ex_ishr {x y : Int32} (d : decode (xCd μ) pc = .ok (.ishr, 1)) (k : Wx μ (pc + 1) L (.int (x >>> (y &&& 31)) :: st) M K Q) : Wx μ pc L (.int y :: .int x :: st) M K Q := by
  intro p l e s m args below meth c R base b D T CT ST QF hC hF H locs cells slots ls hS hL hc hs
  exact lv_ishr hC.1 hC.2.1 d (k p l e s m args below meth c R base b D T CT ST QF hC hF H locs cells slots ls hS hL hc hs)
theorem ex_idiv {x y : Int32} (d : decode (xCd μ) pc = .ok (.idiv, 1)) (hne : ¬ y = 0) (k : Wx μ (pc + 1) L (.int (x / y) :: st) M K Q) : Wx μ pc L (.int y :: .int x :: st) M K Q := by
  intro p l e s m args below meth c R base b D T CT ST QF hC hF H locs cells slots ls hS hL hc hs
  exact lv_idiv hC.1 hC.2.1 d hne (k p l e s m args below meth c R base b D T CT ST QF hC hF H locs cells slots ls hS hL hc hs)
theorem ex_irem {x y : Int32} (d : decode (xCd μ) pc = .ok (.irem, 1)) (hne : ¬ y = 0) (k : Wx μ (pc + 1) L (.int (x - x / y * y) :: st) M K Q) : Wx μ pc L (.int y :: .int x :: st) M K Q := by
  intro p l e s m args below meth c R base b D T CT ST QF hC hF H locs cells slots ls hS hL hc hs
  exact lv_irem hC.1 hC.2.1 d hne (k p l e s m args below meth c R base b D T CT ST QF hC hF H locs cells slots ls hS hL hc hs)
theorem ex_ineg {x : Int32} (d : decode (xCd μ) pc = .ok (.ineg, 1)) (k : Wx μ (pc + 1) L (.int (-x) :: st) M K Q) : Wx μ pc L (.int x :: st) M K Q := by
  intro p l e s m args below meth c R base b D T CT ST QF hC hF H locs cells slots ls hS hL hc hs
  exact lv_ineg hC.1 hC.2.1 d (k p l e s m args below meth c R base b D T CT ST QF hC hF H locs cells slots ls hS hL hc hs)
theorem ex_ladd {x y : Int64} (d : decode (xCd μ) pc = .ok (.ladd, 1)) (k : Wx μ (pc + 1) L (.long (x + y) :: st) M K Q) : Wx μ pc L (.long y :: .long x :: st) M K Q := by
  intro p l e s m args below meth c R base b D T CT ST QF hC hF H locs cells slots ls hS hL hc hs
  exact lv_ladd hC.1 hC.2.1 d (k p l e s m args below meth c R base b D T CT ST QF hC hF H locs cells slots ls hS hL hc hs)
theorem ex_lsub {x y : Int64} (d : decode (xCd μ) pc = .ok (.lsub, 1)) (k : Wx μ (pc + 1) L (.long (x - y) :: st) M K Q) : Wx μ pc L (.long y :: .long x :: st) M K Q := by
  intro p l e s m args below meth c R base b D T CT ST QF hC hF H locs cells slots ls hS hL hc hs
  exact lv_lsub hC.1 hC.2.1 d (k p l e s m args below meth c R base b D T CT ST QF hC hF H locs cells slots ls hS hL hc hs)
theorem ex_lmul {x y : Int64} (d : decode (xCd μ) pc = .ok (.lmul, 1)) (k : Wx μ (pc + 1) L (.long (x * y) :: st) M K Q) : Wx μ pc L (.long y :: .long x :: st) M K Q := by
  intro p l e s m args below meth c R base b D T CT ST QF hC hF H locs cells slots ls hS hL hc hs
  exact lv_lmul hC.1 hC.2.1 d (k p l e s m args below meth c R base b D T CT ST QF hC hF H locs cells slots ls hS hL hc hs)
theorem ex_land {x y : Int64} (d : decode (xCd μ) pc = .ok (.land, 1)) (k : Wx μ (pc + 1) L (.long (x &&& y) :: st) M K Q) : Wx μ pc L (.long y :: .long x :: st) M K Q := by
  intro p l e s m args below meth c R base b D T CT ST QF hC hF H locs cells slots ls hS hL hc hs
  exact lv_land hC.1 hC.2.1 d (k p l e s m args below meth c R base b D T CT ST QF hC hF H locs cells slots ls hS hL hc hs)
theorem ex_lor {x y : Int64} (d : decode (xCd μ) pc = .ok (.lor, 1)) (k : Wx μ (pc + 1) L (.long (x ||| y) :: st) M K Q) : Wx μ pc L (.long y :: .long x :: st) M K Q := by
  intro p l e s m args below meth c R base b D T CT ST QF hC hF H locs cells slots ls hS hL hc hs
  exact lv_lor hC.1 hC.2.1 d (k p l e s m args below meth c R base b D T CT ST QF hC hF H locs cells slots ls hS hL hc hs)
theorem ex_lshl {x : Int64} {y : Int32} (d : decode (xCd μ) pc = .ok (.lshl, 1)) (k : Wx μ (pc + 1) L (.long (x <<< (y.toInt64 &&& 63)) :: st) M K Q) : Wx μ pc L (.int y :: .long x :: st) M K Q := by
  intro p l e s m args below meth c R base b D T CT ST QF hC hF H locs cells slots ls hS hL hc hs
  exact lv_lshl hC.1 hC.2.1 d rfl (k p l e s m args below meth c R base b D T CT ST QF hC hF H locs cells slots ls hS hL hc hs)
theorem ex_lcmp {x y : Int64} (d : decode (xCd μ) pc = .ok (.lcmp, 1)) (k : Wx μ (pc + 1) L (.int (lg_cmp x y) :: st) M K Q) : Wx μ pc L (.long y :: .long x :: st) M K Q := by
  intro p l e s m args below meth c R base b D T CT ST QF hC hF H locs cells slots ls hS hL hc hs
  exact W.lcmp hC.1 hC.2.1 d (k p l e s m args below meth c R base b D T CT ST QF hC hF H locs cells slots ls hS hL hc hs)
theorem ex_i2l {x : Int32} (d : decode (xCd μ) pc = .ok (.i2l, 1)) (k : Wx μ (pc + 1) L (.long x.toInt64 :: st) M K Q) : Wx μ pc L (.int x :: st) M K Q := by
  intro p l e s m args below meth c R base b D T CT ST QF hC hF H locs cells slots ls hS hL hc hs
  exact lv_i2l hC.1 hC.2.1 d rfl (k p l e s m args below meth c R base b D T CT ST QF hC hF H locs cells slots ls hS hL hc hs)
theorem ex_dup {v : Value} (d : decode (xCd μ) pc = .ok (.dup, 1)) (hv : v.category = 1) (k : Wx μ (pc + 1) L (v :: v :: st) M K Q) : Wx μ pc L (v :: st) M K Q := by
  intro p l e s m args below meth c R base b D T CT ST QF hC hF H locs cells slots ls hS hL hc hs
  exact lv_dup hC.1 hC.2.1 d (by rw [xV_cat]; exact hv) (k p l e s m args below meth c R base b D T CT ST QF hC hF H locs cells slots ls hS hL hc hs)
theorem ex_dup2 {v w : Value} (d : decode (xCd μ) pc = .ok (.dup2, 1)) (hv : v.category = 1) (hw : w.category = 1) (k : Wx μ (pc + 1) L (v :: w :: v :: w :: st) M K Q) : Wx μ pc L (v :: w :: st) M K Q := by
  intro p l e s m args below meth c R base b D T CT ST QF hC hF H locs cells slots ls hS hL hc hs
  exact lv_dup2_11 hC.1 hC.2.1 d (by rw [xV_cat]; exact hv) (by rw [xV_cat]; exact hw) (k p l e s m args below meth c R base b D T CT ST QF hC hF H locs cells slots ls hS hL hc hs)
theorem ex_pop {v : Value} (d : decode (xCd μ) pc = .ok (.pop, 1)) (hv : v.category = 1) (k : Wx μ (pc + 1) L st M K Q) : Wx μ pc L (v :: st) M K Q := by
  intro p l e s m args below meth c R base b D T CT ST QF hC hF H locs cells slots ls hS hL hc hs
  exact lv_pop hC.1 hC.2.1 d (by rw [xV_cat]; exact hv) (k p l e s m args below meth c R base b D T CT ST QF hC hF H locs cells slots ls hS hL hc hs)
theorem ex_goto {off : Int} {tgt : Nat} (d : decode (xCd μ) pc = .ok (.goto off, 3)) (ht : (pc : Int) + off = (tgt : Int)) (k : Wx μ tgt L st M K Q) : Wx μ pc L st M K Q := by
  intro p l e s m args below meth c R base b D T CT ST QF hC hF H locs cells slots ls hS hL hc hs
  exact lv_goto hC.1 hC.2.1 d ht (k p l e s m args below meth c R base b D T CT ST QF hC hF H locs cells slots ls hS hL hc hs)
theorem ex_if_eq {x : Int32} {off : Int} {tgt : Nat} (d : decode (xCd μ) pc = .ok (.ifCond .eq off, 3)) (ht : (pc : Int) + off = (tgt : Int)) (kt : x = 0 → Wx μ tgt L st M K Q) (kf : ¬ x = 0 → Wx μ (pc + 3) L st M K Q) : Wx μ pc L (.int x :: st) M K Q := by
  intro p l e s m args below meth c R base b D T CT ST QF hC hF H locs cells slots ls hS hL hc hs
  exact lv_if_eq hC.1 hC.2.1 d ht (fun h => kt h p l e s m args below meth c R base b D T CT ST QF hC hF H locs cells slots ls hS hL hc hs) (fun h => kf h p l e s m args below meth c R base b D T CT ST QF hC hF H locs cells slots ls hS hL hc hs)
theorem ex_icmp_eq {x y : Int32} {off : Int} {tgt : Nat} (d : decode (xCd μ) pc = .ok (.if_icmp .eq off, 3)) (ht : (pc : Int) + off = (tgt : Int)) (kt : x = y → Wx μ tgt L st M K Q) (kf : ¬ x = y → Wx μ (pc + 3) L st M K Q) : Wx μ pc L (.int y :: .int x :: st) M K Q := by
  intro p l e s m args below meth c R base b D T CT ST QF hC hF H locs cells slots ls hS hL hc hs
  exact lv_icmp_eq hC.1 hC.2.1 d ht (fun h => kt h p l e s m args below meth c R base b D T CT ST QF hC hF H locs cells slots ls hS hL hc hs) (fun h => kf h p l e s m args below meth c R base b D T CT ST QF hC hF H locs cells slots ls hS hL hc hs)
theorem ex_if_ne {x : Int32} {off : Int} {tgt : Nat} (d : decode (xCd μ) pc = .ok (.ifCond .ne off, 3)) (ht : (pc : Int) + off = (tgt : Int)) (kt : ¬ x = 0 → Wx μ tgt L st M K Q) (kf : x = 0 → Wx μ (pc + 3) L st M K Q) : Wx μ pc L (.int x :: st) M K Q := by
  intro p l e s m args below meth c R base b D T CT ST QF hC hF H locs cells slots ls hS hL hc hs
  exact lv_if_ne hC.1 hC.2.1 d ht (fun h => kt h p l e s m args below meth c R base b D T CT ST QF hC hF H locs cells slots ls hS hL hc hs) (fun h => kf h p l e s m args below meth c R base b D T CT ST QF hC hF H locs cells slots ls hS hL hc hs)
theorem ex_icmp_ne {x y : Int32} {off : Int} {tgt : Nat} (d : decode (xCd μ) pc = .ok (.if_icmp .ne off, 3)) (ht : (pc : Int) + off = (tgt : Int)) (kt : ¬ x = y → Wx μ tgt L st M K Q) (kf : x = y → Wx μ (pc + 3) L st M K Q) : Wx μ pc L (.int y :: .int x :: st) M K Q := by
  intro p l e s m args below meth c R base b D T CT ST QF hC hF H locs cells slots ls hS hL hc hs
  exact lv_icmp_ne hC.1 hC.2.1 d ht (fun h => kt h p l e s m args below meth c R base b D T CT ST QF hC hF H locs cells slots ls hS hL hc hs) (fun h => kf h p l e s m args below meth c R base b D T CT ST QF hC hF H locs cells slots ls hS hL hc hs)
theorem ex_if_lt {x : Int32} {off : Int} {tgt : Nat} (d : decode (xCd μ) pc = .ok (.ifCond .lt off, 3)) (ht : (pc : Int) + off = (tgt : Int)) (kt : x < 0 → Wx μ tgt L st M K Q) (kf : ¬ x < 0 → Wx μ (pc + 3) L st M K Q) : Wx μ pc L (.int x :: st) M K Q := by
  intro p l e s m args below meth c R base b D T CT ST QF hC hF H locs cells slots ls hS hL hc hs
  exact lv_if_lt hC.1 hC.2.1 d ht (fun h => kt h p l e s m args below meth c R base b D T CT ST QF hC hF H locs cells slots ls hS hL hc hs) (fun h => kf h p l e s m args below meth c R base b D T CT ST QF hC hF H locs cells slots ls hS hL hc hs)
theorem ex_icmp_lt {x y : Int32} {off : Int} {tgt : Nat} (d : decode (xCd μ) pc = .ok (.if_icmp .lt off, 3)) (ht : (pc : Int) + off = (tgt : Int)) (kt : x < y → Wx μ tgt L st M K Q) (kf : ¬ x < y → Wx μ (pc + 3) L st M K Q) : Wx μ pc L (.int y :: .int x :: st) M K Q := by
  intro p l e s m args below meth c R base b D T CT ST QF hC hF H locs cells slots ls hS hL hc hs
  exact lv_icmp_lt hC.1 hC.2.1 d ht (fun h => kt h p l e s m args below meth c R base b D T CT ST QF hC hF H locs cells slots ls hS hL hc hs) (fun h => kf h p l e s m args below meth c R base b D T CT ST QF hC hF H locs cells slots ls hS hL hc hs)
theorem ex_if_ge {x : Int32} {off : Int} {tgt : Nat} (d : decode (xCd μ) pc = .ok (.ifCond .ge off, 3)) (ht : (pc : Int) + off = (tgt : Int)) (kt : 0 ≤ x → Wx μ tgt L st M K Q) (kf : ¬ 0 ≤ x → Wx μ (pc + 3) L st M K Q) : Wx μ pc L (.int x :: st) M K Q := by
  intro p l e s m args below meth c R base b D T CT ST QF hC hF H locs cells slots ls hS hL hc hs
  exact lv_if_ge hC.1 hC.2.1 d ht (fun h => kt h p l e s m args below meth c R base b D T CT ST QF hC hF H locs cells slots ls hS hL hc hs) (fun h => kf h p l e s m args below meth c R base b D T CT ST QF hC hF H locs cells slots ls hS hL hc hs)
theorem ex_icmp_ge {x y : Int32} {off : Int} {tgt : Nat} (d : decode (xCd μ) pc = .ok (.if_icmp .ge off, 3)) (ht : (pc : Int) + off = (tgt : Int)) (kt : y ≤ x → Wx μ tgt L st M K Q) (kf : ¬ y ≤ x → Wx μ (pc + 3) L st M K Q) : Wx μ pc L (.int y :: .int x :: st) M K Q := by
  intro p l e s m args below meth c R base b D T CT ST QF hC hF H locs cells slots ls hS hL hc hs
  exact lv_icmp_ge hC.1 hC.2.1 d ht (fun h => kt h p l e s m args below meth c R base b D T CT ST QF hC hF H locs cells slots ls hS hL hc hs) (fun h => kf h p l e s m args below meth c R base b D T CT ST QF hC hF H locs cells slots ls hS hL hc hs)
theorem ex_if_gt {x : Int32} {off : Int} {tgt : Nat} (d : decode (xCd μ) pc = .ok (.ifCond .gt off, 3)) (ht : (pc : Int) + off = (tgt : Int)) (kt : 0 < x → Wx μ tgt L st M K Q) (kf : ¬ 0 < x → Wx μ (pc + 3) L st M K Q) : Wx μ pc L (.int x :: st) M K Q := by
  intro p l e s m args below meth c R base b D T CT ST QF hC hF H locs cells slots ls hS hL hc hs
  exact lv_if_gt hC.1 hC.2.1 d ht (fun h => kt h p l e s m args below meth c R base b D T CT ST QF hC hF H locs cells slots ls hS hL hc hs) (fun h => kf h p l e s m args below meth c R base b D T CT ST QF hC hF H locs cells slots ls hS hL hc hs)
theorem ex_icmp_gt {x y : Int32} {off : Int} {tgt : Nat} (d : decode (xCd μ) pc = .ok (.if_icmp .gt off, 3)) (ht : (pc : Int) + off = (tgt : Int)) (kt : y < x → Wx μ tgt L st M K Q) (kf : ¬ y < x → Wx μ (pc + 3) L st M K Q) : Wx μ pc L (.int y :: .int x :: st) M K Q := by
  intro p l e s m args below meth c R base b D T CT ST QF hC hF H locs cells slots ls hS hL hc hs
  exact lv_icmp_gt hC.1 hC.2.1 d ht (fun h => kt h p l e s m args below meth c R base b D T CT ST QF hC hF H locs cells slots ls hS hL hc hs) (fun h => kf h p l e s m args below meth c R base b D T CT ST QF hC hF H locs cells slots ls hS hL hc hs)
theorem ex_if_le {x : Int32} {off : Int} {tgt : Nat} (d : decode (xCd μ) pc = .ok (.ifCond .le off, 3)) (ht : (pc : Int) + off = (tgt : Int)) (kt : x ≤ 0 → Wx μ tgt L st M K Q) (kf : ¬ x ≤ 0 → Wx μ (pc + 3) L st M K Q) : Wx μ pc L (.int x :: st) M K Q := by
  intro p l e s m args below meth c R base b D T CT ST QF hC hF H locs cells slots ls hS hL hc hs
  exact lv_if_le hC.1 hC.2.1 d ht (fun h => kt h p l e s m args below meth c R base b D T CT ST QF hC hF H locs cells slots ls hS hL hc hs) (fun h => kf h p l e s m args below meth c R base b D T CT ST QF hC hF H locs cells slots ls hS hL hc hs)
theorem ex_icmp_le {x y : Int32} {off : Int} {tgt : Nat} (d : decode (xCd μ) pc = .ok (.if_icmp .le off, 3)) (ht : (pc : Int) + off = (tgt : Int)) (kt : x ≤ y → Wx μ tgt L st M K Q) (kf : ¬ x ≤ y → Wx μ (pc + 3) L st M K Q) : Wx μ pc L (.int y :: .int x :: st) M K Q := by
  intro p l e s m args below meth c R base b D T CT ST QF hC hF H locs cells slots ls hS hL hc hs
  exact lv_icmp_le hC.1 hC.2.1 d ht (fun h => kt h p l e s m args below meth c R base b D T CT ST QF hC hF H locs cells slots ls hS hL hc hs) (fun h => kf h p l e s m args below meth c R base b D T CT ST QF hC hF H locs cells slots ls hS hL hc hs)
theorem ex_tableIn {dflt lo hi : Int} {offs : Array Int} {len : Nat} {x : Int32} {off : Int} {tgt : Nat} (d : decode (xCd μ) pc = .ok (.tableswitch dflt lo hi offs, len)) (h1 : ¬ x.toInt < lo) (h2 : ¬ hi < x.toInt) (ho : offs[(x.toInt - lo).toNat]? = some off) (ht : (pc : Int) + off = (tgt : Int)) (k : Wx μ tgt L st M K Q) : Wx μ pc L (.int x :: st) M K Q := by
  intro p l e s m args below meth c R base b D T CT ST QF hC hF H locs cells slots ls hS hL hc hs
  exact lv_tableIn hC.1 hC.2.1 d h1 h2 ho ht (k p l e s m args below meth c R base b D T CT ST QF hC hF H locs cells slots ls hS hL hc hs)
theorem ex_tableOut {dflt lo hi : Int} {offs : Array Int} {len : Nat} {x : Int32} {tgt : Nat} (d : decode (xCd μ) pc = .ok (.tableswitch dflt lo hi offs, len)) (h : x.toInt < lo ∨ hi < x.toInt) (ht : (pc : Int) + dflt = (tgt : Int)) (k : Wx μ tgt L st M K Q) : Wx μ pc L (.int x :: st) M K Q := by
  intro p l e s m args below meth c R base b D T CT ST QF hC hF H locs cells slots ls hS hL hc hs
  exact lv_tableOut hC.1 hC.2.1 d h ht (k p l e s m args below meth c R base b D T CT ST QF hC hF H locs cells slots ls hS hL hc hs)
end XROWS
