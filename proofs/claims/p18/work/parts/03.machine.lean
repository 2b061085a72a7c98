/-! ===== the abstract machine: fixed shapes of cells, numbered in the order of their making; a program point as a predicate Wx ===== -/
abbrev vwCl : List vw_C := [(RX0, TX0, 3), (RX1, TX1, 9), (RX2, TX2, 3), (RX3, TX3, 1), (RX4, TX4, 8), (RX5, TX5, 4), (RX6, TX6, 1), (RX7, TX7, 8), (RX8, TX8, 3), (RX9, TX9, 9)]
/-- cells' shapes: an object of class ci, or an array (0 int, 2 long) of a length -/
def SHl : List (Nat ⊕ (Nat × Nat)) := [.inl 9, .inl 1, .inl 2, .inr (0, 75), .inl 6, .inr (0, 7), .inl 6, .inr (0, 7), .inl 6, .inr (0, 14), .inl 2, .inr (0, 210), .inl 2, .inr (0, 210), .inl 2, .inr (0, 210), .inl 7, .inl 3, .inr (2, 50), .inl 3, .inr (2, 14), .inl 2, .inr (0, 3750), .inl 2, .inr (0, 700), .inl 2, .inr (0, 350), .inl 5, .inl 6, .inr (0, 14), .inl 6, .inr (0, 15), .inl 4, .inl 6, .inr (0, 40), .inl 6, .inr (0, 40), .inl 6, .inr (0, 151), .inl 6, .inr (0, 151), .inl 0, .inl 6, .inr (0, 450), .inl 6, .inr (0, 450), .inl 8, .inl 2, .inr (0, 1200), .inl 3, .inr (2, 450), .inl 8, .inl 2, .inr (0, 1200), .inl 3, .inr (2, 450), .inr (0, 6), .inr (0, 24), .inr (0, 64), .inr (0, 64)]
/-- fields that hold whole numbers: 0; references: 1 -/
def xTys : List (List Nat) := [[1, 1, 1], [1, 1, 1, 1, 1, 1, 1, 0, 0], [0, 0, 1], [1], [1, 1, 1, 1, 1, 1, 0, 0], [1, 1, 1, 0], [1], [1, 1, 1, 1, 1, 1, 0, 0], [1, 1, 0], [1, 1, 1, 1, 1, 1, 1, 0, 0]]
def xTy (ci j : Nat) : Nat := (xTys.getD ci []).getD j 1
def xNf (ci : Nat) : Nat := (xTys.getD ci []).length
abbrev xMem : Type := Nat × Nat × (Nat → Nat → Int32) × (Nat → Nat → Int64) × (Nat → Nat → Value)
abbrev xLoc : Type := List (Option Value)
abbrev xRes : Type := Except String (Option Value)
abbrev xMeth : Type := String × MethodName × ByteArray × Nat × Option FieldType × List (Nat × Nat × Nat × Nat) × Nat × Nat
abbrev xOwn (μ : xMeth) : String := μ.1
abbrev xNm (μ : xMeth) : MethodName := μ.2.1
abbrev xCd (μ : xMeth) : ByteArray := μ.2.2.1
abbrev xMl (μ : xMeth) : Nat := μ.2.2.2.1
abbrev xRt (μ : xMeth) : Option FieldType := μ.2.2.2.2.1
abbrev xHh (μ : xMeth) : List (Nat × Nat × Nat × Nat) := μ.2.2.2.2.2.1
abbrev xFr (μ : xMeth) : Nat := μ.2.2.2.2.2.2.1
abbrev xLo (μ : xMeth) : Nat := μ.2.2.2.2.2.2.2
def xWd : List Cond := lw_tbl.filter goodWord
theorem xWd_good : ∀ w ∈ xWd, goodWord w = true := fun w h => (List.mem_filter.mp h).2
theorem xWd_of {w : Cond} (h : w ∈ lw_tbl) (g : goodWord w = true) : w ∈ xWd := List.mem_filter.mpr ⟨h, g⟩
theorem xWd_t {w : Cond} (i : Nat) (h : tables_1[i]? = some w) (g : goodWord w = true) : w ∈ xWd := xWd_of (List.mem_append_right _ (List.mem_of_getElem? h)) g
theorem xWd_s {w : Cond} (i : Nat) (h : (k2_sels lw_privs)[i]? = some w) (g : goodWord w = true) : w ∈ xWd := xWd_of (List.mem_append_left _ (List.mem_of_getElem? h)) g
/-- a value as the machine has it: cell k lies at base + k; the script (4096) at b -/
def xV (base b : Nat) : Value → Value := fun v => match v with
  | .ref i => .ref (if i = 4096 then b else base + i)
  | v => v
theorem xV_int (base b : Nat) (x : Int32) : xV base b (.int x) = .int x := rfl
theorem xV_long (base b : Nat) (x : Int64) : xV base b (.long x) = .long x := rfl
theorem xV_ref {base b i : Nat} (h : i < 4096) : xV base b (.ref i) = .ref (base + i) := by
  show Value.ref (if i = 4096 then b else base + i) = _
  rw [if_neg (Nat.ne_of_lt h)]
theorem xV_cat (base b : Nat) (v : Value) : (xV base b v).category = v.category := by cases v <;> rfl
def xFv (base b ci : Nat) (M : xMem) (k j : Nat) : Value := if xTy ci j = 0 then .int (M.2.2.1 k j) else xV base b (M.2.2.2.2 k j)
def xE (base b : Nat) (T : ClassId × ClassId × ClassId) (M : xMem) (k : Nat) : va_E := match SHl[k]? with
  | some (.inl ci) => .inr (ci, (List.range (xNf ci)).map (xFv base b ci M k))
  | some (.inr (t, n)) => if t = 0 then .inl (T.1, (n, .inl (M.2.2.1 k))) else .inl (T.2.2, (n, .inr (.inl (M.2.2.2.1 k))))
  | none => .inr (0, [])
def xWl (base b : Nat) (T : ClassId × ClassId × ClassId) (M : xMem) : va_W := (List.range M.1).map (fun k => (base + k, xE base b T M k))
def xU (f : Nat → Nat → Int32) (a k : Nat) (x : Int32) : Nat → Nat → Int32 := fun q => if q = a then upd (f a) k x else f q
def xUL (f : Nat → Nat → Int64) (a k : Nat) (x : Int64) : Nat → Nat → Int64 := fun q => if q = a then vp_updL (f a) k x else f q
def xUR (f : Nat → Nat → Value) (a k : Nat) (x : Value) : Nat → Nat → Value := fun q => if q = a then (fun j => if j = k then x else f a j) else f q
theorem xE_congr {base b : Nat} {T : ClassId × ClassId × ClassId} {M M' : xMem} {k : Nat} (h1 : M.2.2.1 k = M'.2.2.1 k) (h2 : M.2.2.2.1 k = M'.2.2.2.1 k) (h3 : M.2.2.2.2 k = M'.2.2.2.2 k) : xE base b T M k = xE base b T M' k := by
  unfold xE
  rw [h1, h2]
  cases SHl[k]? with
  | none => rfl
  | some q =>
    cases q with
    | inl ci =>
      show (Sum.inr _ : va_E) = Sum.inr _
      have : xFv base b ci M k = xFv base b ci M' k := by
        funext j
        unfold xFv
        rw [h1, h3]
      rw [this]
    | inr q => rfl
theorem xWl_get {base b : Nat} {T : ClassId × ClassId × ClassId} {M : xMem} {a : Nat} (h : a < M.1) : (xWl base b T M)[a]? = some (base + a, xE base b T M a) := by
  unfold xWl
  rw [List.getElem?_map, List.getElem?_range h]
  rfl
theorem xWl_set {base b : Nat} {T : ClassId × ClassId × ClassId} {M M' : xMem} {a : Nat} {E : va_E} (h1 : M'.1 = M.1) (hE : xE base b T M' a = E) (ho : ∀ k, k ≠ a → M.2.2.1 k = M'.2.2.1 k ∧ M.2.2.2.1 k = M'.2.2.2.1 k ∧ M.2.2.2.2 k = M'.2.2.2.2 k) :
    (xWl base b T M).set a (base + a, E) = xWl base b T M' := by
  apply List.ext_getElem?
  intro k
  unfold xWl
  rw [h1, List.getElem?_set, List.length_map, List.length_range]
  by_cases hk : a = k
  · subst hk
    rw [if_pos rfl, List.getElem?_map]
    by_cases hl : a < M.1
    · rw [if_pos hl, List.getElem?_range hl, ← hE]; rfl
    · rw [if_neg hl, List.getElem?_eq_none (by rw [List.length_range]; omega)]; rfl
  · rw [if_neg hk, List.getElem?_map, List.getElem?_map]
    by_cases hl : k < M.1
    · rw [List.getElem?_range hl]
      obtain ⟨e1, e2, e3⟩ := ho k (fun q => hk q.symm)
      show some (base + k, xE base b T M k) = some (base + k, xE base b T M' k)
      rw [xE_congr e1 e2 e3]
    · rw [List.getElem?_eq_none (by rw [List.length_range]; omega)]; rfl
/-- what was known of the class tables at the start, beyond the words -/
def xAux : List Cond := [.castable "java/lang/IllegalArgumentException" "java/lang/IllegalArgumentException", .declares ⟨"java/lang/RuntimeException", "<init>", "()V"⟩, .declares ⟨"java/lang/RuntimeException", "<init>", "(Ljava/lang/String;)V"⟩, .declares ⟨"java/lang/Exception", "<init>", "()V"⟩, .declares ⟨"java/lang/Exception", "<init>", "(Ljava/lang/String;)V"⟩, .declares ⟨"java/lang/Throwable", "<init>", "()V"⟩, .declares ⟨"java/lang/Throwable", "<init>", "(Ljava/lang/String;)V"⟩, .castable "java/lang/IllegalStateException" "java/lang/IllegalStateException", .methodLinkNest "GrammarWorks$Grammar" 74 ⟨"GrammarWorks", "isTerminal", "(I)Z"⟩ "GrammarWorks", .castable "java/lang/UnsupportedOperationException" "java/lang/UnsupportedOperationException", .methodLinkNest "GrammarWorks$States" 119 ⟨"GrammarWorks", "isNonterminal", "(I)Z"⟩ "GrammarWorks", .castable "java/util/NoSuchElementException" "java/util/NoSuchElementException", .castable "GrammarWorks" "java/lang/Object", .castable "GrammarWorks$Grammar" "java/lang/Object", .castable "GrammarWorks$Grid" "java/lang/Object", .castable "GrammarWorks$Row" "java/lang/Object", .castable "GrammarWorks$States" "java/lang/Object", .castable "GrammarWorks$LongRow" "java/lang/Object", .castable "GrammarWorks$Rings" "java/lang/Object", .castable "GrammarWorks$Parser" "java/lang/Object", .castable "GrammarWorks$Evaluator" "java/lang/Object", .castable "GrammarWorks$Tree" "java/lang/Object", .castable "java/lang/IllegalArgumentException" "java/lang/Object", .castable "java/lang/IllegalStateException" "java/lang/Object", .castable "java/lang/UnsupportedOperationException" "java/lang/Object", .castable "java/util/NoSuchElementException" "java/lang/Object", .castable "java/lang/Throwable" "java/lang/Object", .castable "java/lang/String" "java/lang/Object"]
def xNcs : List (String × String) := [("GrammarWorks", "java/lang/IllegalArgumentException"), ("GrammarWorks$Grammar", "java/lang/IllegalArgumentException"), ("GrammarWorks$Grid", "java/lang/IllegalArgumentException"), ("GrammarWorks$Row", "java/lang/IllegalArgumentException"), ("GrammarWorks$States", "java/lang/IllegalArgumentException"), ("GrammarWorks$LongRow", "java/lang/IllegalArgumentException"), ("GrammarWorks$Rings", "java/lang/IllegalArgumentException"), ("GrammarWorks$Parser", "java/lang/IllegalArgumentException"), ("GrammarWorks$Evaluator", "java/lang/IllegalArgumentException"), ("GrammarWorks$Tree", "java/lang/IllegalArgumentException"), ("java/lang/IllegalStateException", "java/lang/IllegalArgumentException"), ("java/lang/UnsupportedOperationException", "java/lang/IllegalArgumentException"), ("java/util/NoSuchElementException", "java/lang/IllegalArgumentException"), ("GrammarWorks", "java/lang/IllegalStateException"), ("GrammarWorks$Grammar", "java/lang/IllegalStateException"), ("GrammarWorks$Grid", "java/lang/IllegalStateException"), ("GrammarWorks$Row", "java/lang/IllegalStateException"), ("GrammarWorks$States", "java/lang/IllegalStateException"), ("GrammarWorks$LongRow", "java/lang/IllegalStateException"), ("GrammarWorks$Rings", "java/lang/IllegalStateException"), ("GrammarWorks$Parser", "java/lang/IllegalStateException"), ("GrammarWorks$Evaluator", "java/lang/IllegalStateException"), ("GrammarWorks$Tree", "java/lang/IllegalStateException"), ("java/lang/IllegalArgumentException", "java/lang/IllegalStateException"), ("java/lang/UnsupportedOperationException", "java/lang/IllegalStateException"), ("java/util/NoSuchElementException", "java/lang/IllegalStateException"), ("GrammarWorks", "java/lang/UnsupportedOperationException"), ("GrammarWorks$Grammar", "java/lang/UnsupportedOperationException"), ("GrammarWorks$Grid", "java/lang/UnsupportedOperationException"), ("GrammarWorks$Row", "java/lang/UnsupportedOperationException"), ("GrammarWorks$States", "java/lang/UnsupportedOperationException"), ("GrammarWorks$LongRow", "java/lang/UnsupportedOperationException"), ("GrammarWorks$Rings", "java/lang/UnsupportedOperationException"), ("GrammarWorks$Parser", "java/lang/UnsupportedOperationException"), ("GrammarWorks$Evaluator", "java/lang/UnsupportedOperationException"), ("GrammarWorks$Tree", "java/lang/UnsupportedOperationException"), ("java/lang/IllegalArgumentException", "java/lang/UnsupportedOperationException"), ("java/lang/IllegalStateException", "java/lang/UnsupportedOperationException"), ("java/util/NoSuchElementException", "java/lang/UnsupportedOperationException"), ("GrammarWorks", "java/util/NoSuchElementException"), ("GrammarWorks$Grammar", "java/util/NoSuchElementException"), ("GrammarWorks$Grid", "java/util/NoSuchElementException"), ("GrammarWorks$Row", "java/util/NoSuchElementException"), ("GrammarWorks$States", "java/util/NoSuchElementException"), ("GrammarWorks$LongRow", "java/util/NoSuchElementException"), ("GrammarWorks$Rings", "java/util/NoSuchElementException"), ("GrammarWorks$Parser", "java/util/NoSuchElementException"), ("GrammarWorks$Evaluator", "java/util/NoSuchElementException"), ("GrammarWorks$Tree", "java/util/NoSuchElementException"), ("java/lang/IllegalArgumentException", "java/util/NoSuchElementException"), ("java/lang/IllegalStateException", "java/util/NoSuchElementException"), ("java/lang/UnsupportedOperationException", "java/util/NoSuchElementException")]
def xStr : List (String × Nat × String) := [("GrammarWorks", 72, "the left side is no nonterminal"), ("GrammarWorks", 84, "no right side"), ("GrammarWorks", 92, "14 rules are there"), ("GrammarWorks", 143, "no rule"), ("GrammarWorks", 151, "more than 50 states"), ("GrammarWorks", 102, "no terminal"), ("GrammarWorks", 195, "40 tokens are there"), ("GrammarWorks", 169, "nothing is built"), ("GrammarWorks", 203, "there are conflicts"), ("GrammarWorks", 208, "the grammar is circular"), ("GrammarWorks", 217, "more than 150 nodes"), ("GrammarWorks", 219, "a fault"), ("GrammarWorks", 229, "no such node"), ("GrammarWorks", 231, "nothing is told by this number"), ("GrammarWorks", 248, "nothing is counted by this number")]
def xKs (U : State) : Prop := (∀ w ∈ xAux, va_Nw w U) ∧ (∀ q ∈ xNcs, va_Nc q.1 q.2 U) ∧ ∀ q ∈ xStr, ∃ a : Nat, vk_R q.1 q.2.1 q.2.2 a U
def xKz (base : Nat) (U : State) (H : Heap) : Prop := vx_Zq Bundle.tN "UNASSIGNED_STACK" Bundle.steD (fun q => base ≤ q) U H ∧ vx_Zq Bundle.tN "SUPPRESSED_SENTINEL" Bundle.listD (fun q => base ≤ q) U H
abbrev xTs (T : ClassId × ClassId × ClassId) : List (ClassId × FieldType) := [(T.1, .int), (T.2.2, .long)]
/-- the method's surroundings -/
def xC (μ : xMeth) (p : Program) (l : Launch) (s : State) (m : MethodId) (args : Array Value) (meth : Method) (c : Code) (R : Room) (base : Nat) (D : va_G) (T : ClassId × ClassId × ClassId) (CT ST : Nat) : Prop :=
  p.tables.exec = Jvm.exec ∧ c.code = xCd μ ∧ s.vm.findClass (xOwn μ) = some m.cls ∧ c.maxLocals = xMl μ ∧ (∀ w ∈ xWd, w.before args s = true) ∧ xKs s ∧ xKz base s s.heap ∧ base ≤ s.heap.size ∧ va_K D vwCl (xTs T) s ∧
  xFr μ ≤ R.frames ∧ xLo μ ≤ R.locals ∧ CT ≤ R.cells ∧ ST ≤ R.slots ∧ l.flags = flags0 ∧ meth.locks = false ∧ meth.name = (xNm μ).name ∧ (xHh μ = [] ∨ c.exceptionTable.toList = tableOf (xHh μ))
/-- the methods that read the script -/
abbrev xLw (nm : String) : Prop := nm = "law" ∨ nm = "cell" ∨ nm = "part"
/-- the heap: the cells, and what lies outside of them is as it was -/
def xSt (μ : xMeth) (s : State) (base b : Nat) (D : va_G) (T : ClassId × ClassId × ClassId) (H : Heap) (locs : List Loc) (M : xMem) : Prop :=
  va_P D vwCl (xWl base b T M) H ∧ va_D (fun q => base ≤ q) (xWl base b T M) ∧ va_S (fun q => base ≤ q) s.heap H locs ∧ (M.2.1 = 0 → H.size = base + M.1) ∧ M.1 ≤ SHl.length ∧
  (xLw (xNm μ).name → b < base ∧ va_X b (M.2.2.1 4097 0).toNatClampNeg (M.2.2.1 4096) s s.heap)
/-- the ends of a method: which return instruction goes with which answer -/
def xRO (μ : xMeth) (ins : Instr) (v : Option Value) : Prop := (ins = .return_ ∧ v = none ∧ xRt μ = none) ∨ (ins = .ireturn ∧ ∃ x : Int32, v = some (.int x) ∧ ∃ ty, xRt μ = some ty ∧ narrow ty (.int x) = .int x) ∨ (ins = .lreturn ∧ ∃ x : Int64, v = some (.long x) ∧ xRt μ = some .long)
/-- 'throw new E("..")' stands at pc -/
def xTh (μ : xMeth) (pc : Nat) (E : String) : Prop := ∃ (ik is ic ix : Nat) (rx : ByteArray) (text : String) (names : List String), nse_ok ix rx ∧
  decode (xCd μ) pc = .ok (.new ik, 3) ∧ decode (xCd μ) (pc + 3) = .ok (.dup, 1) ∧ decode (xCd μ) (pc + 4) = .ok (.ldc is, 2) ∧ decode (xCd μ) (pc + 6) = .ok (.invokespecial ic, 3) ∧ decode (xCd μ) (pc + 9) = .ok (.athrow, 1) ∧
  Bundle.fit E = true ∧ (∀ n ∈ names, Bundle.fit n = true) ∧ Cond.classLink (xOwn μ) ik E ∈ xWd ∧ Cond.initialized E ∈ xWd ∧ (xOwn μ, is, text) ∈ xStr ∧ (∀ w ∈ nse_at (xOwn μ) ic E ix rx names, w ∈ xWd ∨ w ∈ xAux) ∧
  (∀ w ∈ nse_at (xOwn μ) ic E ix rx names, vx_ot w = true) ∧ names.length + 3 < xFr μ ∧ 8 + (13 * (names.length + 1) + 43) ≤ xLo μ ∧ xHh μ = []
def xF (μ : xMeth) (p : Program) (l : Launch) (e : Env) (s : State) (m : MethodId) (args : Array Value) (below : List Frame) (meth : Method) (c : Code) (R : Room) (base b : Nat) (D : va_G) (T : ClassId × ClassId × ClassId) (CT ST : Nat) (Q : xRes → xMem → Prop) (QF : State → Prop) : Prop :=
  (∀ (pc : Nat) (ls : Array Slot) (H : Heap) (locs : List Loc) (M : xMem) (v : Option Value) (ins : Instr), xSt μ s base b D T H locs M → Q (.ok v) M → decode (xCd μ) pc = .ok (ins, 1) → xRO μ ins v → W p l e R s m args below meth c H locs CT ST QF (F0 m pc ls (v.map (xV base b)).toList)) ∧
  (∀ (pc : Nat) (ls : Array Slot) (H : Heap) (locs : List Loc) (n g : Nat) (i : Nat → Nat → Int32) (q : Nat → Nat → Int64) (r : Nat → Nat → Value) (E : String) (rest : List Value) (cells slots : Nat), xSt μ s base b D T H locs (n, g, i, q, r) → ls.size = xMl μ → Q (.error E) (n, g + 1, i, q, r) → xTh μ pc E →
    (rest.map fun v => v.category).sum ≤ 8 → cells + 1 ≤ CT → slots + 6 ≤ ST → W p l e R s m args below meth c H locs cells slots QF (F0 m pc ls rest))
/-- the locals that are known, as the kit lists them -/
def xlvFrom (base b : Nat) : Nat → xLoc → List (Nat × Value)
  | _, [] => []
  | i, none :: L => xlvFrom base b (i + 1) L
  | i, some v :: L => (i, xV base b v) :: xlvFrom base b (i + 1) L
abbrev xlv (base b : Nat) (L : xLoc) : List (Nat × Value) := xlvFrom base b 0 L
theorem xlv_mem {base b : Nat} {L : xLoc} {i j : Nat} {w : Value} : (j, w) ∈ xlvFrom base b i L ↔ ∃ k v, j = i + k ∧ L[k]? = some (some v) ∧ w = xV base b v := by
  induction L generalizing i with
  | nil => exact ⟨fun h => (by cases h), fun ⟨k, v, _, h, _⟩ => (by simp at h)⟩
  | cons a L ih =>
    cases a with
    | none =>
      show (j, w) ∈ xlvFrom base b (i + 1) L ↔ _
      rw [ih]
      constructor
      · rintro ⟨k, v, h1, h2, h3⟩
        exact ⟨k + 1, v, by omega, by simpa using h2, h3⟩
      · rintro ⟨k, v, h1, h2, h3⟩
        cases k with
        | zero => simp at h2
        | succ k => exact ⟨k, v, by omega, by simpa using h2, h3⟩
    | some u =>
      show (j, w) ∈ (i, xV base b u) :: xlvFrom base b (i + 1) L ↔ _
      rw [List.mem_cons, ih]
      constructor
      · rintro (h | ⟨k, v, h1, h2, h3⟩)
        · cases h
          exact ⟨0, u, rfl, by simp, rfl⟩
        · exact ⟨k + 1, v, by omega, by simpa using h2, h3⟩
      · rintro ⟨k, v, h1, h2, h3⟩
        cases k with
        | zero =>
          simp at h2
          subst h2; subst h3
          exact Or.inl (by rw [h1]; rfl)
        | succ k => exact Or.inr ⟨k, v, by omega, by simpa using h2, h3⟩
theorem xlv_at {base b : Nat} {L : xLoc} {ls : Array Slot} {nL i : Nat} {v : Value} (h : lv_has ls nL (xlv base b L)) (hi : L[i]? = some (some v)) : ls[i]? = some (.val (xV base b v)) :=
  h.2.2 (i, xV base b v) (xlv_mem.mpr ⟨i, v, by omega, hi, rfl⟩)
/-- the locals behind a store -/
def xKill (L : xLoc) (i : Nat) : xLoc := match i with
  | 0 => L
  | j + 1 => match L[j]? with
    | some (some (.long _)) => L.set j none
    | some (some (.double _)) => L.set j none
    | _ => L
def xPut (L : xLoc) (i : Nat) (v : Option Value) : xLoc := (xKill L i).set i v
def xPut2 (L : xLoc) (i : Nat) (v : Option Value) : xLoc := ((xKill L i).set i v).set (i + 1) none
theorem xKill_get {L : xLoc} {i k : Nat} {v : Value} (h : (xKill L i)[k]? = some (some v)) : L[k]? = some (some v) ∧ ¬ (k + 1 = i ∧ v.category = 2) := by
  unfold xKill at h
  split at h
  · exact ⟨h, fun q => by omega⟩
  · rename_i j
    split at h
    · rename_i z hz
      rw [List.getElem?_set] at h
      split at h
      · split at h <;> simp at h
      · rename_i hne
        exact ⟨h, fun q => hne (by omega)⟩
    · rename_i z hz
      rw [List.getElem?_set] at h
      split at h
      · split at h <;> simp at h
      · rename_i hne
        exact ⟨h, fun q => hne (by omega)⟩
    · rename_i h1 h2
      refine ⟨h, fun q => ?_⟩
      have hk : k = j := by omega
      subst hk
      cases v with
      | long z => exact h1 z h
      | double z => exact h2 z h
      | _ => exact absurd q.2 (by simp [Value.category])
theorem xlv_put {base b : Nat} {L : xLoc} {i : Nat} {v : Value} {q : Nat × Value} (h : q ∈ xlv base b (xPut L i (some v))) : q ∈ (i, xV base b v) :: (xlv base b L).filter (fun q => !(q.1 == i) && !(q.1 + 1 == i && q.2.category == 2)) := by
  obtain ⟨j, w⟩ := q
  obtain ⟨k, u, h1, h2, h3⟩ := xlv_mem.mp h
  rw [Nat.zero_add] at h1
  subst h1
  unfold xPut at h2
  rw [List.getElem?_set] at h2
  split at h2
  · rename_i he
    subst he
    split at h2
    · simp at h2
      rw [h3, h2]
      exact List.mem_cons_self
    · simp at h2
  · rename_i hne
    obtain ⟨h4, h5⟩ := xKill_get h2
    refine List.mem_cons_of_mem _ (List.mem_filter.mpr ⟨xlv_mem.mpr ⟨j, u, by omega, h4, h3⟩, ?_⟩)
    have e1 : (j == i) = false := by simpa using fun e => hne e.symm
    have e2 : (j + 1 == i && w.category == 2) = false := by
      rw [h3, xV_cat]
      cases hz : (j + 1 == i && u.category == 2)
      · rfl
      · simp at hz
        exact absurd ⟨hz.1, hz.2⟩ h5
    show (!(j == i) && !(j + 1 == i && w.category == 2)) = true
    rw [e1, e2]; rfl
theorem xlv_put2 {base b : Nat} {L : xLoc} {i : Nat} {v : Value} {q : Nat × Value} (h : q ∈ xlv base b (xPut2 L i (some v))) : q ∈ (i, xV base b v) :: (xlv base b L).filter (fun q => !(q.1 == i) && (!(q.1 == i + 1) && !(q.1 + 1 == i && q.2.category == 2))) := by
  obtain ⟨j, w⟩ := q
  obtain ⟨k, u, h1, h2, h3⟩ := xlv_mem.mp h
  rw [Nat.zero_add] at h1
  subst h1
  unfold xPut2 at h2
  rw [List.getElem?_set] at h2
  split at h2
  · split at h2 <;> simp at h2
  · rename_i hne2
    rw [List.getElem?_set] at h2
    split at h2
    · rename_i he
      subst he
      split at h2
      · simp at h2
        rw [h3, h2]
        exact List.mem_cons_self
      · simp at h2
    · rename_i hne
      obtain ⟨h4, h5⟩ := xKill_get h2
      refine List.mem_cons_of_mem _ (List.mem_filter.mpr ⟨xlv_mem.mpr ⟨j, u, by omega, h4, h3⟩, ?_⟩)
      have e1 : (j == i) = false := by simpa using fun e => hne e.symm
      have e3 : (j == i + 1) = false := by simpa using fun e => hne2 e.symm
      have e2 : (j + 1 == i && w.category == 2) = false := by
        rw [h3, xV_cat]
        cases hz : (j + 1 == i && u.category == 2)
        · rfl
        · simp at hz
          exact absurd ⟨hz.1, hz.2⟩ h5
      show (!(j == i) && (!(j == i + 1) && !(j + 1 == i && w.category == 2))) = true
      rw [e1, e2, e3]; rfl
theorem lv_less {ls : Array Slot} {nL : Nat} {l l' : List (Nat × Value)} (h : lv_has ls nL l) (hs : ∀ q ∈ l', q ∈ l) : lv_has ls nL l' := ⟨h.1, h.2.1, fun q hq => h.2.2 q (hs q hq)⟩
/-- fewer locals known -/
def xSub : xLoc → xLoc → Prop
  | [], _ => True
  | none :: L', _ :: L => xSub L' L
  | none :: L', [] => xSub L' []
  | some v :: L', o :: L => o = some v ∧ xSub L' L
  | some _ :: _, [] => False
theorem xSub_get : ∀ {L' L : xLoc} {i : Nat} {v : Value}, xSub L' L → L'[i]? = some (some v) → L[i]? = some (some v)
  | [], _, _, _, _, h => by simp at h
  | none :: L', o :: L, 0, v, _, h => by simp at h
  | none :: L', o :: L, i + 1, v, hs, h => by simpa using xSub_get (L' := L') (L := L) (i := i) hs (by simpa using h)
  | none :: L', [], 0, v, _, h => by simp at h
  | none :: L', [], i + 1, v, hs, h => by
    have := xSub_get (L' := L') (L := []) (i := i) hs (by simpa using h)
    simp at this
  | some u :: L', o :: L, 0, v, hs, h => by
    have h1 : o = some u := hs.1
    simp at h ⊢
    rw [h1, h]
  | some u :: L', o :: L, i + 1, v, hs, h => by simpa using xSub_get (L' := L') (L := L) (i := i) hs.2 (by simpa using h)
  | some u :: L', [], _, v, hs, _ => False.elim hs
/-- A PROGRAM POINT: from here the method comes to an end with Q; K: cells and their slots still to be made -/
def Wx (μ : xMeth) (pc : Nat) (L : xLoc) (st : List Value) (M : xMem) (K : Nat × Nat) (Q : xRes → xMem → Prop) : Prop :=
  ∀ (p : Program) (l : Launch) (e : Env) (s : State) (m : MethodId) (args : Array Value) (below : List Frame) (meth : Method) (c : Code) (R : Room) (base b : Nat) (D : va_G) (T : ClassId × ClassId × ClassId) (CT ST : Nat) (QF : State → Prop),
    xC μ p l s m args meth c R base D T CT ST → xF μ p l e s m args below meth c R base b D T CT ST Q QF →
    ∀ (H : Heap) (locs : List Loc) (cells slots : Nat) (ls : Array Slot), xSt μ s base b D T H locs M → lv_has ls (xMl μ) (xlv base b L) → cells + K.1 ≤ CT → slots + K.2 ≤ ST →
      W p l e R s m args below meth c H locs cells slots QF (F0 m pc ls (st.map (xV base b)))
