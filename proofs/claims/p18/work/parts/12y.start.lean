/-! ===== the claim out of the law as a program point ===== -/
def R_law : String := "GrammarWorksLaw"
def lw_P (b : Addr) (xs : List Int32) (args : Array Value) (s : State) : Prop := args = #[.ref b] ∧ s.IntsAt b xs ∧ xs.length ≤ 260 ∧ (Jvm.Cond.and given_1 narrow_1).before args s = true
def lw_Q (_ : Array Value) (s : State) (o : Outcome) (t : State) : Prop := o = .returned (some (.int 1)) ∧ Framed s o t [] 600086 7301442
def lw_Z (below : List Frame) (a : Array Value) (s : State) : State → Prop := fun t => ∃ o, t.status = .running ∧ Ended t below o ∧ lw_Q a s o t
/-- the law's own end, with 1 on the stack, nothing written that was there before, its room as the claim has it -/
theorem lw_ret {p : Program} {l : Launch} {e : Env} {s : State} {m : MethodId} {below : List Frame} {meth : Method} {c : Code} {b : Nat} (hx : p.tables.exec = Jvm.exec) (hb : c.code = code) (hr : meth.sig.returnType = ret) (hlocks : meth.locks = false) {pc : Nat} {H : Heap} {ls : Array Slot} (hdg : decode code pc = .ok (.ireturn, 1)) : W p l e room_1 s m #[Value.ref b] below meth c H [] 600086 7301442 (lw_Z below #[Value.ref b] s) (F0 m pc ls [.int 1]) := by
  intro T hT X
  obtain ⟨fs, hret, hrun, hended, hW, hframe⟩ := X.leave (v := some (.int 1)) (hlocks := hlocks) (fun h => by rw [hr] at h; cases h)
  have hmeth' : T.vm.method? m = some meth := X.method'
  refine ⟨T.setFrames fs, ?_, .returned (some (.int 1)), hrun, hended, rfl, ⟨_, rfl⟩, hW, hframe⟩
  jvm_step X.here [X.here.top, hx, hb, hdg, hmeth', hr, ret, narrow_b1]
  (try refine ⟨rfl, ?_⟩); (try refine ⟨rfl, ?_⟩)
  first | (intro acts; rw [hret _ acts rfl rfl rfl]) | rw [hret _ _ rfl rfl rfl]
  exact Steps.refl _
/-- what holds at the law's entry: the machine, the code, the tables' words (any of lw_tbl by 'hts w (by decide +kernel)'), the script of L ints xs at the cell b, what the Statement gives of the start (any of its parts by flat_of_before) -/
def lw_At (p : Program) (s : State) (m : MethodId) (meth : Method) (c : Code) (b L : Nat) (xs : Nat → Int32) : Prop :=
  p.tables.exec = Jvm.exec ∧ c.code = code ∧ meth.sig.returnType = ret ∧ c.maxLocals = 15 ∧ s.vm.findClass R_law = some m.cls ∧ (∀ w ∈ lw_tbl, w.before #[Value.ref b] s = true) ∧ va_X b L xs s s.heap ∧ b < s.heap.size ∧ meth.locks = false ∧ (Jvm.Cond.and given_1 narrow_1).before #[Value.ref b] s = true ∧ meth.name = "law"
/-- the law's memory at its entry -/
def i0L (xs : Nat → Int32) (L : Nat) : Nat → Nat → Int32 := fun a k => if a = 4096 then xs k else if a = 4097 ∧ k = 0 then nI L else 0
def q0L : Nat → Nat → Int64 := fun _ _ => 0
def r0L : Nat → Nat → Value := fun _ _ => .null
theorem nc_flat : ∀ q ∈ xNcs, Cond.not (.castable q.1 q.2) ∈ flatC (Jvm.Cond.and given_1 narrow_1) := by decide +kernel
theorem aux_tbl : ∀ w ∈ xAux, w ∈ tables_1 := by decide +kernel
theorem str_tbl : ∀ q ∈ xStr, Cond.stringRef q.1 q.2.1 q.2.2 ∈ tables_1 := by decide +kernel
theorem str_own : ∀ q ∈ xStr, q.1 = RX9 := by decide +kernel
theorem stat_flat : Cond.isRef (.static Bundle.tN "UNASSIGNED_STACK" Bundle.steD) ∈ flatC (Jvm.Cond.and given_1 narrow_1) ∧ Cond.isRef (.static Bundle.tN "SUPPRESSED_SENTINEL" Bundle.listD) ∈ flatC (Jvm.Cond.and given_1 narrow_1) := by decide +kernel
theorem stat_tbl : Cond.laysStatic Bundle.tN "UNASSIGNED_STACK" Bundle.steD ∈ tables_1 ∧ Cond.laysStatic Bundle.tN "SUPPRESSED_SENTINEL" Bundle.listD ∈ tables_1 ∧ Cond.initialized Bundle.tN ∈ tables_1 := by decide +kernel
theorem arr_of {args : Array Value} {s : State} {ty : FieldType} (h : (Cond.arrayClass ty).before args s = true) : ∃ cA : ClassId, s.vm.findClass ("[" ++ ty.toString) = some cA ∧ ArrOfT s cA ty := by
  obtain ⟨cA, kA, comp, hfind, hk, hkind⟩ := Cond.arrayClass_spec h
  exact ⟨cA, hfind, fun n z => ⟨fun k h => (by cases h), kA, hk, comp, hkind⟩⟩
theorem inst_tbl : ∀ q ∈ [(RX0, 3), (RX1, 9), (RX2, 3), (RX3, 1), (RX4, 8), (RX5, 4), (RX6, 1), (RX7, 8), (RX8, 3), (RX9, 9)], Cond.instantiable q.1 q.2 ∈ xWd := by
  have h : ∀ q ∈ [(RX0, 3), (RX1, 9), (RX2, 3), (RX3, 1), (RX4, 8), (RX5, 4), (RX6, 1), (RX7, 8), (RX8, 3), (RX9, 9)], Cond.instantiable q.1 q.2 ∈ tables_1 := by decide +kernel
  exact fun q hq => xWd_of (List.mem_append_right _ (h q hq)) rfl
set_option maxHeartbeats 4000000 in
theorem whole_start0 (hW : ∀ (xs : Nat → Int32) (L : Nat), L ≤ 260 → Wx m_Law_law 0 [some (.ref 4096), none, none, none, none, none, none, none, none, none, none, none, none, none, none] [] (0, 0, i0L xs L, q0L, r0L) (600086, 7301442) (fun r _ => r = .ok (some (.int 1))))
    {p : Program} {e : Env} {s : State} {m : MethodId} {below : List Frame} {meth : Method} {c : Code} (l : Launch) (hflags : l.flags = flags0) {b L : Nat} {xs : Nat → Int32} (hL : L ≤ 260) (C0 : lw_At p s m meth c b L xs) : W p l e room_1 s m #[Value.ref b] below meth c s.heap [] 0 0 (lw_Z below #[Value.ref b] s) (entryFrame m ([Value.ref b] : List Value).toArray 15) := by
  obtain ⟨hx, hb, hr, hml, hown, hts, hX, hbl, hlocks, hgv, hnm⟩ := C0
  have hfl := flat_of_before _ hgv
  have hwd : ∀ w ∈ xWd, w.before #[Value.ref b] s = true := fun w h => hts w (List.mem_filter.mp h).1
  have htb : ∀ w ∈ tables_1, w.before #[Value.ref b] s = true := fun w h => hts w (List.mem_append_right _ h)
  obtain ⟨cI, hcI, hAI⟩ := arr_of (hwd _ wr_int)
  obtain ⟨cJ, hcJ, hAJ⟩ := arr_of (hwd _ wr_long)
  have kn : ∀ (k : Nat) (q : vw_C), vwCl[k]? = some q → ∃ (cC : ClassId) (iS : Nat → Nat), u_Kn s q.1 q.2.1 q.2.2 cC iS := by
    intro k q hq
    have hcases : q ∈ vwCl := List.mem_of_getElem? hq
    simp only [List.mem_cons, List.not_mem_nil, or_false] at hcases
    rcases hcases with rfl | rfl | rfl | rfl | rfl | rfl | rfl | rfl | rfl | rfl
    · exact u_known (ws := xWd) hwd uin_0 (hwd _ (inst_tbl _ (List.mem_of_getElem? (i := 0) rfl)))
    · exact u_known (ws := xWd) hwd uin_1 (hwd _ (inst_tbl _ (List.mem_of_getElem? (i := 1) rfl)))
    · exact u_known (ws := xWd) hwd uin_2 (hwd _ (inst_tbl _ (List.mem_of_getElem? (i := 2) rfl)))
    · exact u_known (ws := xWd) hwd uin_3 (hwd _ (inst_tbl _ (List.mem_of_getElem? (i := 3) rfl)))
    · exact u_known (ws := xWd) hwd uin_4 (hwd _ (inst_tbl _ (List.mem_of_getElem? (i := 4) rfl)))
    · exact u_known (ws := xWd) hwd uin_5 (hwd _ (inst_tbl _ (List.mem_of_getElem? (i := 5) rfl)))
    · exact u_known (ws := xWd) hwd uin_6 (hwd _ (inst_tbl _ (List.mem_of_getElem? (i := 6) rfl)))
    · exact u_known (ws := xWd) hwd uin_7 (hwd _ (inst_tbl _ (List.mem_of_getElem? (i := 7) rfl)))
    · exact u_known (ws := xWd) hwd uin_8 (hwd _ (inst_tbl _ (List.mem_of_getElem? (i := 8) rfl)))
    · exact u_known (ws := xWd) hwd uin_9 (hwd _ (inst_tbl _ (List.mem_of_getElem? (i := 9) rfl)))
  obtain ⟨dC, dI, hKc⟩ : ∃ (dC : Nat → ClassId) (dI : Nat → Nat → Nat), ∀ (k : Nat) (q : vw_C), vwCl[k]? = some q → u_Kn s q.1 q.2.1 q.2.2 (dC k) (dI k) := by
    have h1 : ∀ k : Nat, ∃ (z : ClassId × (Nat → Nat)), ∀ q : vw_C, vwCl[k]? = some q → u_Kn s q.1 q.2.1 q.2.2 z.1 z.2 := by
      intro k
      cases hk : vwCl[k]? with
      | none => exact ⟨(0, fun _ => 0), fun q h => by cases h⟩
      | some q =>
        obtain ⟨cC, iS, h⟩ := kn k q hk
        exact ⟨(cC, iS), fun q' h' => by cases h'; exact h⟩
    exact ⟨fun k => (Classical.choose (h1 k)).1, fun k => (Classical.choose (h1 k)).2, fun k q hq => Classical.choose_spec (h1 k) q hq⟩
  have hK : va_K (dC, dI) vwCl (xTs (cI, cI, cJ)) s := by
    refine ⟨hKc, fun k q hk => ?_⟩
    match k, hk with
    | 0, hk => cases hk; exact ⟨hAI, hcI⟩
    | 1, hk => cases hk; exact ⟨hAJ, hcJ⟩
    | k + 2, hk => simp at hk
  have hks : xKs s := by
    refine ⟨fun w hw => ?_, fun q hq => va_Nc.of (hfl _ (nc_flat q hq)), fun q hq => ?_⟩
    · have hon : w.onTables = true := by
        have := xAux_ok w hw
        cases w <;> first | exact False.elim this | rfl
      exact va_Nw.of hon (htb _ (aux_tbl w hw))
    · have h1 := htb _ (str_tbl q hq)
      have hcl : s.vm.findClass q.1 = some (dC 9) := by rw [str_own q hq]; exact (hKc 9 _ rfl).2.1
      obtain ⟨-, -, -, a, -, -, -, -, -, hev⟩ := Cond.stringRef_spec hcl h1
      exact ⟨a, vk_R.of h1 hev⟩
  have hkz : xKz s.heap.size s s.heap := by
    have hA : ∀ a : Nat, a < s.heap.size → ¬ s.heap.size ≤ a := fun a h => by omega
    exact ⟨vx_Zqof (htb _ stat_tbl.1) (htb _ stat_tbl.2.2) (hfl _ stat_flat.1) hA, vx_Zqof (htb _ stat_tbl.2.1) (htb _ stat_tbl.2.2) (hfl _ stat_flat.2) hA⟩
  have hC : xC m_Law_law p l s m #[Value.ref b] meth c room_1 s.heap.size (dC, dI) (cI, cI, cJ) 600086 7301442 :=
    ⟨hx, hb, hown, hml, hwd, hks, hkz, Nat.le_refl _, hK, by decide, by decide, Nat.le_refl _, Nat.le_refl _, hflags, hlocks, hnm, Or.inl rfl⟩
  have hS : xSt m_Law_law s s.heap.size b (dC, dI) (cI, cI, cJ) s.heap [] (0, 0, i0L xs L, q0L, r0L) := by
    refine ⟨fun k q h => by simp [xWl] at h, ⟨fun i j p q h => by simp [xWl] at h, fun k q h => by simp [xWl] at h⟩, va_S.rf, fun _ => rfl, Nat.zero_le _, fun _ => ⟨hbl, ?_⟩⟩
    have e1 : (i0L xs L 4097 0).toNatClampNeg = L := nI_clamp (by omega)
    have e2 : i0L xs L 4096 = xs := rfl
    show va_X b (i0L xs L 4097 0).toNatClampNeg (i0L xs L 4096) s s.heap
    rw [e1, e2]; exact hX
  have hl := lv_entry ([.ref b]) (n := 15) (Nat.le_of_ble_eq_true rfl)
  rw [lg_entry_eq]
  have hl2 : lv_has ((lg_sl ([Value.ref b]) ++ List.replicate (15 - (lg_sl ([Value.ref b])).length) Slot.unset).toArray) 15 (xlv s.heap.size b [some (.ref 4096), none, none, none, none, none, none, none, none, none, none, none, none, none, none]) := hl
  refine hW xs L hL p l e s m #[Value.ref b] below meth c room_1 s.heap.size b (dC, dI) (cI, cI, cJ) 600086 7301442 (lw_Z below #[Value.ref b] s) hC ⟨?_, ?_⟩ s.heap [] 0 0 _ hS hl2 (Nat.le_refl _) (Nat.le_refl _)
  · intro pc ls H locs M v ins hS' hQ d hro
    have hv : v = some (.int 1) := by injection hQ
    subst hv
    have hins : ins = .ireturn := by
      rcases hro with ⟨_, h, _⟩ | ⟨h, _⟩ | ⟨_, x, h, _⟩
      · cases h
      · exact h
      · cases h
    subst hins
    refine va_forget (fun q hq => hS'.2.2.1.2.2 q hq) ?_
    exact lw_ret hx hb hr hlocks d
  · intro pc ls H locs n g i q r E rest cells slots _ _ hQ
    cases hQ
