def R_law : String := "ShapeReportsLaw"
def lw_P (b : Addr) (xs : List Int32) (args : Array Value) (s : State) : Prop := args = #[.ref b] ∧ s.IntsAt b xs ∧ xs.length ≤ 2048 ∧ (Jvm.Cond.and given_1 narrow_1).before args s = true
def lw_Q (_ : Array Value) (s : State) (o : Outcome) (t : State) : Prop := o = .returned (some (.int 1)) ∧ Framed s o t [] 600000 7302249
def lw_Z (below : List Frame) (a : Array Value) (s : State) : State → Prop := fun t => ∃ o, t.status = .running ∧ Ended t below o ∧ lw_Q a s o t
/-- the law's own end, with 1 on the stack, nothing written that was there before, its room as the claim has it -/
theorem lw_ret {p : Program} {l : Launch} {e : Env} {s : State} {m : MethodId} {below : List Frame} {meth : Method} {c : Code} {b : Nat} (hx : p.tables.exec = Jvm.exec) (hb : c.code = code) (hr : meth.sig.returnType = ret) (hlocks : meth.locks = false) {pc : Nat} {H : Heap} {ls : Array Slot} (hdg : decode code pc = .ok (.ireturn, 1)) : W p l e room_1 s m #[Value.ref b] below meth c H [] 600000 7302249 (lw_Z below #[Value.ref b] s) (F0 m pc ls [.int 1]) := by
  intro T hT X
  obtain ⟨fs, hret, hrun, hended, hW, hframe⟩ := X.leave (v := some (.int 1)) (hlocks := hlocks) (fun h => by rw [hr] at h; cases h)
  have hmeth' : T.vm.method? m = some meth := X.method'
  refine ⟨T.setFrames fs, ?_, .returned (some (.int 1)), hrun, hended, rfl, ⟨_, rfl⟩, hW, hframe⟩
  jvm_step X.here [X.here.top, hx, hb, hdg, hmeth', hr, ret, narrow_b1]
  (try refine ⟨rfl, ?_⟩); (try refine ⟨rfl, ?_⟩)
  first | (intro acts; rw [hret _ acts rfl rfl rfl]) | rw [hret _ _ rfl rfl rfl]
  exact Steps.refl _
/-- what holds at the law's entry: the machine, the code, the tables' words (any of lw_tbl by 'hts w (by decide +kernel)'), the script of L ints xs at the cell b, what the Statement gives of the start (any of its parts by flat_of_before) -/
def lw_At (p : Program) (s : State) (m : MethodId) (meth : Method) (c : Code) (b L : Nat) (xs : Nat → Int32) : Prop :=
  p.tables.exec = Jvm.exec ∧ c.code = code ∧ meth.sig.returnType = ret ∧ c.maxLocals = 4 ∧ s.vm.findClass R_law = some m.cls ∧ (∀ w ∈ lw_tbl, w.before #[Value.ref b] s = true) ∧ va_X b L xs s s.heap ∧ b < s.heap.size ∧ meth.locks = false ∧ (Jvm.Cond.and given_1 narrow_1).before #[Value.ref b] s = true
def tmS (i : Nat) : Term := .string RX6 ((txtW.getD i (0, "", [])).1)
abbrev gn1 : Cond := Jvm.Cond.and given_1 narrow_1
theorem tx_hN : ∀ i : Nat, i < 17 → txtL.getD i 0 < 2 ^ 31 := by decide +kernel
theorem tx_ex : ∀ i : Nat, i < 17 → Cond.exactly (tmS i) "java/lang/String" ∈ flatC gn1 := by decide +kernel
theorem tx_co : ∀ i : Nat, i < 17 → Cond.eq (.field (tmS i) "java/lang/String" "coder" "B") (.int 0) ∈ flatC gn1 := by decide +kernel
theorem tx_ar : ∀ i : Nat, i < 17 → Cond.arrayOf (.field (tmS i) "java/lang/String" "value" "[B") .byte ∈ flatC gn1 := by decide +kernel
theorem tx_le : ∀ i : Nat, i < 17 → Cond.eq (.length (.field (tmS i) "java/lang/String" "value" "[B")) (.int (Int32.ofNat (txtL.getD i 0))) ∈ flatC gn1 := by decide +kernel
theorem tx_el : ∀ i : Nat, i < 17 → ∀ j : Nat, j < txtL.getD i 0 → Cond.eq (.elem (.field (tmS i) "java/lang/String" "value" "[B") (.int (Int32.ofNat j))) (.int ((txtB.getD i []).getD j 0)) ∈ flatC gn1 := by decide +kernel
def isNt (c : Cond) : Bool := match c with
  | .not _ => true
  | _ => false
def nePs : List (Nat × Nat) := [(0, 1), (0, 2), (1, 2), (0, 3), (1, 3), (2, 3), (0, 4), (1, 4), (2, 4), (3, 4), (0, 5), (1, 5), (2, 5), (3, 5), (4, 5), (0, 6), (1, 6), (2, 6), (3, 6), (4, 6), (5, 6), (0, 7), (1, 7), (2, 7), (3, 7), (4, 7), (5, 7), (6, 7), (0, 8), (1, 8), (2, 8), (3, 8), (4, 8), (5, 8), (6, 8), (7, 8), (0, 9), (1, 9), (2, 9), (3, 9), (4, 9), (5, 9), (6, 9), (7, 9), (8, 9), (0, 10), (1, 10), (2, 10), (3, 10), (4, 10), (5, 10), (6, 10), (7, 10), (8, 10), (9, 10), (0, 11), (1, 11), (2, 11), (3, 11), (4, 11), (5, 11), (6, 11), (7, 11), (8, 11), (9, 11), (10, 11), (0, 12), (1, 12), (2, 12), (3, 12), (4, 12), (5, 12), (6, 12), (7, 12), (8, 12), (9, 12), (10, 12), (11, 12), (0, 13), (1, 13), (2, 13), (3, 13), (4, 13), (5, 13), (6, 13), (7, 13), (8, 13), (9, 13), (10, 13), (11, 13), (12, 13), (0, 14), (1, 14), (2, 14), (3, 14), (4, 14), (5, 14), (6, 14), (7, 14), (8, 14), (9, 14), (10, 14), (11, 14), (12, 14), (13, 14), (0, 15), (1, 15), (2, 15), (3, 15), (4, 15), (5, 15), (6, 15), (7, 15), (8, 15), (9, 15), (10, 15), (11, 15), (12, 15), (13, 15), (14, 15), (0, 16), (1, 16), (2, 16), (3, 16), (4, 16), (5, 16), (6, 16), (7, 16), (8, 16), (9, 16), (10, 16), (11, 16), (12, 16), (13, 16), (14, 16), (15, 16)]
theorem ne_all : (flatC gn1).filter isNt = nePs.map (fun q => Cond.not (Cond.eq (tmS q.1) (tmS q.2))) := by decide +kernel
theorem ne_mem {q : Nat × Nat} (h : q ∈ nePs) : Cond.not (Cond.eq (tmS q.1) (tmS q.2)) ∈ flatC gn1 := by
  have : Cond.not (Cond.eq (tmS q.1) (tmS q.2)) ∈ (flatC gn1).filter isNt := by
    rw [ne_all]
    exact List.mem_map.mpr ⟨q, h, rfl⟩
  exact (List.mem_filter.mp this).1
theorem ne_chk : (List.range 17).all (fun i => (List.range 17).all (fun j => i == j || nePs.contains (i, j) || nePs.contains (j, i))) = true := by decide +kernel
theorem ne_has (i : Nat) (hi : i < 17) (j : Nat) (hj : j < 17) (hij : i ≠ j) : (i, j) ∈ nePs ∨ (j, i) ∈ nePs := by
  have h1 := List.all_eq_true.mp (List.all_eq_true.mp ne_chk i (List.mem_range.mpr hi)) j (List.mem_range.mpr hj)
  simp only [Bool.or_eq_true, beq_iff_eq, List.contains_iff_mem] at h1
  rcases h1 with (h1 | h1) | h1
  · exact absurd h1 hij
  · exact Or.inl h1
  · exact Or.inr h1
theorem tx_ne (i : Nat) (hi : i < 17) (j : Nat) (hj : j < 17) (hij : i ≠ j) : Cond.not (Cond.eq (tmS i) (tmS j)) ∈ flatC gn1 ∨ Cond.not (Cond.eq (tmS j) (tmS i)) ∈ flatC gn1 := (ne_has i hi j hj hij).elim (fun h => Or.inl (ne_mem h)) (fun h => Or.inr (ne_mem h))
theorem tx_ref : ∀ i : Nat, i < 17 → Cond.stringRef RX6 (txtW.getD i (0, "", [])).1 (txtW.getD i (0, "", [])).2.1 ∈ lw_tbl := by decide +kernel
theorem nest_in : ∀ q ∈ nestW, Cond.methodLinkNest q.1 q.2.1 q.2.2.1 q.2.2.2 ∈ lw_tbl := by decide +kernel
theorem cs_in : Cond.eq (.static "java/lang/String" "COMPACT_STRINGS" "Z") (.int 1) ∈ flatC gn1 := by decide +kernel
theorem sio_in : Cond.isRef (.static "jdk/internal/util/Preconditions" "SIOOBE_FORMATTER" "Ljava/util/function/BiFunction;") ∈ flatC gn1 := by decide +kernel
theorem cs_lay : Cond.laysStatic "java/lang/String" "COMPACT_STRINGS" "Z" ∈ lw_tbl := List.mem_append_right _ (List.mem_of_getElem? (i := 531) (by decide +kernel))
theorem sio_lay : Cond.laysStatic "jdk/internal/util/Preconditions" "SIOOBE_FORMATTER" "Ljava/util/function/BiFunction;" ∈ lw_tbl := List.mem_append_right _ (List.mem_of_getElem? (i := 564) (by decide +kernel))
