/-! CORE 2: the words that all methods share, contexts, judgements. -/
def lw_g : List Cond := lw_tbl.filter goodWord
theorem lw_g_good : GoodIn lw_g lw_g := fun w hw => ⟨hw, good_of_word (List.mem_filter.mp hw).2⟩
theorem mem_g {w : Cond} (h : w ∈ lw_tbl) (hg : goodWord w = true) : w ∈ lw_g := List.mem_filter.mpr ⟨h, hg⟩
theorem mem_t {w : Cond} (i : Nat) (h : tables_1[i]? = some w) (hg : goodWord w = true) : w ∈ lw_g := mem_g (List.mem_append_right _ (List.mem_of_getElem? h)) hg
theorem mem_s {w : Cond} (i : Nat) (h : (k2_sels lw_privs)[i]? = some w) (hg : goodWord w = true) : w ∈ lw_g := mem_g (List.mem_append_left _ (List.mem_of_getElem? h)) hg
theorem GoodIn_cons {y : MethodName} {cc : ByteArray} {n : Nat} {ret : Option FieldType} (h : Cond.code y cc n ret ∈ lw_g) : GoodIn lw_g (Cond.code y cc n ret :: lw_g) := fun w hw => by
  rcases List.mem_cons.mp hw with rfl | h1
  · exact lw_g_good _ h
  · exact lw_g_good _ h1
/-- links within the nest -/
def nestW : List (String × Nat × MethodName × String) := [(RX7, 9, yX0_init, RX7), (RX0, 25, yX4_init, RX7), (RX7, 24, yX2_init, RX7), (RX2, 11, yX4_init, RX7), (RX2, 20, yX1_init, RX7), (RX7, 31, yX1_init, RX7), (RX1, 32, yX7_signed, RX7), (RX0, 78, yX7_bytesFor, RX7), (RX0, 99, yX7_signed, RX7), (RX4, 65, yX7_isWithin, RX7)]
/-- the 17 texts: pool place, text, bytes -/
def txtW : List (Nat × String × List Int32) := [(78, "in", [105, 110]), (80, "out", [111, 117, 116]), (82, "group", [103, 114, 111, 117, 112]), (84, "both", [98, 111, 116, 104]), (86, "end", [101, 110, 100]), (76, "what", [119, 104, 97, 116]), (88, "page", [112, 97, 103, 101]), (90, "least", [108, 101, 97, 115, 116]), (92, "most", [109, 111, 115, 116]), (94, "size", [115, 105, 122, 101]), (96, "id", [105, 100]), (98, "many", [109, 97, 110, 121]), (100, "push", [112, 117, 115, 104]), (102, "pop", [112, 111, 112]), (104, "use", [117, 115, 101]), (106, "first", [102, 105, 114, 115, 116]), (108, "upto", [117, 112, 116, 111])]
def txtL : List Nat := txtW.map fun q => q.2.2.length
def txtB : List (List Int32) := txtW.map fun q => q.2.2
/-- what else holds at every moment: nest links, texts, two statics of the JDK -/
def XF (sa sv : Nat → Nat) (A : Nat → Prop) (U : State) (H : Heap) : Prop :=
  (∀ q ∈ nestW, va_Nw (.methodLinkNest q.1 q.2.1 q.2.2.1 q.2.2.2) U) ∧ vk_S 17 txtL txtB sa sv A U H ∧ (∀ (i : Nat) (q : Nat × String × List Int32), txtW[i]? = some q → vk_R RX6 q.1 q.2.1 (sa i) U) ∧ va_Z "java/lang/String" "COMPACT_STRINGS" "Z" (.int 1) A U H ∧ ∃ v : Value, (v = .null ∨ ∃ a, v = .ref a) ∧ va_Z "jdk/internal/util/Preconditions" "SIOOBE_FORMATTER" "Ljava/util/function/BiFunction;" v A U H
theorem XF.warm {sa sv : Nat → Nat} {A : Nat → Prop} {s U : State} {H : Heap} (hW : s.WarmedH U.vm) (h : XF sa sv A s H) : XF sa sv A U H :=
  ⟨fun q hq => (h.1 q hq).warmM hW, h.2.1.moved hW.alike, fun i q hq => (h.2.2.1 i q hq).warm hW, h.2.2.2.1.moved hW.alike, by
    obtain ⟨v, hv, hz⟩ := h.2.2.2.2
    exact ⟨v, hv, hz.moved hW.alike⟩⟩
theorem XF.kept {sa sv : Nat → Nat} {A : Nat → Prop} {U : State} {H H1 : Heap} (h : XF sa sv A U H) (hq : ∀ a : Nat, a < H.size → ¬ A a → H1[a]? = H[a]?) : XF sa sv A U H1 :=
  ⟨h.1, h.2.1.kept hq, h.2.2.1, h.2.2.2.1.kept hq, by
    obtain ⟨v, hv, hz⟩ := h.2.2.2.2
    exact ⟨v, hv, hz.kept hq⟩⟩
theorem XF.same {sa sv : Nat → Nat} {A : Nat → Prop} {u U : State} {H : Heap} (hv : U.vm = u.vm) (h : XF sa sv A u H) : XF sa sv A U H :=
  ⟨fun q hq => (h.1 q hq).same rfl hv.symm, h.2.1.moved (by rw [hv]; exact Vm.Alike.refl _), fun i q hq => (h.2.2.1 i q hq).same hv, h.2.2.2.1.moved (by rw [hv]; exact Vm.Alike.refl _), by
    obtain ⟨v, h1, hz⟩ := h.2.2.2.2
    exact ⟨v, h1, hz.moved (by rw [hv]; exact Vm.Alike.refl _)⟩⟩
/-- room by height -/
def rmH (h : Nat) : Room := { frames := h, cells := 0, slots := 0, locals := 33 * h }
abbrev Cx : Type := Program × Launch × Env × Room × State × MethodId × Array Value × List Frame × Method × Code × (State → Prop) × Nat × va_G × (Nat → Prop) × (Nat → Nat) × (Nat → Nat) × Nat × Nat
def Wg (Γ : Cx) (pc : Nat) (L : Lo) (st : List Value) (G : Hp) : Prop := match Γ with
  | (p, l, e, R, s, m, args, below, meth, c, Q, nL, D, A, _, _, ck, sk) => ∀ (H : Heap) (locs : List Loc) (ls : Array Slot), Rep D A s G H → va_S A s.heap H locs → Lcs ls nL L → W p l e R s m args below meth c H locs ck sk Q (F0 m pc ls st)
/-- the context is a method's: its code, class, number of locals, height, the texts' addresses -/
def Ok (Γ : Cx) (cc : ByteArray) (own : String) (n h : Nat) (sa : Nat → Nat) : Prop := match Γ with
  | (p, _, _, R, s, m, args, _, _, c, _, nL, D, A, sa', sv, ck, sk) => CallFix p m c cc nL s args lw_g own ∧ nL = n ∧ va_K D vwCl [] s ∧ XF sa' sv A s s.heap ∧ (h ≤ R.frames ∧ 33 * h ≤ R.locals) ∧ (ck ≤ R.cells ∧ sk ≤ R.slots) ∧ sa' = sa
abbrev wd (st : List Value) : Nat := (st.map fun v => v.category).sum
/-- code from pc to pc' pushes a value, told by f -/
def Ex {α : Type} (Γ : Cx) (val : α → Value) (d pc pc' : Nat) (f : Lo → Hp → Option (α × Hp)) : Prop :=
  ∀ (L : Lo) (G : Hp) (x : α) (G' : Hp), f L G = some (x, G') → ∀ st : List Value, wd st ≤ d → Wg Γ pc' L (val x :: st) G' → Wg Γ pc L st G
/-- code from pc on goes to pt or pf, as f tells -/
def CJ (Γ : Cx) (d pc pt pf : Nat) (f : Lo → Hp → Option (Bool × Hp)) : Prop :=
  ∀ (L : Lo) (G : Hp) (b : Bool) (G' : Hp), f L G = some (b, G') → ∀ st : List Value, wd st ≤ d → Wg Γ (bif b then pt else pf) L st G' → Wg Γ pc L st G
/-- arguments -/
def XS (Γ : Cx) (d pc pc' : Nat) (f : Lo → Hp → Option (List Value × Hp)) : Prop :=
  ∀ (L : Lo) (G : Hp) (vs : List Value) (G' : Hp), f L G = some (vs, G') → ∀ st : List Value, wd st ≤ d → Wg Γ pc' L (vs.reverse ++ st) G' → Wg Γ pc L st G
/-- a return of v with the heap G is all right -/
def Ret (Γ : Cx) (cc : ByteArray) (v : Option Value) (G : Hp) : Prop := ∀ (pc : Nat) (L : Lo), (match v with
  | none => decode cc pc = .ok (.return_, 1)
  | some (.int _) => decode cc pc = .ok (.ireturn, 1)
  | some (.long _) => decode cc pc = .ok (.lreturn, 1)
  | some _ => decode cc pc = .ok (.areturn, 1)) → Wg Γ pc L v.toList G
/-- how a statement ends: inl 0 at its end, inl 1 break, inl 2 continue, inr v return -/
abbrev Cm : Type := Nat ⊕ Option Value
abbrev Sm : Type := Lo → Hp → Option (Cm × Lo × Hp)
def Goes_on (Γ : Cx) (cc : ByteArray) (pc' bk ct : Nat) (o : Cm) (L : Lo) (G : Hp) : Prop := match o with
  | .inl 0 => Wg Γ pc' L [] G
  | .inl 1 => Wg Γ bk L [] G
  | .inl _ => Wg Γ ct L [] G
  | .inr v => Ret Γ cc v G
def St (Γ : Cx) (cc : ByteArray) (pc pc' bk ct : Nat) (f : Sm) : Prop :=
  ∀ (L : Lo) (G : Hp) (o : Cm) (L' : Lo) (G' : Hp), f L G = some (o, L', G') → Goes_on Γ cc pc' bk ct o L' G' → Wg Γ pc L [] G
/-- a method told by f -/
def PreM (D : va_G) (A : Nat → Prop) (sa sv : Nat → Nat) (G : Hp) (av : List Value) : Array Value → State → Prop := va_Pc av (fun U => Rep D A U G U.heap ∧ va_K D vwCl [] U ∧ XF sa sv A U U.heap)
def PostM (D : va_G) (A : Nat → Prop) (r : Option Value) (G : Hp) : Array Value → State → Outcome → State → Prop := fun _ st oc t => oc = .returned r ∧ Rep D A t G t.heap ∧ va_F A st t
abbrev Fm : Type := (Nat → Nat) → List Value → Hp → Option (Option Value × Hp)
def Impl (y : MethodName) (cc : ByteArray) (n : Nat) (ret : Option FieldType) (h : Nat) (f : Fm) : Prop :=
  ∀ (l : Launch) (D : va_G) (A : Nat → Prop) (sa sv : Nat → Nat) (G : Hp) (av : List Value) (r : Option Value) (G' : Hp), f sa av G = some (r, G') → Met l y (Cond.code y cc n ret :: lw_g) (rmH h) (PreM D A sa sv G av) (PostM D A r G') 0 0 A
theorem PreM.blind {D : va_G} {A : Nat → Prop} {sa sv : Nat → Nat} {G : Hp} {av : List Value} : FrameBlind (PreM D A sa sv G av) := by
  intro a U g mk q
  obtain ⟨h1, h2, h3, h4⟩ := q
  exact ⟨h1, Rep.moved (u := U) (U := U.calling g mk a) (Vm.Alike.refl U.vm) h2, va_K.moved (u := U) (U := U.calling g mk a) (Vm.Alike.refl U.vm) h3, h4.same rfl⟩
/-- behind a call -/
theorem w_call {p : Program} {l : Launch} {e : Env} {R : Room} {s : State} {m : MethodId} {args : Array Value} {below : List Frame} {meth : Method} {c : Code} {H : Heap} {locs : List Loc} {ck sk : Nat} {Q : State → Prop} {D : va_G} {A : Nat → Prop} {G' : Hp} {r : Option Value} {pc : Nat} {ls : Array Slot} {st0 rest : List Value} {a : Array Value}
    (hr : va_Run p l e R s m args below meth c H locs ck sk 0 0 (F0 m pc ls st0) rest (PostM D A r G' a) A) (hS : va_S A s.heap H locs)
    (kk : ∀ (H1 : Heap) (locs1 : List Loc), Rep D A s G' H1 → va_S A s.heap H1 locs1 → W p l e R s m args below meth c H1 locs1 ck sk Q (F0 m (pc + 3) ls (r.toList ++ rest))) : W p l e R s m args below meth c H locs ck sk Q (F0 m pc ls st0) := by
  intro T hT X
  obtain ⟨v, st₀, t, T', L, h0, X', hL, e1, e2, ⟨hv, hP, hz, hk⟩, st⟩ := hr T hT X
  cases hv
  rw [h0] at hz hk
  obtain ⟨t2, a1, b1⟩ := kk T'.heap (locs ++ L) (by rw [e1]; exact hP.moved (by rw [← e2]; exact X'.warmed.alike.symm))
    ⟨Nat.le_trans hS.1 (by rw [e1]; exact hz), fun q h1 h2 => by rw [e1, hk q (Nat.lt_of_lt_of_le h1 hS.1) h2]; exact hS.2.1 q h1 h2, fun q hq => by
      rcases List.mem_append.mp hq with h | h
      · exact hS.2.2 q h
      · exact hL q h⟩ T' rfl X'
  exact ⟨t2, st t2 a1, b1⟩
