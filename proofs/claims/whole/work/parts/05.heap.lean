/-! CORE 4: rules of the heap: fields, rows, calls. -/
/-- a field's words: class number ci is (C, T, N) in vwCl, all its words are there -/
def FldOk (C : String) (T : u_T) (N ci : Nat) (ty : Nat → FieldType) : Prop := vwCl[ci]? = some (C, T, N) ∧ (∀ w ∈ u_ws C T N, w ∈ lw_g) ∧ (∀ k, k < N → parseFieldDescriptor (T k).2.2.1 = some (ty k)) ∧ (∀ a, a < N → ∀ b, b < N → a ≠ b → (T a).2.1 ≠ (T b).2.1)
section HRules
variable {Γ : Cx} {cc : ByteArray} {own : String} {nL h d pc p1 p2 : Nat} {sa : Nat → Nat}
theorem getF_spec {G : Hp} {a ci k : Nat} {v : Value} (e : getF G a ci k = some v) : ∃ fs : List Value, G a = some (.inl (ci, fs)) ∧ fs[k]? = some v := by
  unfold getF at e
  split at e
  · rename_i o ho
    split at e
    · rename_i hc
      obtain ⟨c1, fs⟩ := o
      cases hc
      exact ⟨fs, ho, e⟩
    · cases e
  · cases e
theorem w_get {α : Type} {val : α → Value} (hO : Ok Γ cc own nL h sa) {f : EA} (hf : Ex Γ .ref d pc p1 f) {C : String} {T : u_T} {N ci : Nat} {ty : Nat → FieldType} (hF : FldOk C T N ci ty) (k : Nat) (hk : k < N) {i : Nat} (hl : Cond.fieldLink own i (T k).1 (T k).2.1 (T k).2.2.1 ∈ lw_g) (hd : decode cc p1 = .ok (.getfield i, 3)) {g : Lo → Hp → Option (α × Hp)}
    (hg : ∀ (L : Lo) (G : Hp) (x : α) (G' : Hp), g L G = some (x, G') → ∃ r, f L G = some r ∧ getF r.2 r.1 ci k = some (val x) ∧ G' = r.2) : Ex Γ val d pc (p1 + 3) g := by
  intro L G x G' e st hw kk
  obtain ⟨r, e1, e2, rfl⟩ := hg L G x G' e
  refine hf L G r.1 r.2 e1 st hw ?_
  clear hg e1 e hf
  obtain ⟨p, l, e, R, s, m, args, below, meth, c, Q, n', D, A, sa', sv, ck, sk⟩ := Γ
  obtain ⟨⟨hx, hb, hml, hown, hts⟩, rfl, hK, hX, hR, hC, rfl⟩ := hO
  intro H locs ls hP hS hL
  obtain ⟨fs, g1, g2⟩ := getF_spec e2
  obtain ⟨hA, hat⟩ := hP _ _ g1
  have hat : va_at D vwCl (r.1, .inr (ci, fs)) H := hat
  exact va_get (D := D) (cl := vwCl) (tys := []) (ws := [(r.1, .inr (ci, fs))]) hx hb hts hF.2.1 hown hK (fun j q hj => by
    match j, hj with
    | 0, hj => cases hj; exact hat
    | j + 1, hj => simp at hj) 0 rfl hF.1 k hk (hts _ hl) (fun _ q => q) g2 hd (kk H locs ls hP hS hL)
theorem Ex.getI (hO : Ok Γ cc own nL h sa) {f : EA} (hf : Ex Γ .ref d pc p1 f) {C : String} {T : u_T} {N ci : Nat} {ty : Nat → FieldType} (hF : FldOk C T N ci ty) (k : Nat) (hk : k < N) {i : Nat} (hl : Cond.fieldLink own i (T k).1 (T k).2.1 (T k).2.2.1 ∈ lw_g) (hd : decode cc p1 = .ok (.getfield i, 3)) : Ex Γ .int d pc (p1 + 3) (fI f ci k) := by
  refine w_get hO hf hF k hk hl hd fun L G x G' e => ?_
  obtain ⟨r, e1, e2⟩ := Option.bind_eq_some_iff.mp e
  split at e2
  · rename_i y hy
    cases e2
    exact ⟨r, e1, hy, rfl⟩
  · cases e2
theorem Ex.getA (hO : Ok Γ cc own nL h sa) {f : EA} (hf : Ex Γ .ref d pc p1 f) {C : String} {T : u_T} {N ci : Nat} {ty : Nat → FieldType} (hF : FldOk C T N ci ty) (k : Nat) (hk : k < N) {i : Nat} (hl : Cond.fieldLink own i (T k).1 (T k).2.1 (T k).2.2.1 ∈ lw_g) (hd : decode cc p1 = .ok (.getfield i, 3)) : Ex Γ .ref d pc (p1 + 3) (fA f ci k) := by
  refine w_get hO hf hF k hk hl hd fun L G x G' e => ?_
  obtain ⟨r, e1, e2⟩ := Option.bind_eq_some_iff.mp e
  split at e2
  · rename_i y hy
    cases e2
    exact ⟨r, e1, hy, rfl⟩
  · cases e2
theorem getA_spec {G : Hp} {z : Bool} {a : Nat} {i x : Int32} (e : getA G z a i = some x) : ∃ (n : Nat) (f : Nat → Int32), G a = some (.inr (z, n, f)) ∧ vp_in i n ∧ x = f i.toNatClampNeg := by
  unfold getA at e
  split at e
  · rename_i o ho
    split at e
    · rename_i hc
      obtain ⟨z1, n, f⟩ := o
      obtain ⟨rfl, h1, h2⟩ := hc
      cases e
      exact ⟨n, f, ho, vp_in_iff.mpr ⟨h1, h2⟩, rfl⟩
    · cases e
  · cases e
theorem Ex.aldI (hO : Ok Γ cc own nL h sa) {f : EA} {g : EI} (hf : Ex Γ .ref d pc p1 f) (hg : Ex Γ .int (d + 1) p1 p2 g) (hd : decode cc p2 = .ok (.iaload, 1)) : Ex Γ .int d pc (p2 + 1) (aI false f g) := by
  intro L G x G' e st hw kk
  obtain ⟨r, e1, e2⟩ := Option.bind_eq_some_iff.mp e
  obtain ⟨q, e3, e4⟩ := Option.bind_eq_some_iff.mp e2
  obtain ⟨y, e5, e6⟩ := Option.bind_eq_some_iff.mp e4
  cases e6
  refine hf L G r.1 r.2 e1 st hw (hg L r.2 q.1 q.2 e3 (.ref r.1 :: st) (wdA hw) ?_)
  clear e1 e3 e e2 e4 hf hg
  obtain ⟨p, l, e, R, s, m, args, below, meth, c, Q, n', D, A, sa', sv, ck, sk⟩ := Γ
  obtain ⟨⟨hx, hb, hml, hown, hts⟩, rfl, hK, hX, hR, hC, rfl⟩ := hO
  intro H locs ls hP hS hL
  obtain ⟨n, F, g1, g2, rfl⟩ := getA_spec e5
  obtain ⟨hA, cA, g3, g4, g5⟩ := hP _ _ g1
  exact va_iald (D := D) (cl := vwCl) (tys := [(cA, .int)]) (ws := [(r.1, .inl (cA, n, .inl F))]) hx hb ⟨hK.1, fun j q hj => by
    match j, hj with
    | 0, hj => cases hj; exact ⟨g4, g5⟩
    | j + 1, hj => simp at hj⟩ (fun j q hj => by
    match j, hj with
    | 0, hj => cases hj; exact g3
    | j + 1, hj => simp at hj) 0 0 rfl rfl g2 hd (kk H locs ls hP hS hL)
theorem Ex.aldZ (hO : Ok Γ cc own nL h sa) {f : EA} {g : EI} (hf : Ex Γ .ref d pc p1 f) (hg : Ex Γ .int (d + 1) p1 p2 g) (hd : decode cc p2 = .ok (.baload, 1)) : Ex Γ .int d pc (p2 + 1) (aI true f g) := by
  intro L G x G' e st hw kk
  obtain ⟨r, e1, e2⟩ := Option.bind_eq_some_iff.mp e
  obtain ⟨q, e3, e4⟩ := Option.bind_eq_some_iff.mp e2
  obtain ⟨y, e5, e6⟩ := Option.bind_eq_some_iff.mp e4
  cases e6
  refine hf L G r.1 r.2 e1 st hw (hg L r.2 q.1 q.2 e3 (.ref r.1 :: st) (wdA hw) ?_)
  clear e1 e3 e e2 e4 hf hg
  obtain ⟨p, l, e, R, s, m, args, below, meth, c, Q, n', D, A, sa', sv, ck, sk⟩ := Γ
  obtain ⟨⟨hx, hb, hml, hown, hts⟩, rfl, hK, hX, hR, hC, rfl⟩ := hO
  intro H locs ls hP hS hL
  obtain ⟨n, F, g1, g2, rfl⟩ := getA_spec e5
  obtain ⟨hA, cA, g3, g4, g5⟩ := hP _ _ g1
  exact va_zald (D := D) (cl := vwCl) (tys := [(cA, .boolean)]) (ws := [(r.1, .inl (cA, n, .inl F))]) hx hb ⟨hK.1, fun j q hj => by
    match j, hj with
    | 0, hj => cases hj; exact ⟨g4, g5⟩
    | j + 1, hj => simp at hj⟩ (fun j q hj => by
    match j, hj with
    | 0, hj => cases hj; exact g3
    | j + 1, hj => simp at hj) 0 0 rfl rfl g2 hd (kk H locs ls hP hS hL)
theorem Ex.alen (hO : Ok Γ cc own nL h sa) {f : EA} (hf : Ex Γ .ref d pc p1 f) (hd : decode cc p1 = .ok (.arraylength, 1)) : Ex Γ .int d pc (p1 + 1) (aN f) := by
  intro L G x G' e st hw kk
  obtain ⟨r, e1, e2⟩ := Option.bind_eq_some_iff.mp e
  split at e2
  · rename_i o ho
    cases e2
    refine hf L G r.1 r.2 e1 st hw ?_
    clear e1 e hf
    obtain ⟨p, l, e, R, s, m, args, below, meth, c, Q, n', D, A, sa', sv, ck, sk⟩ := Γ
    obtain ⟨⟨hx, hb, hml, hown, hts⟩, rfl, hK, hX, hR, hC, rfl⟩ := hO
    intro H locs ls hP hS hL
    obtain ⟨hA, cA, g3, g4, g5⟩ := hP _ _ ho
    exact va_alen (D := D) (cl := vwCl) (tys := [(cA, zTy o.1)]) (ws := [(r.1, .inl (cA, o.2.1, .inl o.2.2))]) hx hb ⟨hK.1, fun j q hj => by
      match j, hj with
      | 0, hj => cases hj; exact ⟨g4, g5⟩
      | j + 1, hj => simp at hj⟩ (fun j q hj => by
      match j, hj with
      | 0, hj => cases hj; exact g3
      | j + 1, hj => simp at hj) 0 0 rfl rfl rfl hd (kk H locs ls hP hS hL)
  · cases e2
/-! calls -/
def unI (r : Option Value) : Option Int32 := match r with
  | some (.int x) => some x
  | _ => none
def unJ (r : Option Value) : Option Int64 := match r with
  | some (.long x) => some x
  | _ => none
def unA (r : Option Value) : Option Nat := match r with
  | some (.ref x) => some x
  | _ => none
theorem unI_ok {r : Option Value} {x : Int32} (h : unI r = some x) : r = some (.int x) := by
  unfold unI at h
  split at h <;> cases h
  rfl
theorem unJ_ok {r : Option Value} {x : Int64} (h : unJ r = some x) : r = some (.long x) := by
  unfold unJ at h
  split at h <;> cases h
  rfl
theorem unA_ok {r : Option Value} {x : Nat} (h : unA r = some x) : r = some (.ref x) := by
  unfold unA at h
  split at h <;> cases h
  rfl
/-- is there an object of class number ci -/
def isO (G : Hp) (a ci : Nat) : Bool := match G a with
  | some (.inl o) => decide (o.1 = ci)
  | _ => false
theorem isO_spec {G : Hp} {a ci : Nat} (e : isO G a ci = true) : ∃ fs : List Value, G a = some (.inl (ci, fs)) := by
  unfold isO at e
  split at e
  · rename_i o ho
    obtain ⟨c1, fs⟩ := o
    have := of_decide_eq_true e
    cases this
    exact ⟨fs, ho⟩
  · cases e
/-- an object's method: the receiver, the arguments, its telling, what is taken of its answer -/
def mV {α : Type} (un : Option Value → Option α) (ci : Nat) (F : List Value → Hp → Option (Option Value × Hp)) (r : EA) (as : EL) : Lo → Hp → Option (α × Hp) := fun L G => (r L G).bind fun a => (as L a.2).bind fun v => bif isO v.2 a.1 ci then (F (.ref a.1 :: v.1) v.2).bind fun t => (un t.1).bind fun x => some (x, t.2) else none
def mS {α : Type} (un : Option Value → Option α) (F : List Value → Hp → Option (Option Value × Hp)) (as : EL) : Lo → Hp → Option (α × Hp) := fun L G => (as L G).bind fun v => (F v.1 v.2).bind fun t => (un t.1).bind fun x => some (x, t.2)
/-- a method's words, whoever calls it -/
def MthV (y : MethodName) (bytes : ByteArray) (n : Nat) (ret : Option FieldType) (np ci : Nat) : Prop := (∃ T N, vwCl[ci]? = some (y.cls, T, N)) ∧ Cond.code y bytes n ret ∈ lw_g ∧ Cond.initialized y.cls ∈ lw_g ∧ Cond.instanceMethod y ∈ lw_g ∧ Cond.selects y.cls y y ∈ lw_g ∧ (y.cls ≠ "java/lang/invoke/MethodHandle" ∧ y.cls ≠ "java/lang/invoke/VarHandle" ∧ (parseMethodDescriptor y.desc).map (fun d => d.parameters.length) = some np) ∧ n ≤ 14
def MthS (y : MethodName) (bytes : ByteArray) (n : Nat) (ret : Option FieldType) (np : Nat) : Prop := Cond.code y bytes n ret ∈ lw_g ∧ Cond.initialized y.cls ∈ lw_g ∧ Cond.static y ∈ lw_g ∧ (y.cls ≠ "java/lang/invoke/MethodHandle" ∧ y.cls ≠ "java/lang/invoke/VarHandle" ∧ (parseMethodDescriptor y.desc).map (fun d => d.parameters.length) = some np) ∧ n ≤ 14
/-- one step: the call, with its arguments on the stack -/
theorem w_callV (hO : Ok Γ cc own nL h sa) {y : MethodName} {bytes : ByteArray} {n np ci h' : Nat} {ret : Option FieldType} {F : Fm} (hM : MthV y bytes n ret np ci) (hI : Impl y bytes n ret h' F) (hh : h' < h) {i : Nat} (hl : Cond.methodLink own i y ∈ lw_g) (hd : decode cc pc = .ok (.invokevirtual i, 3)) {L : Lo} {G G' : Hp} {a : Nat} {vs st : List Value} {r : Option Value} (hn : vs.length = np) (hw : wd st ≤ 8) (ho : isO G a ci = true) (hF : F sa (.ref a :: vs) G = some (r, G')) (kk : Wg Γ (pc + 3) L (r.toList ++ st) G') : Wg Γ pc L (vs.reverse ++ .ref a :: st) G := by
  obtain ⟨p, l, e, R, s, m, args, below, meth, c, Q, n', D, A, sa', sv, ck, sk⟩ := Γ
  obtain ⟨⟨hx, hb, hml, hown, hts⟩, rfl, hK, hX, hR, hC, rfl⟩ := hO
  intro H locs ls hP hS hL
  obtain ⟨fs, g1⟩ := isO_spec ho
  obtain ⟨⟨T, N, hcl⟩, hcode, hini, hinst, hsel, hdd, hn14⟩ := hM
  obtain ⟨hA, hat⟩ := hP _ _ g1
  have hat : va_at D vwCl (a, .inr (ci, fs)) H := hat
  have hrecv := va_recv (q0 := 0) (ws := [(a, .inr (ci, fs))]) hK (fun j q hj => by
    match j, hj with
    | 0, hj => cases hj; exact hat
    | j + 1, hj => simp at hj) hcl rfl
  refine w_call (va_runV (nL := n') (As := vs) (rest := st) (C := y.cls) ⟨hx, hb, hml, hown, hts⟩ (hI l D A sa' sv G (.ref a :: vs) r G' hF) ⟨callB_of np hts (GoodIn_cons hcode) rfl rfl rfl (hts _ hini) (hts _ hl) hdd ⟨by show h' + 1 ≤ R.frames; omega, by show 8 + (n + 11) + 33 * h' ≤ R.locals; omega⟩, hts _ hinst, hts _ hsel⟩ ⟨PreM.blind, hrecv, fun U hU hW => ⟨rfl, by rw [hU]; exact hP.moved hW.alike, va_K.moved hW.alike hK, (hX.warm hW).kept (fun q h1 h2 => by rw [hU]; exact hS.2.1 q h1 h2)⟩⟩ rfl hn hL.1 rfl (lv_room hw) hd ⟨hC.1, hC.2⟩) hS fun H1 locs1 hP1 hS1 => kk H1 locs1 ls hP1 hS1 hL
theorem w_callS (hO : Ok Γ cc own nL h sa) {y : MethodName} {bytes : ByteArray} {n np h' : Nat} {ret : Option FieldType} {F : Fm} (hM : MthS y bytes n ret np) (hI : Impl y bytes n ret h' F) (hh : h' < h) {i : Nat} (hl : Cond.methodLink own i y ∈ lw_g) (hd : decode cc pc = .ok (.invokestatic i, 3)) {L : Lo} {G G' : Hp} {vs st : List Value} {r : Option Value} (hn : vs.length = np) (hw : wd st ≤ 8) (hF : F sa vs G = some (r, G')) (kk : Wg Γ (pc + 3) L (r.toList ++ st) G') : Wg Γ pc L (vs.reverse ++ st) G := by
  obtain ⟨p, l, e, R, s, m, args, below, meth, c, Q, n', D, A, sa', sv, ck, sk⟩ := Γ
  obtain ⟨⟨hx, hb, hml, hown, hts⟩, rfl, hK, hX, hR, hC, rfl⟩ := hO
  intro H locs ls hP hS hL
  obtain ⟨hcode, hini, hstat, hdd, hn14⟩ := hM
  refine w_call (va_runS (nL := n') (As := vs) (rest := st) ⟨hx, hb, hml, hown, hts⟩ (hI l D A sa' sv G vs r G' hF) ⟨callB_of np hts (GoodIn_cons hcode) rfl rfl rfl (hts _ hini) (hts _ hl) hdd ⟨by show h' + 1 ≤ R.frames; omega, by show 8 + (n + 11) + 33 * h' ≤ R.locals; omega⟩, hts _ hstat⟩ ⟨PreM.blind, fun U hU hW => ⟨rfl, by rw [hU]; exact hP.moved hW.alike, va_K.moved hW.alike hK, (hX.warm hW).kept (fun q h1 h2 => by rw [hU]; exact hS.2.1 q h1 h2)⟩⟩ rfl hn hL.1 rfl (lv_room hw) hd ⟨hC.1, hC.2⟩) hS fun H1 locs1 hP1 hS1 => kk H1 locs1 ls hP1 hS1 hL
theorem w_callN (hO : Ok Γ cc own nL h sa) {y : MethodName} {bytes : ByteArray} {n np h' : Nat} {ret : Option FieldType} {F : Fm} (hM : MthS y bytes n ret np) (hI : Impl y bytes n ret h' F) (hh : h' < h) {i : Nat} {host : String} (hl : (own, i, y, host) ∈ nestW) (hd : decode cc pc = .ok (.invokestatic i, 3)) {L : Lo} {G G' : Hp} {vs st : List Value} {r : Option Value} (hn : vs.length = np) (hw : wd st ≤ 8) (hF : F sa vs G = some (r, G')) (kk : Wg Γ (pc + 3) L (r.toList ++ st) G') : Wg Γ pc L (vs.reverse ++ st) G := by
  obtain ⟨p, l, e, R, s, m, args, below, meth, c, Q, n', D, A, sa', sv, ck, sk⟩ := Γ
  obtain ⟨⟨hx, hb, hml, hown, hts⟩, rfl, hK, hX, hR, hC, rfl⟩ := hO
  intro H locs ls hP hS hL
  obtain ⟨hcode, hini, hstat, hdd, hn14⟩ := hM
  refine w_call (va_runSN (nL := n') (As := vs) (rest := st) ⟨hx, hb, hml, hown, hts⟩ (hI l D A sa' sv G vs r G' hF) ⟨va_cnB np hts (GoodIn_cons hcode) rfl rfl rfl (hX.1 _ hl) (hts _ hini) hdd ⟨by show h' + 1 ≤ R.frames; omega, by show 8 + (n + 11) + 33 * h' ≤ R.locals; omega⟩, hts _ hstat, trivial⟩ ⟨PreM.blind, fun U hU hW => ⟨rfl, by rw [hU]; exact hP.moved hW.alike, va_K.moved hW.alike hK, (hX.warm hW).kept (fun q h1 h2 => by rw [hU]; exact hS.2.1 q h1 h2)⟩⟩ rfl hn hL.1 rfl (lv_room hw) hd ⟨hC.1, hC.2⟩) hS fun H1 locs1 hP1 hS1 => kk H1 locs1 ls hP1 hS1 hL
/-- how many arguments a list of them has -/
def ALen (as : EL) (n : Nat) : Prop := ∀ (L : Lo) (G : Hp) (r : List Value × Hp), as L G = some r → r.1.length = n
theorem ALen.nil : ALen aNil 0 := by
  intro L G r e
  cases e
  rfl
theorem ALen.cons {α : Type} {val : α → Value} {f : Lo → Hp → Option (α × Hp)} {g : EL} {n : Nat} (hg : ALen g n) : ALen (aCons val f g) (n + 1) := by
  intro L G r e
  obtain ⟨a, e1, e2⟩ := Option.bind_eq_some_iff.mp e
  obtain ⟨q, e3, e4⟩ := Option.bind_eq_some_iff.mp e2
  cases e4
  show (_ :: q.1).length = n + 1
  rw [List.length_cons, hg _ _ _ e3]
theorem Ex.callV {α : Type} {val : α → Value} {un : Option Value → Option α} (hun : ∀ {r x}, un r = some x → r = some (val x)) (hO : Ok Γ cc own nL h sa) {y : MethodName} {bytes : ByteArray} {n np ci h' : Nat} {ret : Option FieldType} {F : Fm} (hM : MthV y bytes n ret np ci) (hI : Impl y bytes n ret h' F) (hh : h' < h) {i : Nat} (hl : Cond.methodLink own i y ∈ lw_g) {r : EA} {as : EL} (hr : Ex Γ .ref d pc p1 r) (ha : XS Γ (d + 1) p1 p2 as) (hn : ALen as np) (hd : decode cc p2 = .ok (.invokevirtual i, 3)) (h8 : d ≤ 8) : Ex Γ val d pc (p2 + 3) (mV un ci (F sa) r as) := by
  intro L G x G' e st hw kk
  obtain ⟨a, e1, e2⟩ := Option.bind_eq_some_iff.mp e
  obtain ⟨v, e3, e4⟩ := Option.bind_eq_some_iff.mp e2
  refine hr L G a.1 a.2 e1 st hw (ha L a.2 v.1 v.2 e3 (.ref a.1 :: st) (wdA hw) ?_)
  cases ho : isO v.2 a.1 ci with
  | false => rw [ho] at e4; cases e4
  | true =>
    rw [ho] at e4
    obtain ⟨t, e5, e6⟩ := Option.bind_eq_some_iff.mp e4
    obtain ⟨z, e7, e8⟩ := Option.bind_eq_some_iff.mp e6
    cases e8
    refine w_callV hO hM hI hh hl hd (hn _ _ _ e3) (Nat.le_trans hw h8) ho e5 ?_
    rw [hun e7]
    exact kk
theorem Ex.callS {α : Type} {val : α → Value} {un : Option Value → Option α} (hun : ∀ {r x}, un r = some x → r = some (val x)) (hO : Ok Γ cc own nL h sa) {y : MethodName} {bytes : ByteArray} {n np h' : Nat} {ret : Option FieldType} {F : Fm} (hM : MthS y bytes n ret np) (hI : Impl y bytes n ret h' F) (hh : h' < h) {i : Nat} (hl : Cond.methodLink own i y ∈ lw_g) {as : EL} (ha : XS Γ d pc p2 as) (hn : ALen as np) (hd : decode cc p2 = .ok (.invokestatic i, 3)) (h8 : d ≤ 8) : Ex Γ val d pc (p2 + 3) (mS un (F sa) as) := by
  intro L G x G' e st hw kk
  obtain ⟨v, e3, e4⟩ := Option.bind_eq_some_iff.mp e
  refine ha L G v.1 v.2 e3 st hw ?_
  obtain ⟨t, e5, e6⟩ := Option.bind_eq_some_iff.mp e4
  obtain ⟨z, e7, e8⟩ := Option.bind_eq_some_iff.mp e6
  cases e8
  refine w_callS hO hM hI hh hl hd (hn _ _ _ e3) (Nat.le_trans hw h8) e5 ?_
  rw [hun e7]
  exact kk
theorem Ex.callN {α : Type} {val : α → Value} {un : Option Value → Option α} (hun : ∀ {r x}, un r = some x → r = some (val x)) (hO : Ok Γ cc own nL h sa) {y : MethodName} {bytes : ByteArray} {n np h' : Nat} {ret : Option FieldType} {F : Fm} (hM : MthS y bytes n ret np) (hI : Impl y bytes n ret h' F) (hh : h' < h) {i : Nat} {host : String} (hl : (own, i, y, host) ∈ nestW) {as : EL} (ha : XS Γ d pc p2 as) (hn : ALen as np) (hd : decode cc p2 = .ok (.invokestatic i, 3)) (h8 : d ≤ 8) : Ex Γ val d pc (p2 + 3) (mS un (F sa) as) := by
  intro L G x G' e st hw kk
  obtain ⟨v, e3, e4⟩ := Option.bind_eq_some_iff.mp e
  refine ha L G v.1 v.2 e3 st hw ?_
  obtain ⟨t, e5, e6⟩ := Option.bind_eq_some_iff.mp e4
  obtain ⟨z, e7, e8⟩ := Option.bind_eq_some_iff.mp e6
  cases e8
  refine w_callN hO hM hI hh hl hd (hn _ _ _ e3) (Nat.le_trans hw h8) e5 ?_
  rw [hun e7]
  exact kk
end HRules
