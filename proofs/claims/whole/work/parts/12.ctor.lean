/-! CONSTRUCTORS: the same judgement with the heap's size and the cells and slots made so far. -/
def Wc (Γ : Cx) (k n sz pc : Nat) (L : Lo) (st : List Value) (G : Hp) : Prop := match Γ with
  | (p, l, e, R, s, m, args, below, meth, c, Q, nL, D, A, _, _, _, _) => ∀ (H : Heap) (locs : List Loc) (ls : Array Slot), Rep D A s G H → H.size = sz → va_S A s.heap H locs → Lcs ls nL L → W p l e R s m args below meth c H locs k n Q (F0 m pc ls st)
def cap (Γ : Cx) : Nat × Nat := match Γ with
  | (_, _, _, R, _, _, _, _, _, _, _, _, _, _, _, _, _, _) => (R.cells, R.slots)
def mname (Γ : Cx) : String := match Γ with
  | (_, _, _, _, _, _, _, _, meth, _, _, _, _, _, _, _, _, _) => meth.name
/-- new cells are the method's own -/
def frs (Γ : Cx) (sz : Nat) : Prop := match Γ with
  | (_, _, _, _, _, _, _, _, _, _, _, _, _, A, _, _, _, _) => ∀ q, sz ≤ q → A q
def rmC (h mc ms : Nat) : Room := { frames := h, cells := mc, slots := ms, locals := 33 * h }
def PreC (D : va_G) (A : Nat → Prop) (sa sv : Nat → Nat) (G : Hp) (sz : Nat) (av : List Value) : Array Value → State → Prop := va_Pc av (fun U => Rep D A U G U.heap ∧ U.heap.size = sz ∧ va_K D vwCl [] U ∧ XF sa sv A U U.heap)
def PostC (D : va_G) (A : Nat → Prop) (G : Hp) (sz : Nat) : Array Value → State → Outcome → State → Prop := fun _ st oc t => oc = .returned none ∧ Rep D A t G t.heap ∧ t.heap.size = sz ∧ va_F A st t
def Ctor (y : MethodName) (cc : ByteArray) (n h mc ms : Nat) (av : List Value) (G : Hp) (sz : Nat) (G' : Hp) : Prop :=
  ∀ (l : Launch) (D : va_G) (A : Nat → Prop) (sa sv : Nat → Nat), (∀ q, sz ≤ q → A q) → Met l y (Cond.code y cc n none :: lw_g) (rmC h mc ms) (PreC D A sa sv G sz av) (PostC D A G' (sz + mc)) mc ms A
theorem PreC.blind {D : va_G} {A : Nat → Prop} {sa sv : Nat → Nat} {G : Hp} {sz : Nat} {av : List Value} : FrameBlind (PreC D A sa sv G sz av) := by
  intro a U g mk q
  obtain ⟨h1, h2, h0, h3, h4⟩ := q
  exact ⟨h1, Rep.moved (u := U) (U := U.calling g mk a) (Vm.Alike.refl U.vm) h2, h0, va_K.moved (u := U) (U := U.calling g mk a) (Vm.Alike.refl U.vm) h3, h4.same rfl⟩
section CRules
variable {Γ : Cx} {cc : ByteArray} {own : String} {nL h k n sz pc : Nat} {sa : Nat → Nat} {L : Lo} {st : List Value} {G : Hp}
theorem c_aloadn (hO : Ok Γ cc own nL h sa) {i : Fin 4} {x : Nat} (hd : decode cc pc = .ok (.aload_n i, 1)) (hl : L[(i : Nat)]? = some (some (.ref x))) (kk : Wc Γ k n sz (pc + 1) L (.ref x :: st) G) : Wc Γ k n sz pc L st G := by
  obtain ⟨p, l, ev, R, s, m, args, below, meth, c, Q, n', D, A, sa', sv, ck, sk⟩ := Γ
  obtain ⟨⟨hx, hb, hml, hown, hts⟩, rfl, hK, hX, hR, hC, rfl⟩ := hO
  intro H locs ls hP hz hS hL
  exact lv_aload_n hx hb hd rfl (hL.2.2 _ _ hl) (kk H locs ls hP hz hS hL)
theorem c_iloadn (hO : Ok Γ cc own nL h sa) {i : Fin 4} {x : Int32} (hd : decode cc pc = .ok (.iload_n i, 1)) (hl : L[(i : Nat)]? = some (some (.int x))) (kk : Wc Γ k n sz (pc + 1) L (.int x :: st) G) : Wc Γ k n sz pc L st G := by
  obtain ⟨p, l, ev, R, s, m, args, below, meth, c, Q, n', D, A, sa', sv, ck, sk⟩ := Γ
  obtain ⟨⟨hx, hb, hml, hown, hts⟩, rfl, hK, hX, hR, hC, rfl⟩ := hO
  intro H locs ls hP hz hS hL
  exact lv_iload_n hx hb hd rfl (hL.2.2 _ _ hl) (kk H locs ls hP hz hS hL)
theorem c_iconst (hO : Ok Γ cc own nL h sa) {i : Int} {v : Int32} (hd : decode cc pc = .ok (.iconst i, 1)) (hv : Int32.ofInt i = v) (kk : Wc Γ k n sz (pc + 1) L (.int v :: st) G) : Wc Γ k n sz pc L st G := by
  obtain ⟨p, l, ev, R, s, m, args, below, meth, c, Q, n', D, A, sa', sv, ck, sk⟩ := Γ
  obtain ⟨⟨hx, hb, hml, hown, hts⟩, rfl, hK, hX, hR, hC, rfl⟩ := hO
  intro H locs ls hP hz hS hL
  exact lv_iconst hx hb hd hv (kk H locs ls hP hz hS hL)
theorem c_bipush (hO : Ok Γ cc own nL h sa) {i : Int} {v : Int32} (hd : decode cc pc = .ok (.bipush i, 2)) (hv : (Int8.ofInt i).toInt32 = v) (kk : Wc Γ k n sz (pc + 2) L (.int v :: st) G) : Wc Γ k n sz pc L st G := by
  obtain ⟨p, l, ev, R, s, m, args, below, meth, c, Q, n', D, A, sa', sv, ck, sk⟩ := Γ
  obtain ⟨⟨hx, hb, hml, hown, hts⟩, rfl, hK, hX, hR, hC, rfl⟩ := hO
  intro H locs ls hP hz hS hL
  exact lv_bipush hx hb hd hv (kk H locs ls hP hz hS hL)
theorem c_sipush (hO : Ok Γ cc own nL h sa) {i : Int} {v : Int32} (hd : decode cc pc = .ok (.sipush i, 3)) (hv : (Int16.ofInt i).toInt32 = v) (kk : Wc Γ k n sz (pc + 3) L (.int v :: st) G) : Wc Γ k n sz pc L st G := by
  obtain ⟨p, l, ev, R, s, m, args, below, meth, c, Q, n', D, A, sa', sv, ck, sk⟩ := Γ
  obtain ⟨⟨hx, hb, hml, hown, hts⟩, rfl, hK, hX, hR, hC, rfl⟩ := hO
  intro H locs ls hP hz hS hL
  exact lv_sipush hx hb hd hv (kk H locs ls hP hz hS hL)
theorem c_dup (hO : Ok Γ cc own nL h sa) {x : Nat} (hd : decode cc pc = .ok (.dup, 1)) (kk : Wc Γ k n sz (pc + 1) L (.ref x :: .ref x :: st) G) : Wc Γ k n sz pc L (.ref x :: st) G := by
  obtain ⟨p, l, ev, R, s, m, args, below, meth, c, Q, n', D, A, sa', sv, ck, sk⟩ := Γ
  obtain ⟨⟨hx, hb, hml, hown, hts⟩, rfl, hK, hX, hR, hC, rfl⟩ := hO
  intro H locs ls hP hz hS hL
  exact lv_dup hx hb hd rfl (kk H locs ls hP hz hS hL)
theorem c_mul (hO : Ok Γ cc own nL h sa) {x y : Int32} (hd : decode cc pc = .ok (.imul, 1)) (kk : Wc Γ k n sz (pc + 1) L (.int (x * y) :: st) G) : Wc Γ k n sz pc L (.int y :: .int x :: st) G := by
  obtain ⟨p, l, ev, R, s, m, args, below, meth, c, Q, n', D, A, sa', sv, ck, sk⟩ := Γ
  obtain ⟨⟨hx, hb, hml, hown, hts⟩, rfl, hK, hX, hR, hC, rfl⟩ := hO
  intro H locs ls hP hz hS hL
  exact lv_imul hx hb hd (kk H locs ls hP hz hS hL)
theorem c_obj (hO : Ok Γ cc own nL h sa) (hh : 1 ≤ h) {x i : Nat} (hd : decode cc pc = .ok (.invokespecial i, 3)) (hl : Cond.methodLink own i Lib.objectInit ∈ lw_g) (h1 : Cond.instanceMethod Lib.objectInit ∈ lw_g) (h2 : Cond.code Lib.objectInit ⟨#[0xb1]⟩ 1 none ∈ lw_g) (hw : wd st ≤ 8) (kk : Wc Γ k n sz (pc + 3) L st G) : Wc Γ k n sz pc L (.ref x :: st) G := by
  obtain ⟨p, l, ev, R, s, m, args, below, meth, c, Q, n', D, A, sa', sv, ck, sk⟩ := Γ
  obtain ⟨⟨hx, hb, hml, hown, hts⟩, rfl, hK, hX, hR, hC, rfl⟩ := hO
  intro H locs ls hP hz hS hL
  exact W.objInit hx hb hown (hts _ hl) (hts _ h1) (hts _ h2) rfl (hL.1.trans hml.symm) rfl hd (by omega) (by show 2 * 0 + wd st + 12 ≤ R.locals; omega) (kk H locs ls hP hz hS hL)
theorem c_max (hO : Ok Γ cc own nL h sa) (hh : 1 ≤ h) {x y v : Int32} {i : Nat} (hd : decode cc pc = .ok (.invokestatic i, 3)) (hl : Cond.methodLink own i Lib.Math.max.name ∈ lw_g) (h1 : Cond.static Lib.Math.max.name ∈ lw_g) (h2 : Cond.initialized "java/lang/Math" ∈ lw_g) (h3 : Cond.code Lib.Math.max.name Lib.Math.max.code 2 (some .int) ∈ lw_g) (hw : wd st ≤ 8) (hcap : k ≤ (cap Γ).1 ∧ n ≤ (cap Γ).2) (hv : (if x < y then y else x) = v) (kk : Wc Γ k n sz (pc + 3) L (.int v :: st) G) : Wc Γ k n sz pc L (.int y :: .int x :: st) G := by
  obtain ⟨p, l, ev, R, s, m, args, below, meth, c, Q, n', D, A, sa', sv, ck, sk⟩ := Γ
  obtain ⟨⟨hx, hb, hml, hown, hts⟩, rfl, hK, hX, hR, hC, rfl⟩ := hO
  intro H locs ls hP hz hS hL
  subst hv
  exact va_mmax hx hb (hml.trans hL.1.symm) hown (hts _ hl) (hts _ h1) (hts _ h2) (hts _ h3) (by omega) (by show wd st + 13 ≤ R.locals; omega) hcap.1 hcap.2 hd (kk H locs ls hP hz hS hL)
theorem c_getI (hO : Ok Γ cc own nL h sa) {C : String} {T : u_T} {N ci : Nat} {ty : Nat → FieldType} (hF : FldOk C T N ci ty) (f : Nat) (hk : f < N) {i : Nat} (hl : Cond.fieldLink own i (T f).1 (T f).2.1 (T f).2.2.1 ∈ lw_g) (hd : decode cc pc = .ok (.getfield i, 3)) {a : Nat} {v : Value} (e2 : getF G a ci f = some v) (kk : Wc Γ k n sz (pc + 3) L (v :: st) G) : Wc Γ k n sz pc L (.ref a :: st) G := by
  obtain ⟨p, l, e, R, s, m, args, below, meth, c, Q, n', D, A, sa', sv, ck, sk⟩ := Γ
  obtain ⟨⟨hx, hb, hml, hown, hts⟩, rfl, hK, hX, hR, hC, rfl⟩ := hO
  intro H locs ls hP hz hS hL
  obtain ⟨fs, g1, g2⟩ := getF_spec e2
  obtain ⟨hA, hat⟩ := hP _ _ g1
  have hat : va_at D vwCl (a, .inr (ci, fs)) H := hat
  exact va_get (D := D) (cl := vwCl) (tys := []) (ws := [(a, .inr (ci, fs))]) hx hb hts hF.2.1 hown hK (fun j q hj => by
    match j, hj with
    | 0, hj => cases hj; exact hat
    | j + 1, hj => simp at hj) 0 rfl hF.1 f hk (hts _ hl) (fun _ q => q) g2 hd (kk H locs ls hP hz hS hL)
theorem RAt.lt {D : va_G} {U : State} {H : Heap} {a : Nat} {e : Cel} (h : RAt D U H a e) : a < H.size := by
  cases e with
  | inl o => exact va_at.lt (q := (a, .inr o)) h
  | inr o =>
    obtain ⟨cA, h1, -⟩ := h
    exact va_at.lt (q := (a, .inl (cA, o.2.1, .inl o.2.2))) h1
theorem Rep.push {D : va_G} {A : Nat → Prop} {U : State} {G : Hp} {H H1 : Heap} {e : Cel} (h : Rep D A U G H) (hA : A H.size) (he : RAt D U H1 H.size e) (oq : ∀ q : Nat, q < H.size → H1[q]? = H[q]?) : Rep D A U (hset G H.size e) H1 := by
  intro b e2 hb
  unfold hset at hb
  by_cases hba : b = H.size
  · rw [if_pos hba] at hb
    cases hb
    subst hba
    exact ⟨hA, he⟩
  · rw [if_neg hba] at hb
    exact ⟨(h b e2 hb).1, (h b e2 hb).2.kept (oq b (h b e2 hb).2.lt)⟩
theorem c_new (hO : Ok Γ cc own nL h sa) (hfr : frs Γ sz) {C : String} {T : u_T} {N ci : Nat} {ty : Nat → FieldType} (hF : FldOk C T N ci ty) {i : Nat} (hd : decode cc pc = .ok (.new i, 3)) (h1 : Cond.classLink own i C ∈ lw_g) (h2 : Cond.instantiable C N ∈ lw_g) (h3 : Cond.initialized C ∈ lw_g) (fs : List Value) (hfs : ∀ j, j < N → defaultValue (ty j) = vp_V fs j) (hcap : k + 1 ≤ (cap Γ).1 ∧ n + N ≤ (cap Γ).2) (kk : Wc Γ (k + 1) (n + N) (sz + 1) (pc + 3) L (.ref sz :: st) (hset G sz (.inl (ci, fs)))) : Wc Γ k n sz pc L st G := by
  obtain ⟨p, l, ev, R, s, m, args, below, meth, c, Q, n', D, A, sa', sv, ck, sk⟩ := Γ
  obtain ⟨⟨hx, hb, hml, hown, hts⟩, rfl, hK, hX, hR, hC, rfl⟩ := hO
  intro H locs ls hP hz hS hL
  have hKn := hK.1 ci _ hF.1
  have hfr : ∀ q, sz ≤ q → A q := hfr
  refine W.newcK hx hb hown (hts _ h1) (hts _ h2) (hts _ h3) rfl hd hcap.1 hcap.2 hKn.2.1 rfl fun H1 kC hkC e1 z1 o1 => ?_
  subst hz
  refine kk H1 locs ls (hP.push (hfr _ (Nat.le_refl _)) ?_ o1) z1 ⟨Nat.le_trans hS.1 (by omega), fun x g1 g2 => (o1 x (Nat.lt_of_lt_of_le g1 hS.1)).trans (hS.2.1 x g1 g2), hS.2.2⟩ hL
  exact ⟨_, hF.1, (u_born ty hts hF.2.1 hKn hkC e1 hF.2.2.1).to hfs⟩
theorem c_newI (hO : Ok Γ cc own nL h sa) (hfr : frs Γ sz) (hd : decode cc pc = .ok (.newarray .int, 2)) (h1 : Cond.arrayClass .int ∈ lw_g) {v : Int32} {N : Nat} (hv : v = nI N) (hN : N < 10000) (hcap : k + 1 ≤ (cap Γ).1 ∧ n + N ≤ (cap Γ).2) (kk : Wc Γ (k + 1) (n + N) (sz + 1) (pc + 2) L (.ref sz :: st) (hset G sz (.inr (false, N, fun _ => 0)))) : Wc Γ k n sz pc L (.int v :: st) G := by
  obtain ⟨p, l, ev, R, s, m, args, below, meth, c, Q, n', D, A, sa', sv, ck, sk⟩ := Γ
  obtain ⟨⟨hx, hb, hml, hown, hts⟩, rfl, hK, hX, hR, hC, rfl⟩ := hO
  intro H locs ls hP hz hS hL
  have hfr : ∀ q, sz ≤ q → A q := hfr
  subst hv
  refine va_newaK hx hb (atype := .int) (hts _ h1) rfl hd rfl (nI_pos (by omega)) (nI_clamp (by omega)) (by show N * 4 ≤ 536870912; omega) hcap.1 hcap.2 hz fun H1 cA e1 z1 o1 hAr hNm => ?_
  subst hz
  refine kk H1 locs ls (hP.push (hfr _ (Nat.le_refl _)) ⟨cA, ?_, hAr, hNm⟩ o1) z1 ⟨Nat.le_trans hS.1 (by omega), fun x g1 g2 => (o1 x (Nat.lt_of_lt_of_le g1 hS.1)).trans (hS.2.1 x g1 g2), hS.2.2⟩ hL
  show H1[H.size]? = some (vp_cell _ _)
  rw [e1]
  rfl
theorem c_newZ (hO : Ok Γ cc own nL h sa) (hfr : frs Γ sz) (hd : decode cc pc = .ok (.newarray .boolean, 2)) (h1 : Cond.arrayClass .boolean ∈ lw_g) {v : Int32} {N : Nat} (hv : v = nI N) (hN : N < 10000) (hcap : k + 1 ≤ (cap Γ).1 ∧ n + N ≤ (cap Γ).2) (kk : Wc Γ (k + 1) (n + N) (sz + 1) (pc + 2) L (.ref sz :: st) (hset G sz (.inr (true, N, fun _ => 0)))) : Wc Γ k n sz pc L (.int v :: st) G := by
  obtain ⟨p, l, ev, R, s, m, args, below, meth, c, Q, n', D, A, sa', sv, ck, sk⟩ := Γ
  obtain ⟨⟨hx, hb, hml, hown, hts⟩, rfl, hK, hX, hR, hC, rfl⟩ := hO
  intro H locs ls hP hz hS hL
  have hfr : ∀ q, sz ≤ q → A q := hfr
  subst hv
  refine va_newaK hx hb (atype := .boolean) (hts _ h1) rfl hd rfl (nI_pos (by omega)) (nI_clamp (by omega)) (by show N * 1 ≤ 536870912; omega) hcap.1 hcap.2 hz fun H1 cA e1 z1 o1 hAr hNm => ?_
  subst hz
  refine kk H1 locs ls (hP.push (hfr _ (Nat.le_refl _)) ⟨cA, ?_, hAr, hNm⟩ o1) z1 ⟨Nat.le_trans hS.1 (by omega), fun x g1 g2 => (o1 x (Nat.lt_of_lt_of_le g1 hS.1)).trans (hS.2.1 x g1 g2), hS.2.2⟩ hL
  show H1[H.size]? = some (vp_cell _ _)
  rw [e1]
  rfl
/-- a store into a final field, in its own constructor -/
theorem c_putF (hO : Ok Γ cc own nL h sa) (hin : mname Γ = "<init>") {C : String} {T : u_T} {N ci : Nat} {ty : Nat → FieldType} (hF : FldOk C T N ci ty) (f : Nat) (hk : f < N) (hfin : (T f).2.2.2 = true) (hdecl : (T f).1 = own) {i : Nat} (hl : Cond.fieldLink own i (T f).1 (T f).2.1 (T f).2.2.1 ∈ lw_g) (hd : decode cc pc = .ok (.putfield i, 3)) {G' : Hp} {a : Nat} {v : Value} (hn : narrow (ty f) v = v) (hfit : fits (ty f) v = true) (e : putF G a ci f v = some G') (kk : Wc Γ k n sz (pc + 3) L st G') : Wc Γ k n sz pc L (v :: .ref a :: st) G := by
  obtain ⟨p, l, ev, R, s, m, args, below, meth, c, Q, n', D, A, sa', sv, ck, sk⟩ := Γ
  obtain ⟨⟨hx, hb, hml, hown, hts⟩, rfl, hK, hX, hR, hC, rfl⟩ := hO
  intro H locs ls hP hz hS hL
  unfold putF at e
  split at e
  · rename_i o ho
    obtain ⟨c1, fs⟩ := o
    dsimp only at e
    split at e
    · rename_i hc
      obtain ⟨rfl, hlen⟩ := hc
      cases e
      obtain ⟨hA, hat⟩ := hP _ _ ho
      have hat : va_at D vwCl (a, .inr (c1, fs)) H := hat
      obtain ⟨r, h1, cell, q1, q2, q3, q4⟩ := hat
      have hap := va_apart (own := own) hts hF.2.1 ty hF.2.2.1 hF.2.2.2 hK hF.1
      have hr : r = (C, T, N) := Option.some.inj (h1.symm.trans hF.1)
      subst hr
      obtain ⟨hSl, hfc, kC, hkC, hkind⟩ := hK.1 c1 _ hF.1
      obtain ⟨cf, kf, fi, fd, hi, hsl⟩ := hSl f hk
      have hlay := hts _ (hF.2.1 _ (u_in_lay hk))
      unfold u_lay at hlay
      rw [if_pos hfin] at hlay
      have hst := (u_facts hfc hkC (u_lays hts hF.2.1 hk) hi).1
      have hcf : m.cls = cf := by
        obtain ⟨_, _, c', _, _, _, -, -, hf', -, -, -, hown2, -⟩ := Cond.laysFinal_spec hlay
        have e1 : c' = cf := by have := hi.symm.trans hf'; simp at this; exact this.1.symm
        rw [hdecl] at hown2
        rw [← e1]; exact Option.some.inj (hown.symm.trans hown2)
      have h6 := u_fits hfc hkC hkind (Or.inr hlay) hi (hF.2.2.1 f hk) hn hfit
      refine W.putFinK hx hb hown (hts _ hl) hi hst hcf hin (by rw [q2]; exact h6) q1 q3 (by rw [hsl]; exact k2_hasslot (q4 f hk)) rfl rfl hd fun H' e1 e2 e3 => ?_
      rw [hsl] at e1 ⊢
      refine kk H' _ ls (hP.set hA ?_ e3) (e2.trans hz) (hS.put e2 e3 hA) hL
      exact ⟨_, hF.1, t_OB.to (V := updV (vp_V fs) f v) ⟨_, e1, q2, q3, t_set q4 hap hk v⟩ (fun j _ => vp_updV_set hlen v j)⟩
    · cases e
  · cases e
theorem c_put (hO : Ok Γ cc own nL h sa) {C : String} {T : u_T} {N ci : Nat} {ty : Nat → FieldType} (hF : FldOk C T N ci ty) (f : Nat) (hk : f < N) (hfin : (T f).2.2.2 = false) {i : Nat} (hl : Cond.fieldLink own i (T f).1 (T f).2.1 (T f).2.2.1 ∈ lw_g) (hd : decode cc pc = .ok (.putfield i, 3)) {G' : Hp} {a : Nat} {v : Value} (hn : narrow (ty f) v = v) (hfit : fits (ty f) v = true) (e : putF G a ci f v = some G') (kk : Wc Γ k n sz (pc + 3) L st G') : Wc Γ k n sz pc L (v :: .ref a :: st) G := by
  obtain ⟨p, l, ev, R, s, m, args, below, meth, c, Q, n', D, A, sa', sv, ck, sk⟩ := Γ
  obtain ⟨⟨hx, hb, hml, hown, hts⟩, rfl, hK, hX, hR, hC, rfl⟩ := hO
  intro H locs ls hP hz hS hL
  unfold putF at e
  split at e
  · rename_i o ho
    obtain ⟨c1, fs⟩ := o
    dsimp only at e
    split at e
    · rename_i hc
      obtain ⟨rfl, hlen⟩ := hc
      cases e
      obtain ⟨hA, hat⟩ := hP _ _ ho
      have hat : va_at D vwCl (a, .inr (c1, fs)) H := hat
      obtain ⟨r, h1, cell, q1, q2, q3, q4⟩ := hat
      have hap := va_apart (own := own) hts hF.2.1 ty hF.2.2.1 hF.2.2.2 hK hF.1
      have hr : r = (C, T, N) := Option.some.inj (h1.symm.trans hF.1)
      subst hr
      obtain ⟨hSl, hfc, kC, hkC, hkind⟩ := hK.1 c1 _ hF.1
      obtain ⟨cf, kf, fi, fd, hi, hsl⟩ := hSl f hk
      have hlay := hts _ (hF.2.1 _ (u_in_lay hk))
      unfold u_lay at hlay
      rw [if_neg (by rw [hfin]; decide)] at hlay
      have hst := (u_facts hfc hkC (u_lays hts hF.2.1 hk) hi).1
      have h6 := u_store hfc hkC hkind hlay hi (hF.2.2.1 f hk) hn hfit
      refine W.putK hx hb (f := fd) ⟨hown, hts _ hl, ⟨_, _, _, hi⟩, hst⟩ (by rw [q2]; exact h6) q1 q3 (by rw [hsl]; exact k2_hasslot (q4 f hk)) rfl rfl hd fun H' e1 e2 e3 => ?_
      rw [hsl] at e1 ⊢
      refine kk H' _ ls (hP.set hA ?_ e3) (e2.trans hz) (hS.put e2 e3 hA) hL
      exact ⟨_, hF.1, t_OB.to (V := updV (vp_V fs) f v) ⟨_, e1, q2, q3, t_set q4 hap hk v⟩ (fun j _ => vp_updV_set hlen v j)⟩
    · cases e
  · cases e
/-- behind a constructor's call -/
theorem w_ctor {p : Program} {l : Launch} {e : Env} {R : Room} {s : State} {m : MethodId} {args : Array Value} {below : List Frame} {meth : Method} {c : Code} {H : Heap} {locs : List Loc} {k n mc ms sz' : Nat} {Q : State → Prop} {D : va_G} {A : Nat → Prop} {G' : Hp} {pc : Nat} {ls : Array Slot} {st0 rest : List Value} {a : Array Value}
    (hr : va_Run p l e R s m args below meth c H locs k n mc ms (F0 m pc ls st0) rest (PostC D A G' sz' a) A) (hS : va_S A s.heap H locs)
    (kk : ∀ (H1 : Heap) (locs1 : List Loc), Rep D A s G' H1 → H1.size = sz' → va_S A s.heap H1 locs1 → W p l e R s m args below meth c H1 locs1 (k + mc) (n + ms) Q (F0 m (pc + 3) ls rest)) : W p l e R s m args below meth c H locs k n Q (F0 m pc ls st0) := by
  intro T hT X
  obtain ⟨v, st₀, t, T', L, h0, X', hL, e1, e2, ⟨hv, hP, hz', hz, hk⟩, st⟩ := hr T hT X
  cases hv
  rw [h0] at hz hk
  obtain ⟨t2, a1, b1⟩ := kk T'.heap (locs ++ L) (by rw [e1]; exact hP.moved (by rw [← e2]; exact X'.warmed.alike.symm)) (by rw [e1]; exact hz')
    ⟨Nat.le_trans hS.1 (by rw [e1]; exact hz), fun q h1 h2 => by rw [e1, hk q (Nat.lt_of_lt_of_le h1 hS.1) h2]; exact hS.2.1 q h1 h2, fun q hq => by
      rcases List.mem_append.mp hq with h | h
      · exact hS.2.2 q h
      · exact hL q h⟩ T' rfl X'
  exact ⟨t2, st t2 a1, b1⟩
theorem c_call (hO : Ok Γ cc own nL h sa) (hfr : frs Γ sz) {y : MethodName} {bytes : ByteArray} {maxL np h' mc ms : Nat} (hcode : Cond.code y bytes maxL none ∈ lw_g) (hini : Cond.initialized y.cls ∈ lw_g) (hinst : Cond.instanceMethod y ∈ lw_g) (hy : y.name = "<init>") (hdd : y.cls ≠ "java/lang/invoke/MethodHandle" ∧ y.cls ≠ "java/lang/invoke/VarHandle" ∧ (parseMethodDescriptor y.desc).map (fun d => d.parameters.length) = some np) (hn14 : maxL ≤ 14) (hh : h' < h) {i : Nat} (hl : Cond.methodLink own i y ∈ lw_g) (hd : decode cc pc = .ok (.invokespecial i, 3)) {a : Nat} {vs : List Value} {G' : Hp} (hI : Ctor y bytes maxL h' mc ms (.ref a :: vs) G sz G') (hn : vs.length = np) (hw : wd st ≤ 8) (hcap : k + mc ≤ (cap Γ).1 ∧ n + ms ≤ (cap Γ).2) (kk : Wc Γ (k + mc) (n + ms) (sz + mc) (pc + 3) L st G') : Wc Γ k n sz pc L (vs.reverse ++ .ref a :: st) G := by
  obtain ⟨p, l, ev, R, s, m, args, below, meth, c, Q, n', D, A, sa', sv, ck, sk⟩ := Γ
  obtain ⟨⟨hx, hb, hml, hown, hts⟩, rfl, hK, hX, hR, hC, rfl⟩ := hO
  intro H locs ls hP hz hS hL
  refine w_ctor (va_runI (nL := n') (As := vs) (rest := st) ⟨hx, hb, hml, hown, hts⟩ (hI l D A sa' sv hfr) ⟨callB_of np hts (GoodIn_cons hcode) rfl rfl rfl (hts _ hini) (hts _ hl) hdd ⟨by show h' + 1 ≤ R.frames; omega, by show 8 + (maxL + 11) + 33 * h' ≤ R.locals; omega⟩, hy, hts _ hinst⟩ ⟨PreC.blind, fun U hU hW => ⟨rfl, by rw [hU]; exact hP.moved hW.alike, by rw [hU]; exact hz, va_K.moved hW.alike hK, (hX.warm hW).kept (fun q h1 h2 => by rw [hU]; exact hS.2.1 q h1 h2)⟩⟩ rfl hn hL.1 rfl (lv_room hw) hd hcap) hS fun H1 locs1 hP1 hz1 hS1 => kk H1 locs1 ls hP1 hz1 hS1 hL
theorem c_callN (hO : Ok Γ cc own nL h sa) (hfr : frs Γ sz) {y : MethodName} {bytes : ByteArray} {maxL np h' mc ms : Nat} (hcode : Cond.code y bytes maxL none ∈ lw_g) (hini : Cond.initialized y.cls ∈ lw_g) (hinst : Cond.instanceMethod y ∈ lw_g) (hy : y.name = "<init>") (hdd : y.cls ≠ "java/lang/invoke/MethodHandle" ∧ y.cls ≠ "java/lang/invoke/VarHandle" ∧ (parseMethodDescriptor y.desc).map (fun d => d.parameters.length) = some np) (hn14 : maxL ≤ 14) (hh : h' < h) {i : Nat} {host : String} (hl : (own, i, y, host) ∈ nestW) (hd : decode cc pc = .ok (.invokespecial i, 3)) {a : Nat} {vs : List Value} {G' : Hp} (hI : Ctor y bytes maxL h' mc ms (.ref a :: vs) G sz G') (hn : vs.length = np) (hw : wd st ≤ 8) (hcap : k + mc ≤ (cap Γ).1 ∧ n + ms ≤ (cap Γ).2) (kk : Wc Γ (k + mc) (n + ms) (sz + mc) (pc + 3) L st G') : Wc Γ k n sz pc L (vs.reverse ++ .ref a :: st) G := by
  obtain ⟨p, l, ev, R, s, m, args, below, meth, c, Q, n', D, A, sa', sv, ck, sk⟩ := Γ
  obtain ⟨⟨hx, hb, hml, hown, hts⟩, rfl, hK, hX, hR, hC, rfl⟩ := hO
  intro H locs ls hP hz hS hL
  refine w_ctor (va_runIN (nL := n') (As := vs) (rest := st) ⟨hx, hb, hml, hown, hts⟩ (hI l D A sa' sv hfr) ⟨va_cnB np hts (GoodIn_cons hcode) rfl rfl rfl (hX.1 _ hl) (hts _ hini) hdd ⟨by show h' + 1 ≤ R.frames; omega, by show 8 + (maxL + 11) + 33 * h' ≤ R.locals; omega⟩, hy, hts _ hinst⟩ ⟨PreC.blind, fun U hU hW => ⟨rfl, by rw [hU]; exact hP.moved hW.alike, by rw [hU]; exact hz, va_K.moved hW.alike hK, (hX.warm hW).kept (fun q h1 h2 => by rw [hU]; exact hS.2.1 q h1 h2)⟩⟩ rfl hn hL.1 rfl (lv_room hw) hd hcap) hS fun H1 locs1 hP1 hz1 hS1 => kk H1 locs1 ls hP1 hz1 hS1 hL
end CRules
theorem Ctor.of {y : MethodName} {cc : ByteArray} {n h mc ms : Nat} {av : List Value} {G G' : Hp} {sz : Nat} (hy : plainName y.cls = true) (hlen : (lg_sl av).length ≤ n) (hyn : y.name = "<init>") (pe : Nat) (hd : decode cc pe = .ok (.return_, 1)) (hB : ∀ (Γ : Cx) (sa : Nat → Nat), Ok Γ cc y.cls n h sa → frs Γ sz → mname Γ = "<init>" → cap Γ = (mc, ms) → (∀ L, Wc Γ mc ms (sz + mc) pe L [] G') → Wc Γ 0 0 sz 0 (argL av n) [] G) : Ctor y cc n h mc ms av G sz G' := by
  intro l D A sa sv hfr
  refine Met.ofW (cc := cc) (maxL := n) (ret := none) hy rfl ?_
  intro p e s m args below meth c s₁ B0 hml hv
  obtain ⟨rfl, hP, hz, hK, hX⟩ := hv
  have hx := B0.exec
  have hb := B0.bytes
  have hr := B0.returns
  have hts := atoms_spec (ws := Cond.code y cc n none :: lw_g) B0.pre
  have hown : s.vm.findClass y.cls = some m.cls := findClass_of_methodNamed B0.named
  have hlocks := B0.notSynchronized
  have hin : meth.name = "<init>" := (name_of_methodNamed B0.named B0.method).1.trans hyn
  have hl := lv_entry av (n := n) hlen
  rw [lg_entry_eq]
  refine hB (p, l, e, rmC h mc ms, s, m, av.toArray, below, meth, c, MQ below (PostC D A G' (sz + mc)) av.toArray s mc ms A, n, D, A, sa, sv, 0, 0) sa ⟨⟨hx, hb, hml, hown, fun w hw => hts w (List.mem_cons_of_mem _ hw)⟩, rfl, hK, hX, ⟨Nat.le_refl _, Nat.le_refl _⟩, ⟨Nat.zero_le _, Nat.zero_le _⟩, rfl⟩ hfr hin rfl ?_ s.heap [] _ hP hz va_S.rf (Lcs.of hl fun i v hi => by have := argL_mem av n 0 i v hi; rwa [Nat.zero_add] at this)
  intro L H locs ls hP1 hz1 hS1 hL1
  have hq : ∀ t : State, t.heap = H → s.WarmedH t.vm → PostC D A G' (sz + mc) av.toArray s (.returned none) t := fun t ht hW => ⟨rfl, by rw [ht]; exact hP1.moved hW.alike, by rw [ht]; exact hz1, hS1.F ht⟩
  exact W.vret hx hb hr hq hS1.2.2 hd hlocks
