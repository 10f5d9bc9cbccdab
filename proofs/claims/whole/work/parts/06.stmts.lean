/-! CORE 5: statements. -/
def FU : Nat := 5000
def sSkip : Sm := fun L G => some (.inl 0, L, G)
def sSeq (f g : Sm) : Sm := fun L G => (f L G).bind fun r => match r.1 with
  | .inl 0 => g r.2.1 r.2.2
  | o => some (o, r.2.1, r.2.2)
def sI (i : Nat) (e : EI) : Sm := fun L G => (e L G).bind fun r => some (.inl 0, st1 L i (.int r.1), r.2)
def sA (i : Nat) (e : EA) : Sm := fun L G => (e L G).bind fun r => some (.inl 0, st1 L i (.ref r.1), r.2)
def sJ (i : Nat) (e : EJ) : Sm := fun L G => (e L G).bind fun r => some (.inl 0, st2 L i (.long r.1), r.2)
def sInc (i : Nat) (n : Int32) : Sm := fun L G => (vI i L G).bind fun r => some (.inl 0, st1 L i (.int (r.1 + n)), r.2)
def putF (G : Hp) (a ci k : Nat) (v : Value) : Option Hp := match G a with
  | some (.inl o) => if o.1 = ci ∧ k < o.2.length then some (hset G a (.inl (ci, o.2.set k v))) else none
  | _ => none
def sPut (ci k : Nat) (f : EA) (g : EI) : Sm := fun L G => (f L G).bind fun r => (g L r.2).bind fun q => (putF q.2 r.1 ci k (.int q.1)).bind fun G => some (.inl 0, L, G)
/-- a field of booleans -/
def sPutZ (ci k : Nat) (f : EA) (g : EI) : Sm := fun L G => (f L G).bind fun r => (g L r.2).bind fun q => if q.1 = 0 ∨ q.1 = 1 then (putF q.2 r.1 ci k (.int q.1)).bind fun G => some (.inl 0, L, G) else none
def setA (G : Hp) (z : Bool) (a : Nat) (i x : Int32) : Option Hp := match G a with
  | some (.inr o) => if o.1 = z ∧ 0 ≤ i.toInt ∧ i.toInt < o.2.1 then some (hset G a (.inr (z, o.2.1, upd o.2.2 i.toNatClampNeg x))) else none
  | _ => none
def sAst (f : EA) (g e : EI) : Sm := fun L G => (f L G).bind fun r => (g L r.2).bind fun q => (e L q.2).bind fun t => (setA t.2 false r.1 q.1 t.1).bind fun G => some (.inl 0, L, G)
def sAstZ (f : EA) (g e : EI) : Sm := fun L G => (f L G).bind fun r => (g L r.2).bind fun q => (e L q.2).bind fun t => if t.1 = 0 ∨ t.1 = 1 then (setA t.2 true r.1 q.1 t.1).bind fun G => some (.inl 0, L, G) else none
/-- x.f op= e -/
def sFop (op : Int32 → Int32 → Int32) (ci k : Nat) (f : EA) (e : EI) : Sm := fun L G => (f L G).bind fun r => match getF r.2 r.1 ci k with
  | some (.int x) => (e L r.2).bind fun q => (putF q.2 r.1 ci k (.int (op x q.1))).bind fun G => some (.inl 0, L, G)
  | _ => none
/-- a[i] op= e -/
def sAop (op : Int32 → Int32 → Int32) (f : EA) (g e : EI) : Sm := fun L G => (f L G).bind fun r => (g L r.2).bind fun q => (getA q.2 false r.1 q.1).bind fun x => (e L q.2).bind fun t => (setA t.2 false r.1 q.1 (op x t.1)).bind fun G => some (.inl 0, L, G)
def unV (r : Option Value) : Option Unit := match r with
  | none => some ()
  | _ => none
def sV (e : Lo → Hp → Option (Unit × Hp)) : Sm := fun L G => (e L G).bind fun r => some (.inl 0, L, r.2)
def sPop (e : EI) : Sm := fun L G => (e L G).bind fun r => some (.inl 0, L, r.2)
def rI (e : EI) : Sm := fun L G => (e L G).bind fun r => some (.inr (some (.int r.1)), L, r.2)
def rJ (e : EJ) : Sm := fun L G => (e L G).bind fun r => some (.inr (some (.long r.1)), L, r.2)
def rA (e : EA) : Sm := fun L G => (e L G).bind fun r => some (.inr (some (.ref r.1)), L, r.2)
def rV : Sm := fun L G => some (.inr none, L, G)
def sBrk : Sm := fun L G => some (.inl 1, L, G)
def sCont : Sm := fun L G => some (.inl 2, L, G)
def sIf (c : EB) (f g : Sm) : Sm := fun L G => (c L G).bind fun r => bif r.1 then f L r.2 else g L r.2
def sWh (c : EB) (b u : Sm) : Nat → Sm
  | 0 => fun _ _ => none
  | n + 1 => fun L G => (c L G).bind fun r => bif r.1 then (b L r.2).bind fun q => (match q.1 with
      | .inl 1 => some (.inl 0, q.2.1, q.2.2)
      | .inr v => some (.inr v, q.2.1, q.2.2)
      | _ => (u q.2.1 q.2.2).bind fun t => match t.1 with
        | .inl 0 => sWh c b u n t.2.1 t.2.2
        | _ => none) else some (.inl 0, L, r.2)
/-- a switch without falling through: the first body that has the number, else the default -/
def swPick (cs : List (List Int32 × Sm)) (dflt : Sm) (x : Int32) : Sm := match cs with
  | [] => dflt
  | b :: t => if x ∈ b.1 then b.2 else swPick t dflt x
def sSw (e : EI) (cs : List (List Int32 × Sm)) (dflt : Sm) : Sm := fun L G => (e L G).bind fun r => (swPick cs dflt r.1 L r.2).bind fun q => match q.1 with
  | .inl 1 => some (.inl 0, q.2.1, q.2.2)
  | o => some (o, q.2.1, q.2.2)
section SRules
variable {Γ : Cx} {cc : ByteArray} {own : String} {nL h d pc p1 p2 bk ct : Nat} {sa : Nat → Nat}
theorem St.skip : St Γ cc pc pc bk ct sSkip := by
  intro L G o L' G' e kk
  cases e
  exact kk
theorem St.seq {f g : Sm} (hf : St Γ cc pc p1 bk ct f) (hg : St Γ cc p1 p2 bk ct g) : St Γ cc pc p2 bk ct (sSeq f g) := by
  intro L G o L' G' e kk
  obtain ⟨r, e1, e2⟩ := Option.bind_eq_some_iff.mp e
  obtain ⟨o1, L1, G1⟩ := r
  refine hf L G o1 L1 G1 e1 ?_
  dsimp only at e2
  match o1, e2 with
  | .inl 0, e2 => exact hg L1 G1 o L' G' e2 kk
  | .inl 1, e2 => cases e2; exact kk
  | .inl (n + 2), e2 => cases e2; exact kk
  | .inr v, e2 => cases e2; exact kk
theorem St.goto (hO : Ok Γ cc own nL h sa) {f : Sm} (hf : St Γ cc pc p1 bk ct f) {off : Int} (hd : decode cc p1 = .ok (.goto off, 3)) (ht : (p1 : Int) + off = (p2 : Int)) : St Γ cc pc p2 bk ct f := by
  intro L G o L' G' e kk
  refine hf L G o L' G' e ?_
  match o, kk with
  | .inl 0, kk =>
    have kk : Wg Γ p2 L' [] G' := kk
    show Wg Γ p1 L' [] G'
    clear e hf
    obtain ⟨p, l, ev, R, s, m, args, below, meth, c, Q, n', D, A, sa', sv, ck, sk⟩ := Γ
    obtain ⟨⟨hx, hb, hml, hown, hts⟩, rfl, hK, hX, hR, hC, rfl⟩ := hO
    intro H locs ls hP hS hL
    exact lv_goto hx hb hd ht (kk H locs ls hP hS hL)
  | .inl 1, kk => exact kk
  | .inl (n + 2), kk => exact kk
  | .inr v, kk => exact kk
theorem St.any {f : Sm} (hf : St Γ cc pc p1 bk ct f) (h : ∀ L G o L' G', f L G = some (o, L', G') → o ≠ .inl 0) : St Γ cc pc p2 bk ct f := by
  intro L G o L' G' e kk
  refine hf L G o L' G' e ?_
  have hne := h L G o L' G' e
  match o, kk with
  | .inl 0, kk => exact absurd rfl hne
  | .inl 1, kk => exact kk
  | .inl (n + 2), kk => exact kk
  | .inr v, kk => exact kk
theorem CJ.goto (hO : Ok Γ cc own nL h sa) {c : EB} {pt pf : Nat} (hc : CJ Γ d pc p1 pf c) {off : Int} (hd : decode cc p1 = .ok (.goto off, 3)) (ht : (p1 : Int) + off = (pt : Int)) : CJ Γ d pc pt pf c := by
  intro L G b G' e st hw kk
  refine hc L G b G' e st hw ?_
  cases b with
  | false => exact kk
  | true =>
    have kk : Wg Γ pt L st G' := kk
    show Wg Γ p1 L st G'
    clear e hc
    obtain ⟨p, l, ev, R, s, m, args, below, meth, c, Q, n', D, A, sa', sv, ck, sk⟩ := Γ
    obtain ⟨⟨hx, hb, hml, hown, hts⟩, rfl, hK, hX, hR, hC, rfl⟩ := hO
    intro H locs ls hP hS hL
    exact lv_goto hx hb hd ht (kk H locs ls hP hS hL)
def qIf (c f g : EB) : EB := fun L G => (c L G).bind fun r => bif r.1 then f L r.2 else g L r.2
theorem CJ.cond {c f g : EB} {pa pb pt pf : Nat} (hc : CJ Γ d pc pa pb c) (hf : CJ Γ d pa pt pf f) (hg : CJ Γ d pb pt pf g) : CJ Γ d pc pt pf (qIf c f g) := by
  intro L G b G' e st hw kk
  obtain ⟨r, e1, e2⟩ := Option.bind_eq_some_iff.mp e
  refine hc L G r.1 r.2 e1 st hw ?_
  cases hr : r.1 with
  | true => rw [hr] at e2; exact hf L r.2 b G' e2 st hw kk
  | false => rw [hr] at e2; exact hg L r.2 b G' e2 st hw kk
theorem St.iff {c : EB} {f g : Sm} {pt pf : Nat} (hc : CJ Γ 0 pc pt pf c) (hf : St Γ cc pt p2 bk ct f) (hg : St Γ cc pf p2 bk ct g) : St Γ cc pc p2 bk ct (sIf c f g) := by
  intro L G o L' G' e kk
  obtain ⟨r, e1, e2⟩ := Option.bind_eq_some_iff.mp e
  refine hc L G r.1 r.2 e1 [] (Nat.le_refl 0) ?_
  cases hr : r.1 with
  | true => rw [hr] at e2; exact hf L r.2 o L' G' e2 kk
  | false => rw [hr] at e2; exact hg L r.2 o L' G' e2 kk
theorem St.brk (hO : Ok Γ cc own nL h sa) {off : Int} (hd : decode cc pc = .ok (.goto off, 3)) (ht : (pc : Int) + off = (bk : Int)) : St Γ cc pc p2 bk ct sBrk := by
  intro L G o L' G' e kk
  cases e
  have kk : Wg Γ bk L [] G := kk
  obtain ⟨p, l, ev, R, s, m, args, below, meth, c, Q, n', D, A, sa', sv, ck, sk⟩ := Γ
  obtain ⟨⟨hx, hb, hml, hown, hts⟩, rfl, hK, hX, hR, hC, rfl⟩ := hO
  intro H locs ls hP hS hL
  exact lv_goto hx hb hd ht (kk H locs ls hP hS hL)
theorem St.brk0 : St Γ cc bk p2 bk ct sBrk := by
  intro L G o L' G' e kk
  cases e
  exact kk
theorem St.cont (hO : Ok Γ cc own nL h sa) {off : Int} (hd : decode cc pc = .ok (.goto off, 3)) (ht : (pc : Int) + off = (ct : Int)) : St Γ cc pc p2 bk ct sCont := by
  intro L G o L' G' e kk
  cases e
  have kk : Wg Γ ct L [] G := kk
  obtain ⟨p, l, ev, R, s, m, args, below, meth, c, Q, n', D, A, sa', sv, ck, sk⟩ := Γ
  obtain ⟨⟨hx, hb, hml, hown, hts⟩, rfl, hK, hX, hR, hC, rfl⟩ := hO
  intro H locs ls hP hS hL
  exact lv_goto hx hb hd ht (kk H locs ls hP hS hL)
/-- a loop: head pc, body from pt to pu, what comes behind it from pu back to pc -/
theorem St.wh {c : EB} {b u : Sm} {pt pu pe : Nat} (hc : CJ Γ 0 pc pt pe c) (hb : St Γ cc pt pu pe pu b) (hu : St Γ cc pu pc 0 0 u) : ∀ n : Nat, St Γ cc pc pe bk ct (sWh c b u n)
  | 0 => by
    intro L G o L' G' e kk
    cases e
  | n + 1 => by
    intro L G o L' G' e kk
    obtain ⟨r, e1, e2⟩ := Option.bind_eq_some_iff.mp e
    refine hc L G r.1 r.2 e1 [] (Nat.le_refl 0) ?_
    cases hr : r.1 with
    | false =>
      rw [hr] at e2
      cases e2
      exact kk
    | true =>
      rw [hr] at e2
      obtain ⟨⟨o1, L1, G1⟩, e3, e4⟩ := Option.bind_eq_some_iff.mp e2
      refine hb L r.2 o1 L1 G1 e3 ?_
      dsimp only at e4
      have again : (u L1 G1).bind (fun t => match t.1 with
        | .inl 0 => sWh c b u n t.2.1 t.2.2
        | _ => none) = some (o, L', G') → Wg Γ pu L1 [] G1 := by
        intro e5
        obtain ⟨⟨o2, L2, G2⟩, e6, e7⟩ := Option.bind_eq_some_iff.mp e5
        refine hu L1 G1 o2 L2 G2 e6 ?_
        dsimp only at e7
        split at e7
        · exact St.wh hc hb hu n L2 G2 o L' G' e7 kk
        · cases e7
      match o1, e4 with
      | .inl 0, e4 => exact again e4
      | .inl 1, e4 => cases e4; exact kk
      | .inl (k + 2), e4 => exact again e4
      | .inr v, e4 => cases e4; exact kk
/-- where a switch goes -/
def SwTo (Γ : Cx) (pc : Nat) (f : Int32 → Nat) : Prop := ∀ (L : Lo) (x : Int32) (G : Hp), Wg Γ (f x) L [] G → Wg Γ pc L [.int x] G
def swOff (dflt lo hi : Int) (offs : Array Int) (x : Int) : Int := if x < lo ∨ hi < x then dflt else (offs[(x - lo).toNat]?).getD dflt
theorem SwTo.table (hO : Ok Γ cc own nL h sa) {dflt lo hi : Int} {offs : Array Int} {len : Nat} (hd : decode cc pc = .ok (.tableswitch dflt lo hi offs, len)) (hz : (offs.size : Int) = hi - lo + 1) {f : Int32 → Nat} (hf : ∀ x : Int32, (pc : Int) + swOff dflt lo hi offs x.toInt = (f x : Int)) : SwTo Γ pc f := by
  obtain ⟨p, l, ev, R, s, m, args, below, meth, c, Q, n', D, A, sa', sv, ck, sk⟩ := Γ
  obtain ⟨⟨hx, hb, hml, hown, hts⟩, rfl, hK, hX, hR, hC, rfl⟩ := hO
  intro L x G kk H locs ls hP hS hL
  have hfx := hf x
  unfold swOff at hfx
  split at hfx
  · rename_i hc
    exact lv_tableOut hx hb hd hc hfx (kk H locs ls hP hS hL)
  · rename_i hc
    have h1 : ¬ x.toInt < lo := fun z => hc (Or.inl z)
    have h2 : ¬ hi < x.toInt := fun z => hc (Or.inr z)
    have hi3 : (x.toInt - lo).toNat < offs.size := by omega
    have ho : offs[(x.toInt - lo).toNat]? = some (offs[(x.toInt - lo).toNat]) := Array.getElem?_eq_getElem hi3
    rw [ho] at hfx
    exact lv_tableIn hx hb hd h1 h2 ho hfx (kk H locs ls hP hS hL)
theorem SwTo.lookup (hO : Ok Γ cc own nL h sa) {dflt : Int} {ps : Array (Int × Int)} {len : Nat} (hd : decode cc pc = .ok (.lookupswitch dflt ps, len)) (hp : (ps.toList.zip (ps.toList.drop 1)).all (fun (a, next) => a.1 < next.1) = true) {f : Int32 → Nat} (hf : ∀ x : Int32, (pc : Int) + Op.lookupswitch.offset ps.toList dflt x.toInt = (f x : Int)) : SwTo Γ pc f := by
  obtain ⟨p, l, ev, R, s, m, args, below, meth, c, Q, n', D, A, sa', sv, ck, sk⟩ := Γ
  obtain ⟨⟨hx, hb, hml, hown, hts⟩, rfl, hK, hX, hR, hC, rfl⟩ := hO
  intro L x G kk H locs ls hP hS hL
  exact lv_lookup hx hb hd hp rfl (hf x) (kk H locs ls hP hS hL)
/-- bodies at their places -/
def swPc (cs : List (List Int32 × Nat)) (dflt : Nat) (x : Int32) : Nat := match cs with
  | [] => dflt
  | b :: t => if x ∈ b.1 then b.2 else swPc t dflt x
/-- each body with its place -/
def SwB (Γ : Cx) (cc : ByteArray) (pe ct : Nat) : List (List Int32 × Nat) → List (List Int32 × Sm) → Prop
  | [], [] => True
  | a :: s, b :: t => a.1 = b.1 ∧ St Γ cc a.2 pe pe ct b.2 ∧ SwB Γ cc pe ct s t
  | _, _ => False
theorem SwB.pick {pe pd : Nat} {dflt : Sm} (hd : St Γ cc pd pe pe ct dflt) (x : Int32) : ∀ (ps : List (List Int32 × Nat)) (cs : List (List Int32 × Sm)), SwB Γ cc pe ct ps cs → St Γ cc (swPc ps pd x) pe pe ct (swPick cs dflt x)
  | [], [], _ => hd
  | a :: s, b :: t, h => by
    obtain ⟨h1, h2, h3⟩ := h
    rw [swPc, swPick]
    by_cases hx : x ∈ a.1
    · rw [if_pos hx, if_pos (by rw [← h1]; exact hx)]
      exact h2
    · rw [if_neg hx, if_neg (by rw [← h1]; exact hx)]
      exact SwB.pick hd x s t h3
  | [], _ :: _, h => h.elim
  | _ :: _, [], h => h.elim
theorem St.sw {e : EI} {cs : List (List Int32 × Sm)} {ps : List (List Int32 × Nat)} {dflt : Sm} {pd pe : Nat} (he : Ex Γ .int 0 pc p1 e) (hw : SwTo Γ p1 (swPc ps pd)) (hb : SwB Γ cc pe ct ps cs) (hd : St Γ cc pd pe pe ct dflt) : St Γ cc pc pe bk ct (sSw e cs dflt) := by
  intro L G o L' G' e' kk
  obtain ⟨r, e1, e2⟩ := Option.bind_eq_some_iff.mp e'
  obtain ⟨⟨o1, L1, G1⟩, e3, e4⟩ := Option.bind_eq_some_iff.mp e2
  refine he L G r.1 r.2 e1 [] (Nat.le_refl 0) (hw L r.1 r.2 (SwB.pick hd r.1 ps cs hb L r.2 o1 L1 G1 e3 ?_))
  dsimp only at e4
  match o1, e4 with
  | .inl 0, e4 => cases e4; exact kk
  | .inl 1, e4 => cases e4; exact kk
  | .inl (k + 2), e4 => cases e4; exact kk
  | .inr v, e4 => cases e4; exact kk
theorem St.istore (hO : Ok Γ cc own nL h sa) {f : EI} (hf : Ex Γ .int 0 pc p1 f) {i : Nat} (hd : decode cc p1 = .ok (.istore i, 2)) (hi : i < nL) : St Γ cc pc (p1 + 2) bk ct (sI i f) := by
  intro L G o L' G' e kk
  obtain ⟨r, e1, e2⟩ := Option.bind_eq_some_iff.mp e
  cases e2
  refine hf L G r.1 r.2 e1 [] (Nat.le_refl 0) ?_
  have kk : Wg Γ (p1 + 2) (st1 L i (.int r.1)) [] r.2 := kk
  clear e e1 hf
  obtain ⟨p, l, ev, R, s, m, args, below, meth, c, Q, n', D, A, sa', sv, ck, sk⟩ := Γ
  obtain ⟨⟨hx, hb, hml, hown, hts⟩, rfl, hK, hX, hR, hC, rfl⟩ := hO
  intro H locs ls hP hS hL
  exact lv_istore hx hb hd hL.has hi rfl (fun ls' hl => kk H locs ls' hP hS (Lcs.st1 hl))
theorem St.istoren (hO : Ok Γ cc own nL h sa) {f : EI} (hf : Ex Γ .int 0 pc p1 f) {k : Fin 4} (hd : decode cc p1 = .ok (.istore_n k, 1)) (hi : (k : Nat) < nL) : St Γ cc pc (p1 + 1) bk ct (sI k f) := by
  intro L G o L' G' e kk
  obtain ⟨r, e1, e2⟩ := Option.bind_eq_some_iff.mp e
  cases e2
  refine hf L G r.1 r.2 e1 [] (Nat.le_refl 0) ?_
  have kk : Wg Γ (p1 + 1) (st1 L k (.int r.1)) [] r.2 := kk
  clear e e1 hf
  obtain ⟨p, l, ev, R, s, m, args, below, meth, c, Q, n', D, A, sa', sv, ck, sk⟩ := Γ
  obtain ⟨⟨hx, hb, hml, hown, hts⟩, rfl, hK, hX, hR, hC, rfl⟩ := hO
  intro H locs ls hP hS hL
  exact lv_istore_n hx hb hd rfl hL.has hi rfl (fun ls' hl => kk H locs ls' hP hS (Lcs.st1 hl))
theorem St.astore (hO : Ok Γ cc own nL h sa) {f : EA} (hf : Ex Γ .ref 0 pc p1 f) {i : Nat} (hd : decode cc p1 = .ok (.astore i, 2)) (hi : i < nL) : St Γ cc pc (p1 + 2) bk ct (sA i f) := by
  intro L G o L' G' e kk
  obtain ⟨r, e1, e2⟩ := Option.bind_eq_some_iff.mp e
  cases e2
  refine hf L G r.1 r.2 e1 [] (Nat.le_refl 0) ?_
  have kk : Wg Γ (p1 + 2) (st1 L i (.ref r.1)) [] r.2 := kk
  clear e e1 hf
  obtain ⟨p, l, ev, R, s, m, args, below, meth, c, Q, n', D, A, sa', sv, ck, sk⟩ := Γ
  obtain ⟨⟨hx, hb, hml, hown, hts⟩, rfl, hK, hX, hR, hC, rfl⟩ := hO
  intro H locs ls hP hS hL
  exact lv_astore hx hb hd hL.has hi rfl (fun ls' hl => kk H locs ls' hP hS (Lcs.st1 hl))
theorem St.astoren (hO : Ok Γ cc own nL h sa) {f : EA} (hf : Ex Γ .ref 0 pc p1 f) {k : Fin 4} (hd : decode cc p1 = .ok (.astore_n k, 1)) (hi : (k : Nat) < nL) : St Γ cc pc (p1 + 1) bk ct (sA k f) := by
  intro L G o L' G' e kk
  obtain ⟨r, e1, e2⟩ := Option.bind_eq_some_iff.mp e
  cases e2
  refine hf L G r.1 r.2 e1 [] (Nat.le_refl 0) ?_
  have kk : Wg Γ (p1 + 1) (st1 L k (.ref r.1)) [] r.2 := kk
  clear e e1 hf
  obtain ⟨p, l, ev, R, s, m, args, below, meth, c, Q, n', D, A, sa', sv, ck, sk⟩ := Γ
  obtain ⟨⟨hx, hb, hml, hown, hts⟩, rfl, hK, hX, hR, hC, rfl⟩ := hO
  intro H locs ls hP hS hL
  exact lv_astore_n hx hb hd rfl hL.has hi rfl (fun ls' hl => kk H locs ls' hP hS (Lcs.st1 hl))
theorem St.lstore (hO : Ok Γ cc own nL h sa) {f : EJ} (hf : Ex Γ .long 0 pc p1 f) {i : Nat} (hd : decode cc p1 = .ok (.lstore i, 2)) (hi : i + 1 < nL) : St Γ cc pc (p1 + 2) bk ct (sJ i f) := by
  intro L G o L' G' e kk
  obtain ⟨r, e1, e2⟩ := Option.bind_eq_some_iff.mp e
  cases e2
  refine hf L G r.1 r.2 e1 [] (Nat.le_refl 0) ?_
  have kk : Wg Γ (p1 + 2) (st2 L i (.long r.1)) [] r.2 := kk
  clear e e1 hf
  obtain ⟨p, l, ev, R, s, m, args, below, meth, c, Q, n', D, A, sa', sv, ck, sk⟩ := Γ
  obtain ⟨⟨hx, hb, hml, hown, hts⟩, rfl, hK, hX, hR, hC, rfl⟩ := hO
  intro H locs ls hP hS hL
  exact lv_lstore hx hb hd hL.has hi rfl (fun ls' hl => kk H locs ls' hP hS (Lcs.st2 hl))
theorem St.lstoren (hO : Ok Γ cc own nL h sa) {f : EJ} (hf : Ex Γ .long 0 pc p1 f) {k : Fin 4} (hd : decode cc p1 = .ok (.lstore_n k, 1)) (hi : (k : Nat) + 1 < nL) : St Γ cc pc (p1 + 1) bk ct (sJ k f) := by
  intro L G o L' G' e kk
  obtain ⟨r, e1, e2⟩ := Option.bind_eq_some_iff.mp e
  cases e2
  refine hf L G r.1 r.2 e1 [] (Nat.le_refl 0) ?_
  have kk : Wg Γ (p1 + 1) (st2 L k (.long r.1)) [] r.2 := kk
  clear e e1 hf
  obtain ⟨p, l, ev, R, s, m, args, below, meth, c, Q, n', D, A, sa', sv, ck, sk⟩ := Γ
  obtain ⟨⟨hx, hb, hml, hown, hts⟩, rfl, hK, hX, hR, hC, rfl⟩ := hO
  intro H locs ls hP hS hL
  exact lv_lstore_n hx hb hd rfl hL.has hi rfl (fun ls' hl => kk H locs ls' hP hS (Lcs.st2 hl))
theorem St.iinc (hO : Ok Γ cc own nL h sa) {i : Nat} {n : Int} {v : Int32} (hd : decode cc pc = .ok (.iinc i n, 3)) (hv : Int32.ofInt n = v) (hi : i < nL) : St Γ cc pc (pc + 3) bk ct (sInc i v) := by
  intro L G o L' G' e kk
  obtain ⟨r, e1, e2⟩ := Option.bind_eq_some_iff.mp e
  cases e2
  have kk : Wg Γ (pc + 3) (st1 L i (.int (r.1 + v))) [] r.2 := kk
  unfold vI at e1
  split at e1
  · rename_i y hy
    cases e1
    clear e
    obtain ⟨q, hq⟩ := List.mem_iff_getElem?.mp ((lz_mem L 0 i (.int y)).mpr ⟨i, by omega, hy⟩)
    obtain ⟨p, l, ev, R, s, m, args, below, meth, c, Q, n', D, A, sa', sv, ck, sk⟩ := Γ
    obtain ⟨⟨hx, hb, hml, hown, hts⟩, rfl, hK, hX, hR, hC, rfl⟩ := hO
    intro H locs ls hP hS hL
    exact lv_iinc hx hb hd hL.has hq (by rw [hv]) hi rfl (fun ls' hl => kk H locs ls' hP hS (Lcs.st1 hl))
  · cases e1
theorem St.retI {f : EI} (hf : Ex Γ .int 0 pc p1 f) (hd : decode cc p1 = .ok (.ireturn, 1)) : St Γ cc pc p2 bk ct (rI f) := by
  intro L G o L' G' e kk
  obtain ⟨r, e1, e2⟩ := Option.bind_eq_some_iff.mp e
  cases e2
  exact hf L G r.1 r.2 e1 [] (Nat.le_refl 0) (kk p1 L hd)
theorem St.retJ {f : EJ} (hf : Ex Γ .long 0 pc p1 f) (hd : decode cc p1 = .ok (.lreturn, 1)) : St Γ cc pc p2 bk ct (rJ f) := by
  intro L G o L' G' e kk
  obtain ⟨r, e1, e2⟩ := Option.bind_eq_some_iff.mp e
  cases e2
  exact hf L G r.1 r.2 e1 [] (Nat.le_refl 0) (kk p1 L hd)
theorem St.retA {f : EA} (hf : Ex Γ .ref 0 pc p1 f) (hd : decode cc p1 = .ok (.areturn, 1)) : St Γ cc pc p2 bk ct (rA f) := by
  intro L G o L' G' e kk
  obtain ⟨r, e1, e2⟩ := Option.bind_eq_some_iff.mp e
  cases e2
  exact hf L G r.1 r.2 e1 [] (Nat.le_refl 0) (kk p1 L hd)
theorem St.retV (hd : decode cc pc = .ok (.return_, 1)) : St Γ cc pc p2 bk ct rV := by
  intro L G o L' G' e kk
  cases e
  exact kk pc L hd
theorem St.pop (hO : Ok Γ cc own nL h sa) {f : EI} (hf : Ex Γ .int 0 pc p1 f) (hd : decode cc p1 = .ok (.pop, 1)) : St Γ cc pc (p1 + 1) bk ct (sPop f) := by
  intro L G o L' G' e kk
  obtain ⟨r, e1, e2⟩ := Option.bind_eq_some_iff.mp e
  cases e2
  refine hf L G r.1 r.2 e1 [] (Nat.le_refl 0) ?_
  have kk : Wg Γ (p1 + 1) L [] r.2 := kk
  clear e e1 hf
  obtain ⟨p, l, ev, R, s, m, args, below, meth, c, Q, n', D, A, sa', sv, ck, sk⟩ := Γ
  obtain ⟨⟨hx, hb, hml, hown, hts⟩, rfl, hK, hX, hR, hC, rfl⟩ := hO
  intro H locs ls hP hS hL
  exact lv_pop hx hb hd rfl (kk H locs ls hP hS hL)
theorem unV_ok {r : Option Value} {x : Unit} (h : unV r = some x) : r = none := by
  unfold unV at h
  split at h
  · rfl
  · cases h
theorem St.callV (hO : Ok Γ cc own nL h sa) {y : MethodName} {bytes : ByteArray} {n np ci h' : Nat} {ret : Option FieldType} {F : Fm} (hM : MthV y bytes n ret np ci) (hI : Impl y bytes n ret h' F) (hh : h' < h) {i : Nat} (hl : Cond.methodLink own i y ∈ lw_g) {r : EA} {as : EL} (hr : Ex Γ .ref 0 pc p1 r) (ha : XS Γ 1 p1 p2 as) (hn : ALen as np) (hd : decode cc p2 = .ok (.invokevirtual i, 3)) : St Γ cc pc (p2 + 3) bk ct (sV (mV unV ci (F sa) r as)) := by
  intro L G o L' G' e kk
  obtain ⟨t', e0, e0'⟩ := Option.bind_eq_some_iff.mp e
  cases e0'
  obtain ⟨a, e1, e2⟩ := Option.bind_eq_some_iff.mp e0
  obtain ⟨v, e3, e4⟩ := Option.bind_eq_some_iff.mp e2
  refine hr L G a.1 a.2 e1 [] (Nat.le_refl 0) (ha L a.2 v.1 v.2 e3 [.ref a.1] (Nat.le_refl 1) ?_)
  cases ho : isO v.2 a.1 ci with
  | false => rw [ho] at e4; cases e4
  | true =>
    rw [ho] at e4
    obtain ⟨t, e5, e6⟩ := Option.bind_eq_some_iff.mp e4
    obtain ⟨z, e7, e8⟩ := Option.bind_eq_some_iff.mp e6
    cases e8
    refine w_callV hO hM hI hh hl hd (hn _ _ _ e3) (Nat.zero_le 8) ho e5 ?_
    rw [unV_ok e7]
    exact kk
/-- a store into a field -/
theorem w_put (hO : Ok Γ cc own nL h sa) {C : String} {T : u_T} {N ci : Nat} {ty : Nat → FieldType} (hF : FldOk C T N ci ty) (k : Nat) (hk : k < N) (hfin : (T k).2.2.2 = false) {i : Nat} (hl : Cond.fieldLink own i (T k).1 (T k).2.1 (T k).2.2.1 ∈ lw_g) (hd : decode cc pc = .ok (.putfield i, 3)) {L : Lo} {G G' : Hp} {a : Nat} {v : Value} {st : List Value} (hn : narrow (ty k) v = v) (hfit : fits (ty k) v = true) (e : putF G a ci k v = some G') (kk : Wg Γ (pc + 3) L st G') : Wg Γ pc L (v :: .ref a :: st) G := by
  obtain ⟨p, l, ev, R, s, m, args, below, meth, c, Q, n', D, A, sa', sv, ck, sk⟩ := Γ
  obtain ⟨⟨hx, hb, hml, hown, hts⟩, rfl, hK, hX, hR, hC, rfl⟩ := hO
  intro H locs ls hP hS hL
  unfold putF at e
  split at e
  · rename_i o ho
    obtain ⟨c1, fs⟩ := o
    dsimp only at e
    split at e
    · rename_i hc
      obtain ⟨rfl, hlen⟩ := hc
      cases e
      obtain ⟨hA, hat⟩ := hP _ _ ho
      have hat : va_at D vwCl (a, .inr (c1, fs)) H := hat
      obtain ⟨r, h1, cell, q1, q2, q3, q4⟩ := hat
      have hap := va_apart (own := own) hts hF.2.1 ty hF.2.2.1 hF.2.2.2 hK hF.1
      have hr : r = (C, T, N) := Option.some.inj (h1.symm.trans hF.1)
      subst hr
      obtain ⟨hSl, hfc, kC, hkC, hkind⟩ := hK.1 c1 _ hF.1
      obtain ⟨cf, kf, fi, f, hi, hsl⟩ := hSl k hk
      have hlay := hts _ (hF.2.1 _ (u_in_lay hk))
      unfold u_lay at hlay
      rw [if_neg (by rw [hfin]; decide)] at hlay
      have hst := (u_facts hfc hkC (u_lays hts hF.2.1 hk) hi).1
      have h6 := u_store hfc hkC hkind hlay hi (hF.2.2.1 k hk) hn hfit
      refine W.putK hx hb (f := f) ⟨hown, hts _ hl, ⟨_, _, _, hi⟩, hst⟩ (by rw [q2]; exact h6) q1 q3 (by rw [hsl]; exact k2_hasslot (q4 k hk)) rfl rfl hd fun H' e1 e2 e3 => ?_
      rw [hsl] at e1 ⊢
      refine kk H' _ ls (hP.set hA ?_ e3) (hS.put e2 e3 hA) hL
      exact ⟨_, hF.1, t_OB.to (V := updV (vp_V fs) k v) ⟨_, e1, q2, q3, t_set q4 hap hk v⟩ (fun j _ => vp_updV_set hlen v j)⟩
    · cases e
  · cases e
theorem nar_int (x : Int32) : narrow .int (.int x) = .int x := vp_nar_int x
theorem nar_bool {x : Int32} (h : x = 0 ∨ x = 1) : narrow .boolean (.int x) = .int x := by
  rcases h with rfl | rfl <;> decide +kernel
theorem fits_bool {x : Int32} (h : x = 0 ∨ x = 1) : fits .boolean (.int x) = true := by
  rcases h with rfl | rfl <;> decide +kernel
theorem St.put (hO : Ok Γ cc own nL h sa) {f : EA} {g : EI} (hf : Ex Γ .ref 0 pc p1 f) (hg : Ex Γ .int 1 p1 p2 g) {C : String} {T : u_T} {N ci : Nat} {ty : Nat → FieldType} (hF : FldOk C T N ci ty) (k : Nat) (hk : k < N) (hfin : (T k).2.2.2 = false) (hty : ty k = .int) {i : Nat} (hl : Cond.fieldLink own i (T k).1 (T k).2.1 (T k).2.2.1 ∈ lw_g) (hd : decode cc p2 = .ok (.putfield i, 3)) : St Γ cc pc (p2 + 3) bk ct (sPut ci k f g) := by
  intro L G o L' G' e kk
  obtain ⟨r, e1, e2⟩ := Option.bind_eq_some_iff.mp e
  obtain ⟨q, e3, e4⟩ := Option.bind_eq_some_iff.mp e2
  obtain ⟨G1, e5, e6⟩ := Option.bind_eq_some_iff.mp e4
  cases e6
  exact hf L G r.1 r.2 e1 [] (Nat.le_refl 0) (hg L r.2 q.1 q.2 e3 [.ref r.1] (Nat.le_refl 1) (w_put hO hF k hk hfin hl hd (by rw [hty]; exact nar_int _) (by rw [hty]; rfl) e5 kk))
theorem St.putZ (hO : Ok Γ cc own nL h sa) {f : EA} {g : EI} (hf : Ex Γ .ref 0 pc p1 f) (hg : Ex Γ .int 1 p1 p2 g) {C : String} {T : u_T} {N ci : Nat} {ty : Nat → FieldType} (hF : FldOk C T N ci ty) (k : Nat) (hk : k < N) (hfin : (T k).2.2.2 = false) (hty : ty k = .boolean) {i : Nat} (hl : Cond.fieldLink own i (T k).1 (T k).2.1 (T k).2.2.1 ∈ lw_g) (hd : decode cc p2 = .ok (.putfield i, 3)) : St Γ cc pc (p2 + 3) bk ct (sPutZ ci k f g) := by
  intro L G o L' G' e kk
  obtain ⟨r, e1, e2⟩ := Option.bind_eq_some_iff.mp e
  obtain ⟨q, e3, e4⟩ := Option.bind_eq_some_iff.mp e2
  split at e4
  · rename_i hz
    obtain ⟨G1, e5, e6⟩ := Option.bind_eq_some_iff.mp e4
    cases e6
    exact hf L G r.1 r.2 e1 [] (Nat.le_refl 0) (hg L r.2 q.1 q.2 e3 [.ref r.1] (Nat.le_refl 1) (w_put hO hF k hk hfin hl hd (by rw [hty]; exact nar_bool hz) (by rw [hty]; exact fits_bool hz) e5 kk))
  · cases e4
theorem setA_spec {G G' : Hp} {z : Bool} {a : Nat} {i x : Int32} (e : setA G z a i x = some G') : ∃ (n : Nat) (f : Nat → Int32), G a = some (.inr (z, n, f)) ∧ vp_in i n ∧ G' = hset G a (.inr (z, n, upd f i.toNatClampNeg x)) := by
  unfold setA at e
  split at e
  · rename_i o ho
    split at e
    · rename_i hc
      obtain ⟨z1, n, f⟩ := o
      obtain ⟨rfl, h1, h2⟩ := hc
      cases e
      exact ⟨n, f, ho, vp_in_iff.mpr ⟨h1, h2⟩, rfl⟩
    · cases e
  · cases e
theorem w_ast (hO : Ok Γ cc own nL h sa) (hd : decode cc pc = .ok (.iastore, 1)) {L : Lo} {G G' : Hp} {a : Nat} {i x : Int32} {st : List Value} (e : setA G false a i x = some G') (kk : Wg Γ (pc + 1) L st G') : Wg Γ pc L (.int x :: .int i :: .ref a :: st) G := by
  obtain ⟨p, l, ev, R, s, m, args, below, meth, c, Q, n', D, A, sa', sv, ck, sk⟩ := Γ
  obtain ⟨⟨hx, hb, hml, hown, hts⟩, rfl, hK, hX, hR, hC, rfl⟩ := hO
  intro H locs ls hP hS hL
  obtain ⟨n, f, g1, g2, rfl⟩ := setA_spec e
  obtain ⟨hA, cA, g3, g4, g5⟩ := hP _ _ g1
  refine W.iast hx hb g3 (g4 n (fun j => .int (f j))) (fun q => by cases q) (by show ¬ (i < 0 ∨ (arrV _ _ _).slots.size ≤ _); rw [arrV_size]; exact g2) rfl rfl hd fun H1 e z oq => ?_
  refine kk H1 _ ls (hP.set hA ⟨cA, ?_, g4, g5⟩ oq) (hS.put z oq hA) hL
  show H1[a]? = some (vp_cell _ _)
  rw [e]
  show some (((vp_cell cA (n, .inl f))).setSlot _ _) = _
  rw [vp_cell_i, vp_cell_i, arrV_store]
  congr 2
  funext q
  by_cases hq : q = i.toNatClampNeg
  · subst hq
    simp [updV, upd]
  · simp [updV, upd, hq]
theorem w_astZ (hO : Ok Γ cc own nL h sa) (hd : decode cc pc = .ok (.bastore, 1)) {L : Lo} {G G' : Hp} {a : Nat} {i x : Int32} {st : List Value} (hz : x = 0 ∨ x = 1) (e : setA G true a i x = some G') (kk : Wg Γ (pc + 1) L st G') : Wg Γ pc L (.int x :: .int i :: .ref a :: st) G := by
  obtain ⟨p, l, ev, R, s, m, args, below, meth, c, Q, n', D, A, sa', sv, ck, sk⟩ := Γ
  obtain ⟨⟨hx, hb, hml, hown, hts⟩, rfl, hK, hX, hR, hC, rfl⟩ := hO
  intro H locs ls hP hS hL
  obtain ⟨n, f, g1, g2, rfl⟩ := setA_spec e
  obtain ⟨hA, cA, g3, g4, g5⟩ := hP _ _ g1
  refine W.zast hx hb g3 (g4 n (fun j => .int (f j))) (fun q => by cases q) (by show ¬ (i < 0 ∨ (arrV _ _ _).slots.size ≤ _); rw [arrV_size]; exact g2) rfl rfl hd fun H1 e z oq => ?_
  refine kk H1 _ ls (hP.set hA ⟨cA, ?_, g4, g5⟩ oq) (hS.put z oq hA) hL
  show H1[a]? = some (vp_cell _ _)
  rw [e, nar_bool hz]
  show some (((vp_cell cA (n, .inl f))).setSlot _ _) = _
  rw [vp_cell_i, vp_cell_i, arrV_store]
  congr 2
  funext q
  by_cases hq : q = i.toNatClampNeg
  · subst hq
    simp [updV, upd]
  · simp [updV, upd, hq]
theorem St.ast (hO : Ok Γ cc own nL h sa) {f : EA} {g v : EI} {p3 : Nat} (hf : Ex Γ .ref 0 pc p1 f) (hg : Ex Γ .int 1 p1 p2 g) (hv : Ex Γ .int 2 p2 p3 v) (hd : decode cc p3 = .ok (.iastore, 1)) : St Γ cc pc (p3 + 1) bk ct (sAst f g v) := by
  intro L G o L' G' e kk
  obtain ⟨r, e1, e2⟩ := Option.bind_eq_some_iff.mp e
  obtain ⟨q, e3, e4⟩ := Option.bind_eq_some_iff.mp e2
  obtain ⟨t, e5, e6⟩ := Option.bind_eq_some_iff.mp e4
  obtain ⟨G1, e7, e8⟩ := Option.bind_eq_some_iff.mp e6
  cases e8
  exact hf L G r.1 r.2 e1 [] (Nat.le_refl 0) (hg L r.2 q.1 q.2 e3 [.ref r.1] (Nat.le_refl 1) (hv L q.2 t.1 t.2 e5 [.int q.1, .ref r.1] (Nat.le_refl 2) (w_ast hO hd e7 kk)))
theorem St.astZ (hO : Ok Γ cc own nL h sa) {f : EA} {g v : EI} {p3 : Nat} (hf : Ex Γ .ref 0 pc p1 f) (hg : Ex Γ .int 1 p1 p2 g) (hv : Ex Γ .int 2 p2 p3 v) (hd : decode cc p3 = .ok (.bastore, 1)) : St Γ cc pc (p3 + 1) bk ct (sAstZ f g v) := by
  intro L G o L' G' e kk
  obtain ⟨r, e1, e2⟩ := Option.bind_eq_some_iff.mp e
  obtain ⟨q, e3, e4⟩ := Option.bind_eq_some_iff.mp e2
  obtain ⟨t, e5, e6⟩ := Option.bind_eq_some_iff.mp e4
  split at e6
  · rename_i hz
    obtain ⟨G1, e7, e8⟩ := Option.bind_eq_some_iff.mp e6
    cases e8
    exact hf L G r.1 r.2 e1 [] (Nat.le_refl 0) (hg L r.2 q.1 q.2 e3 [.ref r.1] (Nat.le_refl 1) (hv L q.2 t.1 t.2 e5 [.int q.1, .ref r.1] (Nat.le_refl 2) (w_astZ hO hd hz e7 kk)))
  · cases e6
/-- x.f op= e: the object, dup, getfield, e, the operator, putfield -/
theorem St.fop (hO : Ok Γ cc own nL h sa) {f : EA} {g : EI} {op : Int32 → Int32 → Int32} {p3 p4 : Nat} (hf : Ex Γ .ref 0 pc p1 f) (hdup : decode cc p1 = .ok (.dup, 1)) {C : String} {T : u_T} {N ci : Nat} {ty : Nat → FieldType} (hF : FldOk C T N ci ty) (k : Nat) (hk : k < N) (hfin : (T k).2.2.2 = false) (hty : ty k = .int) {i : Nat} (hl : Cond.fieldLink own i (T k).1 (T k).2.1 (T k).2.2.1 ∈ lw_g) (hget : decode cc (p1 + 1) = .ok (.getfield i, 3)) (hg : Ex Γ .int 2 (p1 + 1 + 3) p3 g) (hop : Bin Γ 1 p3 p4 op) (hd : decode cc p4 = .ok (.putfield i, 3)) : St Γ cc pc (p4 + 3) bk ct (sFop op ci k f g) := by
  intro L G o L' G' e kk
  obtain ⟨r, e1, e2⟩ := Option.bind_eq_some_iff.mp e
  split at e2
  · rename_i x hx0
    obtain ⟨q, e3, e4⟩ := Option.bind_eq_some_iff.mp e2
    obtain ⟨G1, e5, e6⟩ := Option.bind_eq_some_iff.mp e4
    cases e6
    refine hf L G r.1 r.2 e1 [] (Nat.le_refl 0) ?_
    have k1 : Wg Γ (p1 + 1 + 3) L [.int x, .ref r.1] r.2 := hg L r.2 q.1 q.2 e3 [.int x, .ref r.1] (Nat.le_refl 2) (hop L [.ref r.1] x q.1 q.2 (Nat.le_refl 1) (w_put hO hF k hk hfin hl hd (by rw [hty]; exact nar_int _) (by rw [hty]; rfl) e5 kk))
    have hx1 : Ex Γ .ref 1 (p1 + 1) (p1 + 1) (fun _ G => some (r.1, G)) → True := fun _ => trivial
    clear hx1 kk e1 e e3 e4 e5 hf hg hop
    obtain ⟨p, l, ev, R, s, m, args, below, meth, c, Q, n', D, A, sa', sv, ck, sk⟩ := Γ
    obtain ⟨⟨hx, hb, hml, hown, hts⟩, rfl, hK, hX, hR, hC, rfl⟩ := hO
    intro H locs ls hP hS hL
    refine lv_dup hx hb hdup rfl ?_
    obtain ⟨fs, g1, g2⟩ := getF_spec hx0
    obtain ⟨hA, hat⟩ := hP _ _ g1
    have hat : va_at D vwCl (r.1, .inr (ci, fs)) H := hat
    exact va_get (D := D) (cl := vwCl) (tys := []) (ws := [(r.1, .inr (ci, fs))]) hx hb hts hF.2.1 hown hK (fun j q hj => by
      match j, hj with
      | 0, hj => cases hj; exact hat
      | j + 1, hj => simp at hj) 0 rfl hF.1 k hk (hts _ hl) (fun _ q => q) g2 hget (k1 H locs ls hP hS hL)
  · cases e2
/-- a[i] op= e -/
theorem St.aop (hO : Ok Γ cc own nL h sa) {f : EA} {g v : EI} {op : Int32 → Int32 → Int32} {p3 p4 : Nat} (hf : Ex Γ .ref 0 pc p1 f) (hg : Ex Γ .int 1 p1 p2 g) (hdup : decode cc p2 = .ok (.dup2, 1)) (hget : decode cc (p2 + 1) = .ok (.iaload, 1)) (hv : Ex Γ .int 3 (p2 + 1 + 1) p3 v) (hop : Bin Γ 2 p3 p4 op) (hd : decode cc p4 = .ok (.iastore, 1)) : St Γ cc pc (p4 + 1) bk ct (sAop op f g v) := by
  intro L G o L' G' e kk
  obtain ⟨r, e1, e2⟩ := Option.bind_eq_some_iff.mp e
  obtain ⟨q, e3, e4⟩ := Option.bind_eq_some_iff.mp e2
  obtain ⟨x, hx0, e4'⟩ := Option.bind_eq_some_iff.mp e4
  obtain ⟨t, e5, e6⟩ := Option.bind_eq_some_iff.mp e4'
  obtain ⟨G1, e7, e8⟩ := Option.bind_eq_some_iff.mp e6
  cases e8
  refine hf L G r.1 r.2 e1 [] (Nat.le_refl 0) (hg L r.2 q.1 q.2 e3 [.ref r.1] (Nat.le_refl 1) ?_)
  have k1 : Wg Γ (p2 + 1 + 1) L [.int x, .int q.1, .ref r.1] q.2 := hv L q.2 t.1 t.2 e5 [.int x, .int q.1, .ref r.1] (Nat.le_refl 3) (hop L [.int q.1, .ref r.1] x t.1 t.2 (Nat.le_refl 2) (w_ast hO hd e7 kk))
  clear kk e1 e e2 e3 e4 e4' e5 e6 e7 hf hg hop hv
  obtain ⟨p, l, ev, R, s, m, args, below, meth, c, Q, n', D, A, sa', sv, ck, sk⟩ := Γ
  obtain ⟨⟨hx, hb, hml, hown, hts⟩, rfl, hK, hX, hR, hC, rfl⟩ := hO
  intro H locs ls hP hS hL
  refine lv_dup2_11 hx hb hdup rfl rfl ?_
  obtain ⟨n, F, g1, g2, rfl⟩ := getA_spec hx0
  obtain ⟨hA, cA, g3, g4, g5⟩ := hP _ _ g1
  exact va_iald (D := D) (cl := vwCl) (tys := [(cA, .int)]) (ws := [(r.1, .inl (cA, n, .inl F))]) hx hb ⟨hK.1, fun j q hj => by
    match j, hj with
    | 0, hj => cases hj; exact ⟨g4, g5⟩
    | j + 1, hj => simp at hj⟩ (fun j q hj => by
    match j, hj with
    | 0, hj => cases hj; exact g3
    | j + 1, hj => simp at hj) 0 0 rfl rfl g2 hget (k1 H locs ls hP hS hL)
end SRules
/-- may a method of this kind answer so -/
def retOk (ret : Option FieldType) (r : Option Value) : Bool := match ret, r with
  | none, none => true
  | some .int, some (.int _) => true
  | some .boolean, some (.int x) => decide (x = 0 ∨ x = 1)
  | some .long, some (.long _) => true
  | some (.object _), some (.ref _) => true
  | _, _ => false
def mrun (n : Nat) (ret : Option FieldType) (b : Sm) (av : List Value) (G : Hp) : Option (Option Value × Hp) := bif decide ((lg_sl av).length ≤ n) then (b (argL av n) G).bind fun r => match r.1 with
  | .inr v => bif retOk ret v then some (v, r.2.2) else none
  | _ => none else none
theorem Impl.of {y : MethodName} {cc : ByteArray} {n h : Nat} {ret : Option FieldType} {B : (Nat → Nat) → Sm} (hy : plainName y.cls = true) (hB : ∀ (Γ : Cx) (sa : Nat → Nat), Ok Γ cc y.cls n h sa → St Γ cc 0 0 0 0 (B sa)) : Impl y cc n ret h (fun sa => mrun n ret (B sa)) := by
  intro l D A sa sv G av r G' e
  have e : mrun n ret (B sa) av G = some (r, G') := e
  unfold mrun at e
  cases hlen : decide ((lg_sl av).length ≤ n) with
  | false => rw [hlen] at e; cases e
  | true =>
  rw [hlen] at e
  have hlen := of_decide_eq_true hlen
  obtain ⟨⟨o, L', G1⟩, e1, e2⟩ := Option.bind_eq_some_iff.mp e
  match o, e2, e1 with
  | .inl k, e2, _ => cases e2
  | .inr v, e2, e1 =>
  dsimp only at e2
  cases hro : retOk ret v with
  | false => rw [hro] at e2; cases e2
  | true =>
  rw [hro] at e2
  cases e2
  refine Met.ofW (cc := cc) (maxL := n) (ret := ret) hy rfl ?_
  intro p e s m args below meth c s₁ B0 hml hv
  obtain ⟨rfl, hP, hK, hX⟩ := hv
  have hx := B0.exec
  have hb := B0.bytes
  have hr := B0.returns
  have hts := atoms_spec (ws := Cond.code y cc n ret :: lw_g) B0.pre
  have hown : s.vm.findClass y.cls = some m.cls := findClass_of_methodNamed B0.named
  have hlocks := B0.notSynchronized
  have hl := lv_entry av (n := n) hlen
  rw [lg_entry_eq]
  refine hB (p, l, e, rmH h, s, m, av.toArray, below, meth, c, MQ below (PostM D A r G') av.toArray s 0 0 A, n, D, A, sa, sv, 0, 0) sa ⟨⟨hx, hb, hml, hown, fun w hw => hts w (List.mem_cons_of_mem _ hw)⟩, rfl, hK, hX, ⟨Nat.le_refl _, Nat.le_refl _⟩, ⟨Nat.le_refl _, Nat.le_refl _⟩, rfl⟩ (argL av n) G (.inr r) L' G' e1 ?_ s.heap [] _ hP va_S.rf (Lcs.of hl fun i v hi => by have := argL_mem av n 0 i v hi; rwa [Nat.zero_add] at this)
  intro pc L hd H locs ls hP1 hS1 hL1
  have hq : ∀ t : State, t.heap = H → s.WarmedH t.vm → PostM D A r G' av.toArray s (.returned r) t := fun t ht hW => ⟨rfl, by rw [ht]; exact hP1.moved hW.alike, hS1.F ht⟩
  have hf : ∀ q ∈ locs, A q.base := hS1.2.2
  unfold retOk at hro
  split at hro
  · exact W.vret hx hb hr hq hf hd hlocks
  · exact W.iret hx hb hr hq hf hd hlocks
  · exact W.zret hx hb hr (nar_bool (of_decide_eq_true hro)) hq hf hd hlocks
  · exact W.lret hx hb hr hq hf hd hlocks
  · exact W.aret hx hb hr (Or.inl ⟨_, rfl⟩) (Or.inr ⟨_, rfl⟩) hq hf hd hlocks
  · cases hro

