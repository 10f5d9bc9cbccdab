/-! CORE 3: expressions and conditions, told as functions; a rule a kind. -/
abbrev EI : Type := Lo → Hp → Option (Int32 × Hp)
abbrev EJ : Type := Lo → Hp → Option (Int64 × Hp)
abbrev EA : Type := Lo → Hp → Option (Nat × Hp)
abbrev EB : Type := Lo → Hp → Option (Bool × Hp)
abbrev EL : Type := Lo → Hp → Option (List Value × Hp)
def vI (i : Nat) : EI := fun L G => match L[i]? with
  | some (some (.int x)) => some (x, G)
  | _ => none
def vJ (i : Nat) : EJ := fun L G => match L[i]? with
  | some (some (.long x)) => some (x, G)
  | _ => none
def vA (i : Nat) : EA := fun L G => match L[i]? with
  | some (some (.ref x)) => some (x, G)
  | _ => none
def kI (v : Int32) : EI := fun _ G => some (v, G)
def kJ (v : Int64) : EJ := fun _ G => some (v, G)
def bI (op : Int32 → Int32 → Int32) (f g : EI) : EI := fun L G => (f L G).bind fun r => (g L r.2).bind fun q => some (op r.1 q.1, q.2)
def bJ (op : Int64 → Int64 → Int64) (f g : EJ) : EJ := fun L G => (f L G).bind fun r => (g L r.2).bind fun q => some (op r.1 q.1, q.2)
/-- division and remainder: not by 0 -/
def bQ (op : Int32 → Int32 → Int32) (f g : EI) : EI := fun L G => (f L G).bind fun r => (g L r.2).bind fun q => if q.1 = 0 then none else some (op r.1 q.1, q.2)
def bQJ (op : Int64 → Int64 → Int64) (f g : EJ) : EJ := fun L G => (f L G).bind fun r => (g L r.2).bind fun q => if q.1 = 0 then none else some (op r.1 q.1, q.2)
def uIJ (f : EI) : EJ := fun L G => (f L G).bind fun r => some (r.1.toInt64, r.2)
def uJI (f : EJ) : EI := fun L G => (f L G).bind fun r => some (r.1.toInt32, r.2)
def uJJ (op : Int64 → Int64) (f : EJ) : EJ := fun L G => (f L G).bind fun r => some (op r.1, r.2)
abbrev o_add (x y : Int32) : Int32 := x + y
abbrev o_sub (x y : Int32) : Int32 := x - y
abbrev o_mul (x y : Int32) : Int32 := x * y
abbrev o_div (x y : Int32) : Int32 := x / y
abbrev o_rem (x y : Int32) : Int32 := x - x / y * y
abbrev o_and (x y : Int32) : Int32 := x &&& y
abbrev o_or (x y : Int32) : Int32 := x ||| y
abbrev o_xor (x y : Int32) : Int32 := x ^^^ y
abbrev o_shl (x y : Int32) : Int32 := x <<< (y &&& 31)
abbrev o_shr (x y : Int32) : Int32 := x >>> (y &&& 31)
abbrev o_ushr (x y : Int32) : Int32 := (x.toUInt32 >>> (y.toUInt32 &&& Int32.toUInt32 31)).toInt32
abbrev o_max (x y : Int32) : Int32 := if x < y then y else x
abbrev o_min (x y : Int32) : Int32 := if y < x then y else x
abbrev j_add (x y : Int64) : Int64 := x + y
abbrev j_sub (x y : Int64) : Int64 := x - y
abbrev j_mul (x y : Int64) : Int64 := x * y
abbrev j_div (x y : Int64) : Int64 := x / y
abbrev j_rem (x y : Int64) : Int64 := x - x / y * y
abbrev j_max (x y : Int64) : Int64 := if y < x then x else y
abbrev j_neg (x : Int64) : Int64 := -x
abbrev j_abs (x : Int64) : Int64 := if 0 < x then x else -x
/-- a field of an object of class number ci -/
def getF (G : Hp) (a ci k : Nat) : Option Value := match G a with
  | some (.inl o) => if o.1 = ci then o.2[k]? else none
  | _ => none
def fI (f : EA) (ci k : Nat) : EI := fun L G => (f L G).bind fun r => match getF r.2 r.1 ci k with
  | some (.int x) => some (x, r.2)
  | _ => none
def fA (f : EA) (ci k : Nat) : EA := fun L G => (f L G).bind fun r => match getF r.2 r.1 ci k with
  | some (.ref x) => some (x, r.2)
  | _ => none
/-- a place of a row -/
def getA (G : Hp) (z : Bool) (a : Nat) (i : Int32) : Option Int32 := match G a with
  | some (.inr o) => if o.1 = z ∧ 0 ≤ i.toInt ∧ i.toInt < o.2.1 then some (o.2.2 i.toNatClampNeg) else none
  | _ => none
def aI (z : Bool) (f : EA) (g : EI) : EI := fun L G => (f L G).bind fun r => (g L r.2).bind fun q => (getA q.2 z r.1 q.1).bind fun x => some (x, q.2)
def aN (f : EA) : EI := fun L G => (f L G).bind fun r => match r.2 r.1 with
  | some (.inr o) => some (Int32.ofNat o.2.1, r.2)
  | _ => none
def cI {α : Type} (c : EB) (f g : Lo → Hp → Option (α × Hp)) : Lo → Hp → Option (α × Hp) := fun L G => (c L G).bind fun r => bif r.1 then f L r.2 else g L r.2
/-- conditions -/
def qI (op : Int32 → Int32 → Bool) (f g : EI) : EB := fun L G => (f L G).bind fun r => (g L r.2).bind fun q => some (op r.1 q.1, q.2)
def qJ (op : Int64 → Int64 → Bool) (f g : EJ) : EB := fun L G => (f L G).bind fun r => (g L r.2).bind fun q => some (op r.1 q.1, q.2)
def qZ (op : Int32 → Bool) (f : EI) : EB := fun L G => (f L G).bind fun r => some (op r.1, r.2)
def qAnd (f g : EB) : EB := fun L G => (f L G).bind fun r => bif r.1 then g L r.2 else some (false, r.2)
def qOr (f g : EB) : EB := fun L G => (f L G).bind fun r => bif r.1 then some (true, r.2) else g L r.2
def qNot (f : EB) : EB := fun L G => (f L G).bind fun r => some (!r.1, r.2)
abbrev p_eq (x y : Int32) : Bool := decide (x = y)
abbrev p_ne (x y : Int32) : Bool := decide (¬ x = y)
abbrev p_lt (x y : Int32) : Bool := decide (x < y)
abbrev p_ge (x y : Int32) : Bool := decide (y ≤ x)
abbrev p_gt (x y : Int32) : Bool := decide (y < x)
abbrev p_le (x y : Int32) : Bool := decide (x ≤ y)
abbrev r_eq (x y : Int64) : Bool := decide (x = y)
abbrev r_ne (x y : Int64) : Bool := decide (¬ x = y)
abbrev r_lt (x y : Int64) : Bool := decide (x < y)
abbrev r_ge (x y : Int64) : Bool := decide (y ≤ x)
abbrev r_gt (x y : Int64) : Bool := decide (y < x)
abbrev r_le (x y : Int64) : Bool := decide (x ≤ y)
abbrev z_eq (x : Int32) : Bool := decide (x = 0)
abbrev z_ne (x : Int32) : Bool := decide (¬ x = 0)
abbrev z_lt (x : Int32) : Bool := decide (x < 0)
abbrev z_ge (x : Int32) : Bool := decide (0 ≤ x)
abbrev z_gt (x : Int32) : Bool := decide (0 < x)
abbrev z_le (x : Int32) : Bool := decide (x ≤ 0)
/-- arguments -/
def aNil : EL := fun _ G => some ([], G)
def aCons {α : Type} (val : α → Value) (f : Lo → Hp → Option (α × Hp)) (g : EL) : EL := fun L G => (f L G).bind fun r => (g L r.2).bind fun q => some (val r.1 :: q.1, q.2)
theorem wdI {st : List Value} {d : Nat} {x : Int32} (h : wd st ≤ d) : wd (.int x :: st) ≤ d + 1 := by
  have e : wd (.int x :: st) = 1 + wd st := rfl
  omega
theorem wdA {st : List Value} {d : Nat} {x : Nat} (h : wd st ≤ d) : wd (.ref x :: st) ≤ d + 1 := by
  have e : wd (.ref x :: st) = 1 + wd st := rfl
  omega
theorem wdJ {st : List Value} {d : Nat} {x : Int64} (h : wd st ≤ d) : wd (.long x :: st) ≤ d + 2 := by
  have e : wd (.long x :: st) = 2 + wd st := rfl
  omega
section Rules
variable {Γ : Cx} {cc : ByteArray} {own : String} {nL h d pc p1 p2 : Nat} {sa : Nat → Nat}
theorem Ex.iloadn (hO : Ok Γ cc own nL h sa) {k : Fin 4} (hd : decode cc pc = .ok (.iload_n k, 1)) : Ex Γ .int d pc (pc + 1) (vI k) := by
  obtain ⟨p, l, e, R, s, m, args, below, meth, c, Q, n', D, A, sa', sv, ck, sk⟩ := Γ
  obtain ⟨⟨hx, hb, hml, hown, hts⟩, rfl, hK, hX, hR, hC, rfl⟩ := hO
  intro L G x G' hf st hw kk H locs ls hP hS hL
  unfold vI at hf
  split at hf
  · rename_i y hy
    cases hf
    exact lv_iload_n hx hb hd rfl (hL.2.2 _ _ hy) (kk H locs ls hP hS hL)
  · cases hf
theorem Ex.iload (hO : Ok Γ cc own nL h sa) {i : Nat} (hd : decode cc pc = .ok (.iload i, 2)) : Ex Γ .int d pc (pc + 2) (vI i) := by
  obtain ⟨p, l, e, R, s, m, args, below, meth, c, Q, n', D, A, sa', sv, ck, sk⟩ := Γ
  obtain ⟨⟨hx, hb, hml, hown, hts⟩, rfl, hK, hX, hR, hC, rfl⟩ := hO
  intro L G x G' hf st hw kk H locs ls hP hS hL
  unfold vI at hf
  split at hf
  · rename_i y hy
    cases hf
    exact lv_iload hx hb hd (hL.2.2 _ _ hy) (kk H locs ls hP hS hL)
  · cases hf
theorem Ex.lloadn (hO : Ok Γ cc own nL h sa) {k : Fin 4} (hd : decode cc pc = .ok (.lload_n k, 1)) : Ex Γ .long d pc (pc + 1) (vJ k) := by
  obtain ⟨p, l, e, R, s, m, args, below, meth, c, Q, n', D, A, sa', sv, ck, sk⟩ := Γ
  obtain ⟨⟨hx, hb, hml, hown, hts⟩, rfl, hK, hX, hR, hC, rfl⟩ := hO
  intro L G x G' hf st hw kk H locs ls hP hS hL
  unfold vJ at hf
  split at hf
  · rename_i y hy
    cases hf
    exact lv_lload_n hx hb hd rfl (hL.2.2 _ _ hy) (kk H locs ls hP hS hL)
  · cases hf
theorem Ex.lload (hO : Ok Γ cc own nL h sa) {i : Nat} (hd : decode cc pc = .ok (.lload i, 2)) : Ex Γ .long d pc (pc + 2) (vJ i) := by
  obtain ⟨p, l, e, R, s, m, args, below, meth, c, Q, n', D, A, sa', sv, ck, sk⟩ := Γ
  obtain ⟨⟨hx, hb, hml, hown, hts⟩, rfl, hK, hX, hR, hC, rfl⟩ := hO
  intro L G x G' hf st hw kk H locs ls hP hS hL
  unfold vJ at hf
  split at hf
  · rename_i y hy
    cases hf
    exact lv_lload hx hb hd (hL.2.2 _ _ hy) (kk H locs ls hP hS hL)
  · cases hf
theorem Ex.aloadn (hO : Ok Γ cc own nL h sa) {k : Fin 4} (hd : decode cc pc = .ok (.aload_n k, 1)) : Ex Γ .ref d pc (pc + 1) (vA k) := by
  obtain ⟨p, l, e, R, s, m, args, below, meth, c, Q, n', D, A, sa', sv, ck, sk⟩ := Γ
  obtain ⟨⟨hx, hb, hml, hown, hts⟩, rfl, hK, hX, hR, hC, rfl⟩ := hO
  intro L G x G' hf st hw kk H locs ls hP hS hL
  unfold vA at hf
  split at hf
  · rename_i y hy
    cases hf
    exact lv_aload_n hx hb hd rfl (hL.2.2 _ _ hy) (kk H locs ls hP hS hL)
  · cases hf
theorem Ex.aload (hO : Ok Γ cc own nL h sa) {i : Nat} (hd : decode cc pc = .ok (.aload i, 2)) : Ex Γ .ref d pc (pc + 2) (vA i) := by
  obtain ⟨p, l, e, R, s, m, args, below, meth, c, Q, n', D, A, sa', sv, ck, sk⟩ := Γ
  obtain ⟨⟨hx, hb, hml, hown, hts⟩, rfl, hK, hX, hR, hC, rfl⟩ := hO
  intro L G x G' hf st hw kk H locs ls hP hS hL
  unfold vA at hf
  split at hf
  · rename_i y hy
    cases hf
    exact lv_aload hx hb hd (hL.2.2 _ _ hy) (kk H locs ls hP hS hL)
  · cases hf
theorem Ex.iconst (hO : Ok Γ cc own nL h sa) {n : Int} {v : Int32} (hd : decode cc pc = .ok (.iconst n, 1)) (hv : Int32.ofInt n = v) : Ex Γ .int d pc (pc + 1) (kI v) := by
  obtain ⟨p, l, e, R, s, m, args, below, meth, c, Q, n', D, A, sa', sv, ck, sk⟩ := Γ
  obtain ⟨⟨hx, hb, hml, hown, hts⟩, rfl, hK, hX, hR, hC, rfl⟩ := hO
  intro L G x G' hf st hw kk H locs ls hP hS hL
  cases hf
  exact lv_iconst hx hb hd hv (kk H locs ls hP hS hL)
theorem Ex.bipush (hO : Ok Γ cc own nL h sa) {n : Int} {v : Int32} (hd : decode cc pc = .ok (.bipush n, 2)) (hv : (Int8.ofInt n).toInt32 = v) : Ex Γ .int d pc (pc + 2) (kI v) := by
  obtain ⟨p, l, e, R, s, m, args, below, meth, c, Q, n', D, A, sa', sv, ck, sk⟩ := Γ
  obtain ⟨⟨hx, hb, hml, hown, hts⟩, rfl, hK, hX, hR, hC, rfl⟩ := hO
  intro L G x G' hf st hw kk H locs ls hP hS hL
  cases hf
  exact lv_bipush hx hb hd hv (kk H locs ls hP hS hL)
theorem Ex.sipush (hO : Ok Γ cc own nL h sa) {n : Int} {v : Int32} (hd : decode cc pc = .ok (.sipush n, 3)) (hv : (Int16.ofInt n).toInt32 = v) : Ex Γ .int d pc (pc + 3) (kI v) := by
  obtain ⟨p, l, e, R, s, m, args, below, meth, c, Q, n', D, A, sa', sv, ck, sk⟩ := Γ
  obtain ⟨⟨hx, hb, hml, hown, hts⟩, rfl, hK, hX, hR, hC, rfl⟩ := hO
  intro L G x G' hf st hw kk H locs ls hP hS hL
  cases hf
  exact lv_sipush hx hb hd hv (kk H locs ls hP hS hL)
theorem Ex.ldc (hO : Ok Γ cc own nL h sa) {i : Nat} {v : Int32} (hd : decode cc pc = .ok (.ldc i, 2)) (hv : Cond.constant own i v ∈ lw_g) : Ex Γ .int d pc (pc + 2) (kI v) := by
  obtain ⟨p, l, e, R, s, m, args, below, meth, c, Q, n', D, A, sa', sv, ck, sk⟩ := Γ
  obtain ⟨⟨hx, hb, hml, hown, hts⟩, rfl, hK, hX, hR, hC, rfl⟩ := hO
  intro L G x G' hf st hw kk H locs ls hP hS hL
  cases hf
  exact lv_ldc hx hb hown (hts _ hv) hd (kk H locs ls hP hS hL)
theorem Ex.ldcw (hO : Ok Γ cc own nL h sa) {i : Nat} {v : Int32} (hd : decode cc pc = .ok (.ldc_w i, 3)) (hv : Cond.constant own i v ∈ lw_g) : Ex Γ .int d pc (pc + 3) (kI v) := by
  obtain ⟨p, l, e, R, s, m, args, below, meth, c, Q, n', D, A, sa', sv, ck, sk⟩ := Γ
  obtain ⟨⟨hx, hb, hml, hown, hts⟩, rfl, hK, hX, hR, hC, rfl⟩ := hO
  intro L G x G' hf st hw kk H locs ls hP hS hL
  cases hf
  exact lv_ldcw hx hb hown (hts _ hv) hd (kk H locs ls hP hS hL)
theorem Ex.lconst (hO : Ok Γ cc own nL h sa) {n : Fin 2} {v : Int64} (hd : decode cc pc = .ok (.lconst n, 1)) (hv : Int64.ofNat (n : Nat) = v) : Ex Γ .long d pc (pc + 1) (kJ v) := by
  obtain ⟨p, l, e, R, s, m, args, below, meth, c, Q, n', D, A, sa', sv, ck, sk⟩ := Γ
  obtain ⟨⟨hx, hb, hml, hown, hts⟩, rfl, hK, hX, hR, hC, rfl⟩ := hO
  intro L G x G' hf st hw kk H locs ls hP hS hL
  cases hf
  exact lv_lconst hx hb hd hv (kk H locs ls hP hS hL)
theorem Ex.ldc2 (hO : Ok Γ cc own nL h sa) {i : Nat} {v : Int64} (hd : decode cc pc = .ok (.ldc2_w i, 3)) (hv : Cond.constantLong own i v ∈ lw_g) : Ex Γ .long d pc (pc + 3) (kJ v) := by
  obtain ⟨p, l, e, R, s, m, args, below, meth, c, Q, n', D, A, sa', sv, ck, sk⟩ := Γ
  obtain ⟨⟨hx, hb, hml, hown, hts⟩, rfl, hK, hX, hR, hC, rfl⟩ := hO
  intro L G x G' hf st hw kk H locs ls hP hS hL
  cases hf
  exact lv_ldc2 hx hb hown (hts _ hv) hd (kk H locs ls hP hS hL)
/-- binary operators of ints: an instruction of length 1 or 3 at pc (3: a static call) -/
def Bin (Γ : Cx) (d pc pc' : Nat) (op : Int32 → Int32 → Int32) : Prop := ∀ (L : Lo) (st : List Value) (x y : Int32) (G : Hp), wd st ≤ d → Wg Γ pc' L (.int (op x y) :: st) G → Wg Γ pc L (.int y :: .int x :: st) G
def BinQ (Γ : Cx) (d pc pc' : Nat) (op : Int32 → Int32 → Int32) : Prop := ∀ (L : Lo) (st : List Value) (x y : Int32) (G : Hp), ¬ y = 0 → wd st ≤ d → Wg Γ pc' L (.int (op x y) :: st) G → Wg Γ pc L (.int y :: .int x :: st) G
def BinJ (Γ : Cx) (d pc pc' : Nat) (op : Int64 → Int64 → Int64) : Prop := ∀ (L : Lo) (st : List Value) (x y : Int64) (G : Hp), wd st ≤ d → Wg Γ pc' L (.long (op x y) :: st) G → Wg Γ pc L (.long y :: .long x :: st) G
def BinQJ (Γ : Cx) (d pc pc' : Nat) (op : Int64 → Int64 → Int64) : Prop := ∀ (L : Lo) (st : List Value) (x y : Int64) (G : Hp), ¬ y = 0 → wd st ≤ d → Wg Γ pc' L (.long (op x y) :: st) G → Wg Γ pc L (.long y :: .long x :: st) G
theorem Bin.add (hO : Ok Γ cc own nL h sa) (hd : decode cc pc = .ok (.iadd, 1)) : Bin Γ d pc (pc + 1) o_add := by
  obtain ⟨p, l, e, R, s, m, args, below, meth, c, Q, n', D, A, sa', sv, ck, sk⟩ := Γ
  obtain ⟨⟨hx, hb, hml, hown, hts⟩, rfl, hK, hX, hR, hC, rfl⟩ := hO
  intro L st x y G hw kk H locs ls hP hS hL
  exact lv_iadd hx hb hd (kk H locs ls hP hS hL)
theorem Bin.sub (hO : Ok Γ cc own nL h sa) (hd : decode cc pc = .ok (.isub, 1)) : Bin Γ d pc (pc + 1) o_sub := by
  obtain ⟨p, l, e, R, s, m, args, below, meth, c, Q, n', D, A, sa', sv, ck, sk⟩ := Γ
  obtain ⟨⟨hx, hb, hml, hown, hts⟩, rfl, hK, hX, hR, hC, rfl⟩ := hO
  intro L st x y G hw kk H locs ls hP hS hL
  exact lv_isub hx hb hd (kk H locs ls hP hS hL)
theorem Bin.mul (hO : Ok Γ cc own nL h sa) (hd : decode cc pc = .ok (.imul, 1)) : Bin Γ d pc (pc + 1) o_mul := by
  obtain ⟨p, l, e, R, s, m, args, below, meth, c, Q, n', D, A, sa', sv, ck, sk⟩ := Γ
  obtain ⟨⟨hx, hb, hml, hown, hts⟩, rfl, hK, hX, hR, hC, rfl⟩ := hO
  intro L st x y G hw kk H locs ls hP hS hL
  exact lv_imul hx hb hd (kk H locs ls hP hS hL)
theorem Bin.and (hO : Ok Γ cc own nL h sa) (hd : decode cc pc = .ok (.iand, 1)) : Bin Γ d pc (pc + 1) o_and := by
  obtain ⟨p, l, e, R, s, m, args, below, meth, c, Q, n', D, A, sa', sv, ck, sk⟩ := Γ
  obtain ⟨⟨hx, hb, hml, hown, hts⟩, rfl, hK, hX, hR, hC, rfl⟩ := hO
  intro L st x y G hw kk H locs ls hP hS hL
  exact lv_iand hx hb hd (kk H locs ls hP hS hL)
theorem Bin.or (hO : Ok Γ cc own nL h sa) (hd : decode cc pc = .ok (.ior, 1)) : Bin Γ d pc (pc + 1) o_or := by
  obtain ⟨p, l, e, R, s, m, args, below, meth, c, Q, n', D, A, sa', sv, ck, sk⟩ := Γ
  obtain ⟨⟨hx, hb, hml, hown, hts⟩, rfl, hK, hX, hR, hC, rfl⟩ := hO
  intro L st x y G hw kk H locs ls hP hS hL
  exact lv_ior hx hb hd (kk H locs ls hP hS hL)
theorem Bin.xor (hO : Ok Γ cc own nL h sa) (hd : decode cc pc = .ok (.ixor, 1)) : Bin Γ d pc (pc + 1) o_xor := by
  obtain ⟨p, l, e, R, s, m, args, below, meth, c, Q, n', D, A, sa', sv, ck, sk⟩ := Γ
  obtain ⟨⟨hx, hb, hml, hown, hts⟩, rfl, hK, hX, hR, hC, rfl⟩ := hO
  intro L st x y G hw kk H locs ls hP hS hL
  exact lv_ixor hx hb hd (kk H locs ls hP hS hL)
theorem Bin.shl (hO : Ok Γ cc own nL h sa) (hd : decode cc pc = .ok (.ishl, 1)) : Bin Γ d pc (pc + 1) o_shl := by
  obtain ⟨p, l, e, R, s, m, args, below, meth, c, Q, n', D, A, sa', sv, ck, sk⟩ := Γ
  obtain ⟨⟨hx, hb, hml, hown, hts⟩, rfl, hK, hX, hR, hC, rfl⟩ := hO
  intro L st x y G hw kk H locs ls hP hS hL
  exact lv_ishl hx hb hd (kk H locs ls hP hS hL)
theorem Bin.shr (hO : Ok Γ cc own nL h sa) (hd : decode cc pc = .ok (.ishr, 1)) : Bin Γ d pc (pc + 1) o_shr := by
  obtain ⟨p, l, e, R, s, m, args, below, meth, c, Q, n', D, A, sa', sv, ck, sk⟩ := Γ
  obtain ⟨⟨hx, hb, hml, hown, hts⟩, rfl, hK, hX, hR, hC, rfl⟩ := hO
  intro L st x y G hw kk H locs ls hP hS hL
  exact lv_ishr hx hb hd (kk H locs ls hP hS hL)
theorem Bin.ushr (hO : Ok Γ cc own nL h sa) (hd : decode cc pc = .ok (.iushr, 1)) : Bin Γ d pc (pc + 1) o_ushr := by
  obtain ⟨p, l, e, R, s, m, args, below, meth, c, Q, n', D, A, sa', sv, ck, sk⟩ := Γ
  obtain ⟨⟨hx, hb, hml, hown, hts⟩, rfl, hK, hX, hR, hC, rfl⟩ := hO
  intro L st x y G hw kk H locs ls hP hS hL
  exact lv_iushr hx hb hd rfl (kk H locs ls hP hS hL)
theorem BinQ.div (hO : Ok Γ cc own nL h sa) (hd : decode cc pc = .ok (.idiv, 1)) : BinQ Γ d pc (pc + 1) o_div := by
  obtain ⟨p, l, e, R, s, m, args, below, meth, c, Q, n', D, A, sa', sv, ck, sk⟩ := Γ
  obtain ⟨⟨hx, hb, hml, hown, hts⟩, rfl, hK, hX, hR, hC, rfl⟩ := hO
  intro L st x y G hy hw kk H locs ls hP hS hL
  exact lv_idiv hx hb hd hy (kk H locs ls hP hS hL)
theorem BinQJ.div (hO : Ok Γ cc own nL h sa) (hd : decode cc pc = .ok (.ldiv, 1)) : BinQJ Γ d pc (pc + 1) j_div := by
  obtain ⟨p, l, e, R, s, m, args, below, meth, c, Q, n', D, A, sa', sv, ck, sk⟩ := Γ
  obtain ⟨⟨hx, hb, hml, hown, hts⟩, rfl, hK, hX, hR, hC, rfl⟩ := hO
  intro L st x y G hy hw kk H locs ls hP hS hL
  exact lv_ldiv hx hb hd hy (kk H locs ls hP hS hL)
theorem BinQ.rem (hO : Ok Γ cc own nL h sa) (hd : decode cc pc = .ok (.irem, 1)) : BinQ Γ d pc (pc + 1) o_rem := by
  obtain ⟨p, l, e, R, s, m, args, below, meth, c, Q, n', D, A, sa', sv, ck, sk⟩ := Γ
  obtain ⟨⟨hx, hb, hml, hown, hts⟩, rfl, hK, hX, hR, hC, rfl⟩ := hO
  intro L st x y G hy hw kk H locs ls hP hS hL
  exact lv_irem hx hb hd hy (kk H locs ls hP hS hL)
theorem BinQJ.rem (hO : Ok Γ cc own nL h sa) (hd : decode cc pc = .ok (.lrem, 1)) : BinQJ Γ d pc (pc + 1) j_rem := by
  obtain ⟨p, l, e, R, s, m, args, below, meth, c, Q, n', D, A, sa', sv, ck, sk⟩ := Γ
  obtain ⟨⟨hx, hb, hml, hown, hts⟩, rfl, hK, hX, hR, hC, rfl⟩ := hO
  intro L st x y G hy hw kk H locs ls hP hS hL
  exact lv_lrem hx hb hd hy (kk H locs ls hP hS hL)
theorem BinJ.add (hO : Ok Γ cc own nL h sa) (hd : decode cc pc = .ok (.ladd, 1)) : BinJ Γ d pc (pc + 1) j_add := by
  obtain ⟨p, l, e, R, s, m, args, below, meth, c, Q, n', D, A, sa', sv, ck, sk⟩ := Γ
  obtain ⟨⟨hx, hb, hml, hown, hts⟩, rfl, hK, hX, hR, hC, rfl⟩ := hO
  intro L st x y G hw kk H locs ls hP hS hL
  exact lv_ladd hx hb hd (kk H locs ls hP hS hL)
theorem BinJ.sub (hO : Ok Γ cc own nL h sa) (hd : decode cc pc = .ok (.lsub, 1)) : BinJ Γ d pc (pc + 1) j_sub := by
  obtain ⟨p, l, e, R, s, m, args, below, meth, c, Q, n', D, A, sa', sv, ck, sk⟩ := Γ
  obtain ⟨⟨hx, hb, hml, hown, hts⟩, rfl, hK, hX, hR, hC, rfl⟩ := hO
  intro L st x y G hw kk H locs ls hP hS hL
  exact lv_lsub hx hb hd (kk H locs ls hP hS hL)
theorem BinJ.mul (hO : Ok Γ cc own nL h sa) (hd : decode cc pc = .ok (.lmul, 1)) : BinJ Γ d pc (pc + 1) j_mul := by
  obtain ⟨p, l, e, R, s, m, args, below, meth, c, Q, n', D, A, sa', sv, ck, sk⟩ := Γ
  obtain ⟨⟨hx, hb, hml, hown, hts⟩, rfl, hK, hX, hR, hC, rfl⟩ := hO
  intro L st x y G hw kk H locs ls hP hS hL
  exact lv_lmul hx hb hd (kk H locs ls hP hS hL)
theorem Bin.max (hO : Ok Γ cc own nL h sa) {i : Nat} (hd : decode cc pc = .ok (.invokestatic i, 3)) (hl : Cond.methodLink own i Lib.Math.max.name ∈ lw_g) (h1 : Cond.static Lib.Math.max.name ∈ lw_g) (h2 : Cond.initialized "java/lang/Math" ∈ lw_g) (h3 : Cond.code Lib.Math.max.name Lib.Math.max.code 2 (some .int) ∈ lw_g) (hh : 1 ≤ h) (h8 : d ≤ 8) : Bin Γ d pc (pc + 3) o_max := by
  obtain ⟨p, l, e, R, s, m, args, below, meth, c, Q, n', D, A, sa', sv, ck, sk⟩ := Γ
  obtain ⟨⟨hx, hb, hml, hown, hts⟩, rfl, hK, hX, hR, hC, rfl⟩ := hO
  intro L st x y G hw kk H locs ls hP hS hL
  exact va_mmax hx hb (hml.trans hL.1.symm) hown (hts _ hl) (hts _ h1) (hts _ h2) (hts _ h3) (by omega) (by have := hw; simp only [wd] at this; omega) hC.1 hC.2 hd (kk H locs ls hP hS hL)
theorem Bin.min (hO : Ok Γ cc own nL h sa) {i : Nat} (hd : decode cc pc = .ok (.invokestatic i, 3)) (hl : Cond.methodLink own i Lib.Math.min.name ∈ lw_g) (h1 : Cond.static Lib.Math.min.name ∈ lw_g) (h2 : Cond.initialized "java/lang/Math" ∈ lw_g) (h3 : Cond.code Lib.Math.min.name Lib.Math.min.code 2 (some .int) ∈ lw_g) (hh : 1 ≤ h) (h8 : d ≤ 8) : Bin Γ d pc (pc + 3) o_min := by
  obtain ⟨p, l, e, R, s, m, args, below, meth, c, Q, n', D, A, sa', sv, ck, sk⟩ := Γ
  obtain ⟨⟨hx, hb, hml, hown, hts⟩, rfl, hK, hX, hR, hC, rfl⟩ := hO
  intro L st x y G hw kk H locs ls hP hS hL
  exact va_mmin hx hb (hml.trans hL.1.symm) hown (hts _ hl) (hts _ h1) (hts _ h2) (hts _ h3) (by omega) (by have := hw; simp only [wd] at this; omega) hC.1 hC.2 hd (kk H locs ls hP hS hL)
theorem BinJ.max (hO : Ok Γ cc own nL h sa) {i : Nat} (hd : decode cc pc = .ok (.invokestatic i, 3)) (hl : Cond.methodLink own i Lib.MathLoose.max_long.x ∈ lw_g) (h1 : Cond.static Lib.MathLoose.max_long.x ∈ lw_g) (h2 : Cond.initialized "java/lang/Math" ∈ lw_g) (h3 : Cond.code Lib.MathLoose.max_long.x Lib.MathLoose.max_long.code 4 (some .long) ∈ lw_g) (hh : 1 ≤ h) (h8 : d ≤ 8) : BinJ Γ d pc (pc + 3) j_max := by
  obtain ⟨p, l, e, R, s, m, args, below, meth, c, Q, n', D, A, sa', sv, ck, sk⟩ := Γ
  obtain ⟨⟨hx, hb, hml, hown, hts⟩, rfl, hK, hX, hR, hC, rfl⟩ := hO
  intro L st x y G hw kk H locs ls hP hS hL
  exact va_mmax_long hx hb (hml.trans hL.1.symm) hown (hts _ hl) (hts _ h1) (hts _ h2) (hts _ h3) (by omega) (by have := hw; simp only [wd] at this; omega) hC.1 hC.2 hd (kk H locs ls hP hS hL)
theorem Ex.absJ (hO : Ok Γ cc own nL h sa) {f : EJ} (hf : Ex Γ .long d pc p1 f) {i : Nat} (hd : decode cc p1 = .ok (.invokestatic i, 3)) (hl : Cond.methodLink own i Lib.MathLoose.abs_long.x ∈ lw_g) (h1 : Cond.static Lib.MathLoose.abs_long.x ∈ lw_g) (h2 : Cond.initialized "java/lang/Math" ∈ lw_g) (h3 : Cond.code Lib.MathLoose.abs_long.x Lib.MathLoose.abs_long.code 2 (some .long) ∈ lw_g) (hh : 1 ≤ h) (h8 : d ≤ 8) : Ex Γ .long d pc (p1 + 3) (uJJ j_abs f) := by
  intro L G x G' e st hw kk
  obtain ⟨r, e1, e2⟩ := Option.bind_eq_some_iff.mp e
  cases e2
  refine hf L G r.1 r.2 e1 st hw ?_
  clear e1 e hf
  obtain ⟨p, l, e, R, s, m, args, below, meth, c, Q, n', D, A, sa', sv, ck, sk⟩ := Γ
  obtain ⟨⟨hx, hb, hml, hown, hts⟩, rfl, hK, hX, hR, hC, rfl⟩ := hO
  intro H locs ls hP hS hL
  exact va_mabs_long hx hb (hml.trans hL.1.symm) hown (hts _ hl) (hts _ h1) (hts _ h2) (hts _ h3) (by omega) (by have := hw; simp only [wd] at this; omega) hC.1 hC.2 hd (kk H locs ls hP hS hL)
theorem Ex.i2l (hO : Ok Γ cc own nL h sa) {f : EI} (hf : Ex Γ .int d pc p1 f) (hd : decode cc p1 = .ok (.i2l, 1)) : Ex Γ .long d pc (p1 + 1) (uIJ f) := by
  intro L G x G' e st hw kk
  obtain ⟨r, e1, e2⟩ := Option.bind_eq_some_iff.mp e
  cases e2
  refine hf L G r.1 r.2 e1 st hw ?_
  clear e1 e hf
  obtain ⟨p, l, e, R, s, m, args, below, meth, c, Q, n', D, A, sa', sv, ck, sk⟩ := Γ
  obtain ⟨⟨hx, hb, hml, hown, hts⟩, rfl, hK, hX, hR, hC, rfl⟩ := hO
  intro H locs ls hP hS hL
  exact lv_i2l hx hb hd rfl (kk H locs ls hP hS hL)
theorem Ex.l2i (hO : Ok Γ cc own nL h sa) {f : EJ} (hf : Ex Γ .long d pc p1 f) (hd : decode cc p1 = .ok (.l2i, 1)) : Ex Γ .int d pc (p1 + 1) (uJI f) := by
  intro L G x G' e st hw kk
  obtain ⟨r, e1, e2⟩ := Option.bind_eq_some_iff.mp e
  cases e2
  refine hf L G r.1 r.2 e1 st hw ?_
  clear e1 e hf
  obtain ⟨p, l, e, R, s, m, args, below, meth, c, Q, n', D, A, sa', sv, ck, sk⟩ := Γ
  obtain ⟨⟨hx, hb, hml, hown, hts⟩, rfl, hK, hX, hR, hC, rfl⟩ := hO
  intro H locs ls hP hS hL
  exact lv_l2i hx hb hd rfl (kk H locs ls hP hS hL)
theorem Ex.lneg (hO : Ok Γ cc own nL h sa) {f : EJ} (hf : Ex Γ .long d pc p1 f) (hd : decode cc p1 = .ok (.lneg, 1)) : Ex Γ .long d pc (p1 + 1) (uJJ j_neg f) := by
  intro L G x G' e st hw kk
  obtain ⟨r, e1, e2⟩ := Option.bind_eq_some_iff.mp e
  cases e2
  refine hf L G r.1 r.2 e1 st hw ?_
  clear e1 e hf
  obtain ⟨p, l, e, R, s, m, args, below, meth, c, Q, n', D, A, sa', sv, ck, sk⟩ := Γ
  obtain ⟨⟨hx, hb, hml, hown, hts⟩, rfl, hK, hX, hR, hC, rfl⟩ := hO
  intro H locs ls hP hS hL
  exact lv_lneg hx hb hd (kk H locs ls hP hS hL)
theorem Ex.bin {f g : EI} {p3 : Nat} {op : Int32 → Int32 → Int32} (hf : Ex Γ .int d pc p1 f) (hg : Ex Γ .int (d + 1) p1 p2 g) (hb : Bin Γ d p2 p3 op) : Ex Γ .int d pc p3 (bI op f g) := by
  intro L G x G' e st hw kk
  obtain ⟨r, e1, e2⟩ := Option.bind_eq_some_iff.mp e
  obtain ⟨q, e3, e4⟩ := Option.bind_eq_some_iff.mp e2
  cases e4
  exact hf L G r.1 r.2 e1 st hw (hg L r.2 q.1 q.2 e3 (.int r.1 :: st) (wdI hw) (hb L st r.1 q.1 q.2 hw kk))
theorem Ex.binQ {f g : EI} {p3 : Nat} {op : Int32 → Int32 → Int32} (hf : Ex Γ .int d pc p1 f) (hg : Ex Γ .int (d + 1) p1 p2 g) (hb : BinQ Γ d p2 p3 op) : Ex Γ .int d pc p3 (bQ op f g) := by
  intro L G x G' e st hw kk
  obtain ⟨r, e1, e2⟩ := Option.bind_eq_some_iff.mp e
  obtain ⟨q, e3, e4⟩ := Option.bind_eq_some_iff.mp e2
  split at e4
  · cases e4
  · rename_i hne
    cases e4
    exact hf L G r.1 r.2 e1 st hw (hg L r.2 q.1 q.2 e3 (.int r.1 :: st) (wdI hw) (hb L st r.1 q.1 q.2 hne hw kk))
theorem Ex.binJ {f g : EJ} {p3 : Nat} {op : Int64 → Int64 → Int64} (hf : Ex Γ .long d pc p1 f) (hg : Ex Γ .long (d + 2) p1 p2 g) (hb : BinJ Γ d p2 p3 op) : Ex Γ .long d pc p3 (bJ op f g) := by
  intro L G x G' e st hw kk
  obtain ⟨r, e1, e2⟩ := Option.bind_eq_some_iff.mp e
  obtain ⟨q, e3, e4⟩ := Option.bind_eq_some_iff.mp e2
  cases e4
  exact hf L G r.1 r.2 e1 st hw (hg L r.2 q.1 q.2 e3 (.long r.1 :: st) (wdJ hw) (hb L st r.1 q.1 q.2 hw kk))
theorem Ex.binQJ {f g : EJ} {p3 : Nat} {op : Int64 → Int64 → Int64} (hf : Ex Γ .long d pc p1 f) (hg : Ex Γ .long (d + 2) p1 p2 g) (hb : BinQJ Γ d p2 p3 op) : Ex Γ .long d pc p3 (bQJ op f g) := by
  intro L G x G' e st hw kk
  obtain ⟨r, e1, e2⟩ := Option.bind_eq_some_iff.mp e
  obtain ⟨q, e3, e4⟩ := Option.bind_eq_some_iff.mp e2
  split at e4
  · cases e4
  · rename_i hne
    cases e4
    exact hf L G r.1 r.2 e1 st hw (hg L r.2 q.1 q.2 e3 (.long r.1 :: st) (wdJ hw) (hb L st r.1 q.1 q.2 hne hw kk))
theorem CJ.ieq (hO : Ok Γ cc own nL h sa) {f g : EI} {off : Int} {tgt : Nat} (hf : Ex Γ .int d pc p1 f) (hg : Ex Γ .int (d + 1) p1 p2 g) (hd : decode cc p2 = .ok (.if_icmp .eq off, 3)) (ht : (p2 : Int) + off = (tgt : Int)) : CJ Γ d pc tgt (p2 + 3) (qI p_eq f g) := by
  intro L G b G' e st hw kk
  obtain ⟨r, e1, e2⟩ := Option.bind_eq_some_iff.mp e
  obtain ⟨q, e3, e4⟩ := Option.bind_eq_some_iff.mp e2
  cases e4
  refine hf L G r.1 r.2 e1 st hw (hg L r.2 q.1 q.2 e3 (.int r.1 :: st) (wdI hw) ?_)
  clear e1 e3 e e2 hf hg
  obtain ⟨p, l, e, R, s, m, args, below, meth, c, Q, n', D, A, sa', sv, ck, sk⟩ := Γ
  obtain ⟨⟨hx, hb, hml, hown, hts⟩, rfl, hK, hX, hR, hC, rfl⟩ := hO
  intro H locs ls hP hS hL
  refine lv_icmp_eq hx hb hd ht (fun hc => ?_) (fun hc => ?_)
  · have hq : p_eq r.1 q.1 = true := by exact decide_eq_true hc
    rw [hq] at kk
    exact kk H locs ls hP hS hL
  · have hq : p_eq r.1 q.1 = false := by first | exact decide_eq_false hc | exact decide_eq_false (by simpa using hc)
    rw [hq] at kk
    exact kk H locs ls hP hS hL
theorem CJ.zeq (hO : Ok Γ cc own nL h sa) {f : EI} {off : Int} {tgt : Nat} (hf : Ex Γ .int d pc p1 f) (hd : decode cc p1 = .ok (.ifCond .eq off, 3)) (ht : (p1 : Int) + off = (tgt : Int)) : CJ Γ d pc tgt (p1 + 3) (qZ z_eq f) := by
  intro L G b G' e st hw kk
  obtain ⟨r, e1, e2⟩ := Option.bind_eq_some_iff.mp e
  cases e2
  refine hf L G r.1 r.2 e1 st hw ?_
  clear e1 e hf
  obtain ⟨p, l, e, R, s, m, args, below, meth, c, Q, n', D, A, sa', sv, ck, sk⟩ := Γ
  obtain ⟨⟨hx, hb, hml, hown, hts⟩, rfl, hK, hX, hR, hC, rfl⟩ := hO
  intro H locs ls hP hS hL
  refine lv_if_eq hx hb hd ht (fun hc => ?_) (fun hc => ?_)
  · have hq : z_eq r.1 = true := by exact decide_eq_true hc
    rw [hq] at kk
    exact kk H locs ls hP hS hL
  · have hq : z_eq r.1 = false := by first | exact decide_eq_false hc | exact decide_eq_false (by simpa using hc)
    rw [hq] at kk
    exact kk H locs ls hP hS hL
theorem CJ.jeq (hO : Ok Γ cc own nL h sa) {f g : EJ} {off : Int} {tgt : Nat} (hf : Ex Γ .long d pc p1 f) (hg : Ex Γ .long (d + 2) p1 p2 g) (hc : decode cc p2 = .ok (.lcmp, 1)) (hd : decode cc (p2 + 1) = .ok (.ifCond .eq off, 3)) (ht : ((p2 + 1 : Nat) : Int) + off = (tgt : Int)) : CJ Γ d pc tgt (p2 + 4) (qJ r_eq f g) := by
  intro L G b G' e st hw kk
  obtain ⟨r, e1, e2⟩ := Option.bind_eq_some_iff.mp e
  obtain ⟨q, e3, e4⟩ := Option.bind_eq_some_iff.mp e2
  cases e4
  refine hf L G r.1 r.2 e1 st hw (hg L r.2 q.1 q.2 e3 (.long r.1 :: st) (wdJ hw) ?_)
  clear e1 e3 e e2 hf hg
  obtain ⟨p, l, e, R, s, m, args, below, meth, c, Q, n', D, A, sa', sv, ck, sk⟩ := Γ
  obtain ⟨⟨hx, hb, hml, hown, hts⟩, rfl, hK, hX, hR, hC, rfl⟩ := hO
  intro H locs ls hP hS hL
  refine W.lcmp hx hb hc (lv_if_eq hx hb hd ht (fun hc => ?_) (fun hc => ?_))
  · rw [lg_cmp_eq] at hc
    have hq : r_eq r.1 q.1 = true := by exact decide_eq_true hc
    rw [hq] at kk
    exact kk H locs ls hP hS hL
  · rw [lg_cmp_eq] at hc
    have hq : r_eq r.1 q.1 = false := by first | exact decide_eq_false hc | exact decide_eq_false (by simpa using hc)
    rw [hq] at kk
    exact kk H locs ls hP hS hL
theorem CJ.ineq (hO : Ok Γ cc own nL h sa) {f g : EI} {off : Int} {tgt : Nat} (hf : Ex Γ .int d pc p1 f) (hg : Ex Γ .int (d + 1) p1 p2 g) (hd : decode cc p2 = .ok (.if_icmp .ne off, 3)) (ht : (p2 : Int) + off = (tgt : Int)) : CJ Γ d pc (p2 + 3) tgt (qI p_eq f g) := by
  intro L G b G' e st hw kk
  obtain ⟨r, e1, e2⟩ := Option.bind_eq_some_iff.mp e
  obtain ⟨q, e3, e4⟩ := Option.bind_eq_some_iff.mp e2
  cases e4
  refine hf L G r.1 r.2 e1 st hw (hg L r.2 q.1 q.2 e3 (.int r.1 :: st) (wdI hw) ?_)
  clear e1 e3 e e2 hf hg
  obtain ⟨p, l, e, R, s, m, args, below, meth, c, Q, n', D, A, sa', sv, ck, sk⟩ := Γ
  obtain ⟨⟨hx, hb, hml, hown, hts⟩, rfl, hK, hX, hR, hC, rfl⟩ := hO
  intro H locs ls hP hS hL
  refine lv_icmp_ne hx hb hd ht (fun hc => ?_) (fun hc => ?_)
  · have hq : p_eq r.1 q.1 = false := by simp only [p_eq]; first | exact decide_eq_false (by simpa using hc) | (simp only [Int32.not_lt, Int32.not_le] at *; simpa using hc) | (refine decide_eq_false fun z => ?_; first | exact Int32.not_lt.mpr hc z | exact Int32.not_le.mpr hc z)
    rw [hq] at kk
    exact kk H locs ls hP hS hL
  · have hq : p_eq r.1 q.1 = true := by simp only [p_eq]; first | exact decide_eq_true (by simpa using hc) | (refine decide_eq_true ?_; first | exact Int32.not_lt.mp hc | exact Int32.not_le.mp hc)
    rw [hq] at kk
    exact kk H locs ls hP hS hL
theorem CJ.zneq (hO : Ok Γ cc own nL h sa) {f : EI} {off : Int} {tgt : Nat} (hf : Ex Γ .int d pc p1 f) (hd : decode cc p1 = .ok (.ifCond .ne off, 3)) (ht : (p1 : Int) + off = (tgt : Int)) : CJ Γ d pc (p1 + 3) tgt (qZ z_eq f) := by
  intro L G b G' e st hw kk
  obtain ⟨r, e1, e2⟩ := Option.bind_eq_some_iff.mp e
  cases e2
  refine hf L G r.1 r.2 e1 st hw ?_
  clear e1 e hf
  obtain ⟨p, l, e, R, s, m, args, below, meth, c, Q, n', D, A, sa', sv, ck, sk⟩ := Γ
  obtain ⟨⟨hx, hb, hml, hown, hts⟩, rfl, hK, hX, hR, hC, rfl⟩ := hO
  intro H locs ls hP hS hL
  refine lv_if_ne hx hb hd ht (fun hc => ?_) (fun hc => ?_)
  · have hq : z_eq r.1 = false := by simp only [z_eq]; first | exact decide_eq_false (by simpa using hc) | (refine decide_eq_false fun z => ?_; first | exact Int32.not_lt.mpr hc z | exact Int32.not_le.mpr hc z)
    rw [hq] at kk
    exact kk H locs ls hP hS hL
  · have hq : z_eq r.1 = true := by simp only [z_eq]; first | exact decide_eq_true (by simpa using hc) | (refine decide_eq_true ?_; first | exact Int32.not_lt.mp hc | exact Int32.not_le.mp hc)
    rw [hq] at kk
    exact kk H locs ls hP hS hL
theorem CJ.jneq (hO : Ok Γ cc own nL h sa) {f g : EJ} {off : Int} {tgt : Nat} (hf : Ex Γ .long d pc p1 f) (hg : Ex Γ .long (d + 2) p1 p2 g) (hc : decode cc p2 = .ok (.lcmp, 1)) (hd : decode cc (p2 + 1) = .ok (.ifCond .ne off, 3)) (ht : ((p2 + 1 : Nat) : Int) + off = (tgt : Int)) : CJ Γ d pc (p2 + 4) tgt (qJ r_eq f g) := by
  intro L G b G' e st hw kk
  obtain ⟨r, e1, e2⟩ := Option.bind_eq_some_iff.mp e
  obtain ⟨q, e3, e4⟩ := Option.bind_eq_some_iff.mp e2
  cases e4
  refine hf L G r.1 r.2 e1 st hw (hg L r.2 q.1 q.2 e3 (.long r.1 :: st) (wdJ hw) ?_)
  clear e1 e3 e e2 hf hg
  obtain ⟨p, l, e, R, s, m, args, below, meth, c, Q, n', D, A, sa', sv, ck, sk⟩ := Γ
  obtain ⟨⟨hx, hb, hml, hown, hts⟩, rfl, hK, hX, hR, hC, rfl⟩ := hO
  intro H locs ls hP hS hL
  refine W.lcmp hx hb hc (lv_if_ne hx hb hd ht (fun hc => ?_) (fun hc => ?_))
  · rw [lg_cmp_eq] at hc
    have hq : r_eq r.1 q.1 = false := by simp only [r_eq]; first | exact decide_eq_false (by simpa using hc) | (refine decide_eq_false fun z => ?_; first | exact Int64.not_lt.mpr hc z | exact Int64.not_le.mpr hc z)
    rw [hq] at kk
    exact kk H locs ls hP hS hL
  · rw [lg_cmp_eq] at hc
    have hq : r_eq r.1 q.1 = true := by simp only [r_eq]; first | exact decide_eq_true (by simpa using hc) | (refine decide_eq_true ?_; first | exact Int64.not_lt.mp hc | exact Int64.not_le.mp hc)
    rw [hq] at kk
    exact kk H locs ls hP hS hL
theorem CJ.ine (hO : Ok Γ cc own nL h sa) {f g : EI} {off : Int} {tgt : Nat} (hf : Ex Γ .int d pc p1 f) (hg : Ex Γ .int (d + 1) p1 p2 g) (hd : decode cc p2 = .ok (.if_icmp .ne off, 3)) (ht : (p2 : Int) + off = (tgt : Int)) : CJ Γ d pc tgt (p2 + 3) (qI p_ne f g) := by
  intro L G b G' e st hw kk
  obtain ⟨r, e1, e2⟩ := Option.bind_eq_some_iff.mp e
  obtain ⟨q, e3, e4⟩ := Option.bind_eq_some_iff.mp e2
  cases e4
  refine hf L G r.1 r.2 e1 st hw (hg L r.2 q.1 q.2 e3 (.int r.1 :: st) (wdI hw) ?_)
  clear e1 e3 e e2 hf hg
  obtain ⟨p, l, e, R, s, m, args, below, meth, c, Q, n', D, A, sa', sv, ck, sk⟩ := Γ
  obtain ⟨⟨hx, hb, hml, hown, hts⟩, rfl, hK, hX, hR, hC, rfl⟩ := hO
  intro H locs ls hP hS hL
  refine lv_icmp_ne hx hb hd ht (fun hc => ?_) (fun hc => ?_)
  · have hq : p_ne r.1 q.1 = true := by exact decide_eq_true hc
    rw [hq] at kk
    exact kk H locs ls hP hS hL
  · have hq : p_ne r.1 q.1 = false := by first | exact decide_eq_false hc | exact decide_eq_false (by simpa using hc)
    rw [hq] at kk
    exact kk H locs ls hP hS hL
theorem CJ.zne (hO : Ok Γ cc own nL h sa) {f : EI} {off : Int} {tgt : Nat} (hf : Ex Γ .int d pc p1 f) (hd : decode cc p1 = .ok (.ifCond .ne off, 3)) (ht : (p1 : Int) + off = (tgt : Int)) : CJ Γ d pc tgt (p1 + 3) (qZ z_ne f) := by
  intro L G b G' e st hw kk
  obtain ⟨r, e1, e2⟩ := Option.bind_eq_some_iff.mp e
  cases e2
  refine hf L G r.1 r.2 e1 st hw ?_
  clear e1 e hf
  obtain ⟨p, l, e, R, s, m, args, below, meth, c, Q, n', D, A, sa', sv, ck, sk⟩ := Γ
  obtain ⟨⟨hx, hb, hml, hown, hts⟩, rfl, hK, hX, hR, hC, rfl⟩ := hO
  intro H locs ls hP hS hL
  refine lv_if_ne hx hb hd ht (fun hc => ?_) (fun hc => ?_)
  · have hq : z_ne r.1 = true := by exact decide_eq_true hc
    rw [hq] at kk
    exact kk H locs ls hP hS hL
  · have hq : z_ne r.1 = false := by first | exact decide_eq_false hc | exact decide_eq_false (by simpa using hc)
    rw [hq] at kk
    exact kk H locs ls hP hS hL
theorem CJ.jne (hO : Ok Γ cc own nL h sa) {f g : EJ} {off : Int} {tgt : Nat} (hf : Ex Γ .long d pc p1 f) (hg : Ex Γ .long (d + 2) p1 p2 g) (hc : decode cc p2 = .ok (.lcmp, 1)) (hd : decode cc (p2 + 1) = .ok (.ifCond .ne off, 3)) (ht : ((p2 + 1 : Nat) : Int) + off = (tgt : Int)) : CJ Γ d pc tgt (p2 + 4) (qJ r_ne f g) := by
  intro L G b G' e st hw kk
  obtain ⟨r, e1, e2⟩ := Option.bind_eq_some_iff.mp e
  obtain ⟨q, e3, e4⟩ := Option.bind_eq_some_iff.mp e2
  cases e4
  refine hf L G r.1 r.2 e1 st hw (hg L r.2 q.1 q.2 e3 (.long r.1 :: st) (wdJ hw) ?_)
  clear e1 e3 e e2 hf hg
  obtain ⟨p, l, e, R, s, m, args, below, meth, c, Q, n', D, A, sa', sv, ck, sk⟩ := Γ
  obtain ⟨⟨hx, hb, hml, hown, hts⟩, rfl, hK, hX, hR, hC, rfl⟩ := hO
  intro H locs ls hP hS hL
  refine W.lcmp hx hb hc (lv_if_ne hx hb hd ht (fun hc => ?_) (fun hc => ?_))
  · rw [lg_cmp_eq] at hc
    have hq : r_ne r.1 q.1 = true := by exact decide_eq_true hc
    rw [hq] at kk
    exact kk H locs ls hP hS hL
  · rw [lg_cmp_eq] at hc
    have hq : r_ne r.1 q.1 = false := by first | exact decide_eq_false hc | exact decide_eq_false (by simpa using hc)
    rw [hq] at kk
    exact kk H locs ls hP hS hL
theorem CJ.inne (hO : Ok Γ cc own nL h sa) {f g : EI} {off : Int} {tgt : Nat} (hf : Ex Γ .int d pc p1 f) (hg : Ex Γ .int (d + 1) p1 p2 g) (hd : decode cc p2 = .ok (.if_icmp .eq off, 3)) (ht : (p2 : Int) + off = (tgt : Int)) : CJ Γ d pc (p2 + 3) tgt (qI p_ne f g) := by
  intro L G b G' e st hw kk
  obtain ⟨r, e1, e2⟩ := Option.bind_eq_some_iff.mp e
  obtain ⟨q, e3, e4⟩ := Option.bind_eq_some_iff.mp e2
  cases e4
  refine hf L G r.1 r.2 e1 st hw (hg L r.2 q.1 q.2 e3 (.int r.1 :: st) (wdI hw) ?_)
  clear e1 e3 e e2 hf hg
  obtain ⟨p, l, e, R, s, m, args, below, meth, c, Q, n', D, A, sa', sv, ck, sk⟩ := Γ
  obtain ⟨⟨hx, hb, hml, hown, hts⟩, rfl, hK, hX, hR, hC, rfl⟩ := hO
  intro H locs ls hP hS hL
  refine lv_icmp_eq hx hb hd ht (fun hc => ?_) (fun hc => ?_)
  · have hq : p_ne r.1 q.1 = false := by simp only [p_ne]; first | exact decide_eq_false (by simpa using hc) | (simp only [Int32.not_lt, Int32.not_le] at *; simpa using hc) | (refine decide_eq_false fun z => ?_; first | exact Int32.not_lt.mpr hc z | exact Int32.not_le.mpr hc z)
    rw [hq] at kk
    exact kk H locs ls hP hS hL
  · have hq : p_ne r.1 q.1 = true := by simp only [p_ne]; first | exact decide_eq_true (by simpa using hc) | (refine decide_eq_true ?_; first | exact Int32.not_lt.mp hc | exact Int32.not_le.mp hc)
    rw [hq] at kk
    exact kk H locs ls hP hS hL
theorem CJ.znne (hO : Ok Γ cc own nL h sa) {f : EI} {off : Int} {tgt : Nat} (hf : Ex Γ .int d pc p1 f) (hd : decode cc p1 = .ok (.ifCond .eq off, 3)) (ht : (p1 : Int) + off = (tgt : Int)) : CJ Γ d pc (p1 + 3) tgt (qZ z_ne f) := by
  intro L G b G' e st hw kk
  obtain ⟨r, e1, e2⟩ := Option.bind_eq_some_iff.mp e
  cases e2
  refine hf L G r.1 r.2 e1 st hw ?_
  clear e1 e hf
  obtain ⟨p, l, e, R, s, m, args, below, meth, c, Q, n', D, A, sa', sv, ck, sk⟩ := Γ
  obtain ⟨⟨hx, hb, hml, hown, hts⟩, rfl, hK, hX, hR, hC, rfl⟩ := hO
  intro H locs ls hP hS hL
  refine lv_if_eq hx hb hd ht (fun hc => ?_) (fun hc => ?_)
  · have hq : z_ne r.1 = false := by simp only [z_ne]; first | exact decide_eq_false (by simpa using hc) | (refine decide_eq_false fun z => ?_; first | exact Int32.not_lt.mpr hc z | exact Int32.not_le.mpr hc z)
    rw [hq] at kk
    exact kk H locs ls hP hS hL
  · have hq : z_ne r.1 = true := by simp only [z_ne]; first | exact decide_eq_true (by simpa using hc) | (refine decide_eq_true ?_; first | exact Int32.not_lt.mp hc | exact Int32.not_le.mp hc)
    rw [hq] at kk
    exact kk H locs ls hP hS hL
theorem CJ.jnne (hO : Ok Γ cc own nL h sa) {f g : EJ} {off : Int} {tgt : Nat} (hf : Ex Γ .long d pc p1 f) (hg : Ex Γ .long (d + 2) p1 p2 g) (hc : decode cc p2 = .ok (.lcmp, 1)) (hd : decode cc (p2 + 1) = .ok (.ifCond .eq off, 3)) (ht : ((p2 + 1 : Nat) : Int) + off = (tgt : Int)) : CJ Γ d pc (p2 + 4) tgt (qJ r_ne f g) := by
  intro L G b G' e st hw kk
  obtain ⟨r, e1, e2⟩ := Option.bind_eq_some_iff.mp e
  obtain ⟨q, e3, e4⟩ := Option.bind_eq_some_iff.mp e2
  cases e4
  refine hf L G r.1 r.2 e1 st hw (hg L r.2 q.1 q.2 e3 (.long r.1 :: st) (wdJ hw) ?_)
  clear e1 e3 e e2 hf hg
  obtain ⟨p, l, e, R, s, m, args, below, meth, c, Q, n', D, A, sa', sv, ck, sk⟩ := Γ
  obtain ⟨⟨hx, hb, hml, hown, hts⟩, rfl, hK, hX, hR, hC, rfl⟩ := hO
  intro H locs ls hP hS hL
  refine W.lcmp hx hb hc (lv_if_eq hx hb hd ht (fun hc => ?_) (fun hc => ?_))
  · rw [lg_cmp_eq] at hc
    have hq : r_ne r.1 q.1 = false := by simp only [r_ne]; first | exact decide_eq_false (by simpa using hc) | (refine decide_eq_false fun z => ?_; first | exact Int64.not_lt.mpr hc z | exact Int64.not_le.mpr hc z)
    rw [hq] at kk
    exact kk H locs ls hP hS hL
  · rw [lg_cmp_eq] at hc
    have hq : r_ne r.1 q.1 = true := by simp only [r_ne]; first | exact decide_eq_true (by simpa using hc) | (refine decide_eq_true ?_; first | exact Int64.not_lt.mp hc | exact Int64.not_le.mp hc)
    rw [hq] at kk
    exact kk H locs ls hP hS hL
theorem CJ.ilt (hO : Ok Γ cc own nL h sa) {f g : EI} {off : Int} {tgt : Nat} (hf : Ex Γ .int d pc p1 f) (hg : Ex Γ .int (d + 1) p1 p2 g) (hd : decode cc p2 = .ok (.if_icmp .lt off, 3)) (ht : (p2 : Int) + off = (tgt : Int)) : CJ Γ d pc tgt (p2 + 3) (qI p_lt f g) := by
  intro L G b G' e st hw kk
  obtain ⟨r, e1, e2⟩ := Option.bind_eq_some_iff.mp e
  obtain ⟨q, e3, e4⟩ := Option.bind_eq_some_iff.mp e2
  cases e4
  refine hf L G r.1 r.2 e1 st hw (hg L r.2 q.1 q.2 e3 (.int r.1 :: st) (wdI hw) ?_)
  clear e1 e3 e e2 hf hg
  obtain ⟨p, l, e, R, s, m, args, below, meth, c, Q, n', D, A, sa', sv, ck, sk⟩ := Γ
  obtain ⟨⟨hx, hb, hml, hown, hts⟩, rfl, hK, hX, hR, hC, rfl⟩ := hO
  intro H locs ls hP hS hL
  refine lv_icmp_lt hx hb hd ht (fun hc => ?_) (fun hc => ?_)
  · have hq : p_lt r.1 q.1 = true := by exact decide_eq_true hc
    rw [hq] at kk
    exact kk H locs ls hP hS hL
  · have hq : p_lt r.1 q.1 = false := by first | exact decide_eq_false hc | exact decide_eq_false (by simpa using hc)
    rw [hq] at kk
    exact kk H locs ls hP hS hL
theorem CJ.zlt (hO : Ok Γ cc own nL h sa) {f : EI} {off : Int} {tgt : Nat} (hf : Ex Γ .int d pc p1 f) (hd : decode cc p1 = .ok (.ifCond .lt off, 3)) (ht : (p1 : Int) + off = (tgt : Int)) : CJ Γ d pc tgt (p1 + 3) (qZ z_lt f) := by
  intro L G b G' e st hw kk
  obtain ⟨r, e1, e2⟩ := Option.bind_eq_some_iff.mp e
  cases e2
  refine hf L G r.1 r.2 e1 st hw ?_
  clear e1 e hf
  obtain ⟨p, l, e, R, s, m, args, below, meth, c, Q, n', D, A, sa', sv, ck, sk⟩ := Γ
  obtain ⟨⟨hx, hb, hml, hown, hts⟩, rfl, hK, hX, hR, hC, rfl⟩ := hO
  intro H locs ls hP hS hL
  refine lv_if_lt hx hb hd ht (fun hc => ?_) (fun hc => ?_)
  · have hq : z_lt r.1 = true := by exact decide_eq_true hc
    rw [hq] at kk
    exact kk H locs ls hP hS hL
  · have hq : z_lt r.1 = false := by first | exact decide_eq_false hc | exact decide_eq_false (by simpa using hc)
    rw [hq] at kk
    exact kk H locs ls hP hS hL
theorem CJ.jlt (hO : Ok Γ cc own nL h sa) {f g : EJ} {off : Int} {tgt : Nat} (hf : Ex Γ .long d pc p1 f) (hg : Ex Γ .long (d + 2) p1 p2 g) (hc : decode cc p2 = .ok (.lcmp, 1)) (hd : decode cc (p2 + 1) = .ok (.ifCond .lt off, 3)) (ht : ((p2 + 1 : Nat) : Int) + off = (tgt : Int)) : CJ Γ d pc tgt (p2 + 4) (qJ r_lt f g) := by
  intro L G b G' e st hw kk
  obtain ⟨r, e1, e2⟩ := Option.bind_eq_some_iff.mp e
  obtain ⟨q, e3, e4⟩ := Option.bind_eq_some_iff.mp e2
  cases e4
  refine hf L G r.1 r.2 e1 st hw (hg L r.2 q.1 q.2 e3 (.long r.1 :: st) (wdJ hw) ?_)
  clear e1 e3 e e2 hf hg
  obtain ⟨p, l, e, R, s, m, args, below, meth, c, Q, n', D, A, sa', sv, ck, sk⟩ := Γ
  obtain ⟨⟨hx, hb, hml, hown, hts⟩, rfl, hK, hX, hR, hC, rfl⟩ := hO
  intro H locs ls hP hS hL
  refine W.lcmp hx hb hc (lv_if_lt hx hb hd ht (fun hc => ?_) (fun hc => ?_))
  · rw [lg_cmp_lt] at hc
    have hq : r_lt r.1 q.1 = true := by exact decide_eq_true hc
    rw [hq] at kk
    exact kk H locs ls hP hS hL
  · rw [lg_cmp_lt] at hc
    have hq : r_lt r.1 q.1 = false := by first | exact decide_eq_false hc | exact decide_eq_false (by simpa using hc)
    rw [hq] at kk
    exact kk H locs ls hP hS hL
theorem CJ.inlt (hO : Ok Γ cc own nL h sa) {f g : EI} {off : Int} {tgt : Nat} (hf : Ex Γ .int d pc p1 f) (hg : Ex Γ .int (d + 1) p1 p2 g) (hd : decode cc p2 = .ok (.if_icmp .ge off, 3)) (ht : (p2 : Int) + off = (tgt : Int)) : CJ Γ d pc (p2 + 3) tgt (qI p_lt f g) := by
  intro L G b G' e st hw kk
  obtain ⟨r, e1, e2⟩ := Option.bind_eq_some_iff.mp e
  obtain ⟨q, e3, e4⟩ := Option.bind_eq_some_iff.mp e2
  cases e4
  refine hf L G r.1 r.2 e1 st hw (hg L r.2 q.1 q.2 e3 (.int r.1 :: st) (wdI hw) ?_)
  clear e1 e3 e e2 hf hg
  obtain ⟨p, l, e, R, s, m, args, below, meth, c, Q, n', D, A, sa', sv, ck, sk⟩ := Γ
  obtain ⟨⟨hx, hb, hml, hown, hts⟩, rfl, hK, hX, hR, hC, rfl⟩ := hO
  intro H locs ls hP hS hL
  refine lv_icmp_ge hx hb hd ht (fun hc => ?_) (fun hc => ?_)
  · have hq : p_lt r.1 q.1 = false := by simp only [p_lt]; first | exact decide_eq_false (by simpa using hc) | (simp only [Int32.not_lt, Int32.not_le] at *; simpa using hc) | (refine decide_eq_false fun z => ?_; first | exact Int32.not_lt.mpr hc z | exact Int32.not_le.mpr hc z)
    rw [hq] at kk
    exact kk H locs ls hP hS hL
  · have hq : p_lt r.1 q.1 = true := by simp only [p_lt]; first | exact decide_eq_true (by simpa using hc) | (refine decide_eq_true ?_; first | exact Int32.not_lt.mp hc | exact Int32.not_le.mp hc)
    rw [hq] at kk
    exact kk H locs ls hP hS hL
theorem CJ.znlt (hO : Ok Γ cc own nL h sa) {f : EI} {off : Int} {tgt : Nat} (hf : Ex Γ .int d pc p1 f) (hd : decode cc p1 = .ok (.ifCond .ge off, 3)) (ht : (p1 : Int) + off = (tgt : Int)) : CJ Γ d pc (p1 + 3) tgt (qZ z_lt f) := by
  intro L G b G' e st hw kk
  obtain ⟨r, e1, e2⟩ := Option.bind_eq_some_iff.mp e
  cases e2
  refine hf L G r.1 r.2 e1 st hw ?_
  clear e1 e hf
  obtain ⟨p, l, e, R, s, m, args, below, meth, c, Q, n', D, A, sa', sv, ck, sk⟩ := Γ
  obtain ⟨⟨hx, hb, hml, hown, hts⟩, rfl, hK, hX, hR, hC, rfl⟩ := hO
  intro H locs ls hP hS hL
  refine lv_if_ge hx hb hd ht (fun hc => ?_) (fun hc => ?_)
  · have hq : z_lt r.1 = false := by simp only [z_lt]; first | exact decide_eq_false (by simpa using hc) | (refine decide_eq_false fun z => ?_; first | exact Int32.not_lt.mpr hc z | exact Int32.not_le.mpr hc z)
    rw [hq] at kk
    exact kk H locs ls hP hS hL
  · have hq : z_lt r.1 = true := by simp only [z_lt]; first | exact decide_eq_true (by simpa using hc) | (refine decide_eq_true ?_; first | exact Int32.not_lt.mp hc | exact Int32.not_le.mp hc)
    rw [hq] at kk
    exact kk H locs ls hP hS hL
theorem CJ.jnlt (hO : Ok Γ cc own nL h sa) {f g : EJ} {off : Int} {tgt : Nat} (hf : Ex Γ .long d pc p1 f) (hg : Ex Γ .long (d + 2) p1 p2 g) (hc : decode cc p2 = .ok (.lcmp, 1)) (hd : decode cc (p2 + 1) = .ok (.ifCond .ge off, 3)) (ht : ((p2 + 1 : Nat) : Int) + off = (tgt : Int)) : CJ Γ d pc (p2 + 4) tgt (qJ r_lt f g) := by
  intro L G b G' e st hw kk
  obtain ⟨r, e1, e2⟩ := Option.bind_eq_some_iff.mp e
  obtain ⟨q, e3, e4⟩ := Option.bind_eq_some_iff.mp e2
  cases e4
  refine hf L G r.1 r.2 e1 st hw (hg L r.2 q.1 q.2 e3 (.long r.1 :: st) (wdJ hw) ?_)
  clear e1 e3 e e2 hf hg
  obtain ⟨p, l, e, R, s, m, args, below, meth, c, Q, n', D, A, sa', sv, ck, sk⟩ := Γ
  obtain ⟨⟨hx, hb, hml, hown, hts⟩, rfl, hK, hX, hR, hC, rfl⟩ := hO
  intro H locs ls hP hS hL
  refine W.lcmp hx hb hc (lv_if_ge hx hb hd ht (fun hc => ?_) (fun hc => ?_))
  · rw [lg_cmp_ge] at hc
    have hq : r_lt r.1 q.1 = false := by simp only [r_lt]; first | exact decide_eq_false (by simpa using hc) | (refine decide_eq_false fun z => ?_; first | exact Int64.not_lt.mpr hc z | exact Int64.not_le.mpr hc z)
    rw [hq] at kk
    exact kk H locs ls hP hS hL
  · rw [lg_cmp_ge] at hc
    have hq : r_lt r.1 q.1 = true := by simp only [r_lt]; first | exact decide_eq_true (by simpa using hc) | (refine decide_eq_true ?_; first | exact Int64.not_lt.mp hc | exact Int64.not_le.mp hc)
    rw [hq] at kk
    exact kk H locs ls hP hS hL
theorem CJ.ige (hO : Ok Γ cc own nL h sa) {f g : EI} {off : Int} {tgt : Nat} (hf : Ex Γ .int d pc p1 f) (hg : Ex Γ .int (d + 1) p1 p2 g) (hd : decode cc p2 = .ok (.if_icmp .ge off, 3)) (ht : (p2 : Int) + off = (tgt : Int)) : CJ Γ d pc tgt (p2 + 3) (qI p_ge f g) := by
  intro L G b G' e st hw kk
  obtain ⟨r, e1, e2⟩ := Option.bind_eq_some_iff.mp e
  obtain ⟨q, e3, e4⟩ := Option.bind_eq_some_iff.mp e2
  cases e4
  refine hf L G r.1 r.2 e1 st hw (hg L r.2 q.1 q.2 e3 (.int r.1 :: st) (wdI hw) ?_)
  clear e1 e3 e e2 hf hg
  obtain ⟨p, l, e, R, s, m, args, below, meth, c, Q, n', D, A, sa', sv, ck, sk⟩ := Γ
  obtain ⟨⟨hx, hb, hml, hown, hts⟩, rfl, hK, hX, hR, hC, rfl⟩ := hO
  intro H locs ls hP hS hL
  refine lv_icmp_ge hx hb hd ht (fun hc => ?_) (fun hc => ?_)
  · have hq : p_ge r.1 q.1 = true := by exact decide_eq_true hc
    rw [hq] at kk
    exact kk H locs ls hP hS hL
  · have hq : p_ge r.1 q.1 = false := by first | exact decide_eq_false hc | exact decide_eq_false (by simpa using hc)
    rw [hq] at kk
    exact kk H locs ls hP hS hL
theorem CJ.zge (hO : Ok Γ cc own nL h sa) {f : EI} {off : Int} {tgt : Nat} (hf : Ex Γ .int d pc p1 f) (hd : decode cc p1 = .ok (.ifCond .ge off, 3)) (ht : (p1 : Int) + off = (tgt : Int)) : CJ Γ d pc tgt (p1 + 3) (qZ z_ge f) := by
  intro L G b G' e st hw kk
  obtain ⟨r, e1, e2⟩ := Option.bind_eq_some_iff.mp e
  cases e2
  refine hf L G r.1 r.2 e1 st hw ?_
  clear e1 e hf
  obtain ⟨p, l, e, R, s, m, args, below, meth, c, Q, n', D, A, sa', sv, ck, sk⟩ := Γ
  obtain ⟨⟨hx, hb, hml, hown, hts⟩, rfl, hK, hX, hR, hC, rfl⟩ := hO
  intro H locs ls hP hS hL
  refine lv_if_ge hx hb hd ht (fun hc => ?_) (fun hc => ?_)
  · have hq : z_ge r.1 = true := by exact decide_eq_true hc
    rw [hq] at kk
    exact kk H locs ls hP hS hL
  · have hq : z_ge r.1 = false := by first | exact decide_eq_false hc | exact decide_eq_false (by simpa using hc)
    rw [hq] at kk
    exact kk H locs ls hP hS hL
theorem CJ.jge (hO : Ok Γ cc own nL h sa) {f g : EJ} {off : Int} {tgt : Nat} (hf : Ex Γ .long d pc p1 f) (hg : Ex Γ .long (d + 2) p1 p2 g) (hc : decode cc p2 = .ok (.lcmp, 1)) (hd : decode cc (p2 + 1) = .ok (.ifCond .ge off, 3)) (ht : ((p2 + 1 : Nat) : Int) + off = (tgt : Int)) : CJ Γ d pc tgt (p2 + 4) (qJ r_ge f g) := by
  intro L G b G' e st hw kk
  obtain ⟨r, e1, e2⟩ := Option.bind_eq_some_iff.mp e
  obtain ⟨q, e3, e4⟩ := Option.bind_eq_some_iff.mp e2
  cases e4
  refine hf L G r.1 r.2 e1 st hw (hg L r.2 q.1 q.2 e3 (.long r.1 :: st) (wdJ hw) ?_)
  clear e1 e3 e e2 hf hg
  obtain ⟨p, l, e, R, s, m, args, below, meth, c, Q, n', D, A, sa', sv, ck, sk⟩ := Γ
  obtain ⟨⟨hx, hb, hml, hown, hts⟩, rfl, hK, hX, hR, hC, rfl⟩ := hO
  intro H locs ls hP hS hL
  refine W.lcmp hx hb hc (lv_if_ge hx hb hd ht (fun hc => ?_) (fun hc => ?_))
  · rw [lg_cmp_ge] at hc
    have hq : r_ge r.1 q.1 = true := by exact decide_eq_true hc
    rw [hq] at kk
    exact kk H locs ls hP hS hL
  · rw [lg_cmp_ge] at hc
    have hq : r_ge r.1 q.1 = false := by first | exact decide_eq_false hc | exact decide_eq_false (by simpa using hc)
    rw [hq] at kk
    exact kk H locs ls hP hS hL
theorem CJ.inge (hO : Ok Γ cc own nL h sa) {f g : EI} {off : Int} {tgt : Nat} (hf : Ex Γ .int d pc p1 f) (hg : Ex Γ .int (d + 1) p1 p2 g) (hd : decode cc p2 = .ok (.if_icmp .lt off, 3)) (ht : (p2 : Int) + off = (tgt : Int)) : CJ Γ d pc (p2 + 3) tgt (qI p_ge f g) := by
  intro L G b G' e st hw kk
  obtain ⟨r, e1, e2⟩ := Option.bind_eq_some_iff.mp e
  obtain ⟨q, e3, e4⟩ := Option.bind_eq_some_iff.mp e2
  cases e4
  refine hf L G r.1 r.2 e1 st hw (hg L r.2 q.1 q.2 e3 (.int r.1 :: st) (wdI hw) ?_)
  clear e1 e3 e e2 hf hg
  obtain ⟨p, l, e, R, s, m, args, below, meth, c, Q, n', D, A, sa', sv, ck, sk⟩ := Γ
  obtain ⟨⟨hx, hb, hml, hown, hts⟩, rfl, hK, hX, hR, hC, rfl⟩ := hO
  intro H locs ls hP hS hL
  refine lv_icmp_lt hx hb hd ht (fun hc => ?_) (fun hc => ?_)
  · have hq : p_ge r.1 q.1 = false := by simp only [p_ge]; first | exact decide_eq_false (by simpa using hc) | (simp only [Int32.not_lt, Int32.not_le] at *; simpa using hc) | (refine decide_eq_false fun z => ?_; first | exact Int32.not_lt.mpr hc z | exact Int32.not_le.mpr hc z)
    rw [hq] at kk
    exact kk H locs ls hP hS hL
  · have hq : p_ge r.1 q.1 = true := by simp only [p_ge]; first | exact decide_eq_true (by simpa using hc) | (refine decide_eq_true ?_; first | exact Int32.not_lt.mp hc | exact Int32.not_le.mp hc)
    rw [hq] at kk
    exact kk H locs ls hP hS hL
theorem CJ.znge (hO : Ok Γ cc own nL h sa) {f : EI} {off : Int} {tgt : Nat} (hf : Ex Γ .int d pc p1 f) (hd : decode cc p1 = .ok (.ifCond .lt off, 3)) (ht : (p1 : Int) + off = (tgt : Int)) : CJ Γ d pc (p1 + 3) tgt (qZ z_ge f) := by
  intro L G b G' e st hw kk
  obtain ⟨r, e1, e2⟩ := Option.bind_eq_some_iff.mp e
  cases e2
  refine hf L G r.1 r.2 e1 st hw ?_
  clear e1 e hf
  obtain ⟨p, l, e, R, s, m, args, below, meth, c, Q, n', D, A, sa', sv, ck, sk⟩ := Γ
  obtain ⟨⟨hx, hb, hml, hown, hts⟩, rfl, hK, hX, hR, hC, rfl⟩ := hO
  intro H locs ls hP hS hL
  refine lv_if_lt hx hb hd ht (fun hc => ?_) (fun hc => ?_)
  · have hq : z_ge r.1 = false := by simp only [z_ge]; first | exact decide_eq_false (by simpa using hc) | (refine decide_eq_false fun z => ?_; first | exact Int32.not_lt.mpr hc z | exact Int32.not_le.mpr hc z)
    rw [hq] at kk
    exact kk H locs ls hP hS hL
  · have hq : z_ge r.1 = true := by simp only [z_ge]; first | exact decide_eq_true (by simpa using hc) | (refine decide_eq_true ?_; first | exact Int32.not_lt.mp hc | exact Int32.not_le.mp hc)
    rw [hq] at kk
    exact kk H locs ls hP hS hL
theorem CJ.jnge (hO : Ok Γ cc own nL h sa) {f g : EJ} {off : Int} {tgt : Nat} (hf : Ex Γ .long d pc p1 f) (hg : Ex Γ .long (d + 2) p1 p2 g) (hc : decode cc p2 = .ok (.lcmp, 1)) (hd : decode cc (p2 + 1) = .ok (.ifCond .lt off, 3)) (ht : ((p2 + 1 : Nat) : Int) + off = (tgt : Int)) : CJ Γ d pc (p2 + 4) tgt (qJ r_ge f g) := by
  intro L G b G' e st hw kk
  obtain ⟨r, e1, e2⟩ := Option.bind_eq_some_iff.mp e
  obtain ⟨q, e3, e4⟩ := Option.bind_eq_some_iff.mp e2
  cases e4
  refine hf L G r.1 r.2 e1 st hw (hg L r.2 q.1 q.2 e3 (.long r.1 :: st) (wdJ hw) ?_)
  clear e1 e3 e e2 hf hg
  obtain ⟨p, l, e, R, s, m, args, below, meth, c, Q, n', D, A, sa', sv, ck, sk⟩ := Γ
  obtain ⟨⟨hx, hb, hml, hown, hts⟩, rfl, hK, hX, hR, hC, rfl⟩ := hO
  intro H locs ls hP hS hL
  refine W.lcmp hx hb hc (lv_if_lt hx hb hd ht (fun hc => ?_) (fun hc => ?_))
  · rw [lg_cmp_lt] at hc
    have hq : r_ge r.1 q.1 = false := by simp only [r_ge]; first | exact decide_eq_false (by simpa using hc) | (refine decide_eq_false fun z => ?_; first | exact Int64.not_lt.mpr hc z | exact Int64.not_le.mpr hc z)
    rw [hq] at kk
    exact kk H locs ls hP hS hL
  · rw [lg_cmp_lt] at hc
    have hq : r_ge r.1 q.1 = true := by simp only [r_ge]; first | exact decide_eq_true (by simpa using hc) | (refine decide_eq_true ?_; first | exact Int64.not_lt.mp hc | exact Int64.not_le.mp hc)
    rw [hq] at kk
    exact kk H locs ls hP hS hL
theorem CJ.igt (hO : Ok Γ cc own nL h sa) {f g : EI} {off : Int} {tgt : Nat} (hf : Ex Γ .int d pc p1 f) (hg : Ex Γ .int (d + 1) p1 p2 g) (hd : decode cc p2 = .ok (.if_icmp .gt off, 3)) (ht : (p2 : Int) + off = (tgt : Int)) : CJ Γ d pc tgt (p2 + 3) (qI p_gt f g) := by
  intro L G b G' e st hw kk
  obtain ⟨r, e1, e2⟩ := Option.bind_eq_some_iff.mp e
  obtain ⟨q, e3, e4⟩ := Option.bind_eq_some_iff.mp e2
  cases e4
  refine hf L G r.1 r.2 e1 st hw (hg L r.2 q.1 q.2 e3 (.int r.1 :: st) (wdI hw) ?_)
  clear e1 e3 e e2 hf hg
  obtain ⟨p, l, e, R, s, m, args, below, meth, c, Q, n', D, A, sa', sv, ck, sk⟩ := Γ
  obtain ⟨⟨hx, hb, hml, hown, hts⟩, rfl, hK, hX, hR, hC, rfl⟩ := hO
  intro H locs ls hP hS hL
  refine lv_icmp_gt hx hb hd ht (fun hc => ?_) (fun hc => ?_)
  · have hq : p_gt r.1 q.1 = true := by exact decide_eq_true hc
    rw [hq] at kk
    exact kk H locs ls hP hS hL
  · have hq : p_gt r.1 q.1 = false := by first | exact decide_eq_false hc | exact decide_eq_false (by simpa using hc)
    rw [hq] at kk
    exact kk H locs ls hP hS hL
theorem CJ.zgt (hO : Ok Γ cc own nL h sa) {f : EI} {off : Int} {tgt : Nat} (hf : Ex Γ .int d pc p1 f) (hd : decode cc p1 = .ok (.ifCond .gt off, 3)) (ht : (p1 : Int) + off = (tgt : Int)) : CJ Γ d pc tgt (p1 + 3) (qZ z_gt f) := by
  intro L G b G' e st hw kk
  obtain ⟨r, e1, e2⟩ := Option.bind_eq_some_iff.mp e
  cases e2
  refine hf L G r.1 r.2 e1 st hw ?_
  clear e1 e hf
  obtain ⟨p, l, e, R, s, m, args, below, meth, c, Q, n', D, A, sa', sv, ck, sk⟩ := Γ
  obtain ⟨⟨hx, hb, hml, hown, hts⟩, rfl, hK, hX, hR, hC, rfl⟩ := hO
  intro H locs ls hP hS hL
  refine lv_if_gt hx hb hd ht (fun hc => ?_) (fun hc => ?_)
  · have hq : z_gt r.1 = true := by exact decide_eq_true hc
    rw [hq] at kk
    exact kk H locs ls hP hS hL
  · have hq : z_gt r.1 = false := by first | exact decide_eq_false hc | exact decide_eq_false (by simpa using hc)
    rw [hq] at kk
    exact kk H locs ls hP hS hL
theorem CJ.jgt (hO : Ok Γ cc own nL h sa) {f g : EJ} {off : Int} {tgt : Nat} (hf : Ex Γ .long d pc p1 f) (hg : Ex Γ .long (d + 2) p1 p2 g) (hc : decode cc p2 = .ok (.lcmp, 1)) (hd : decode cc (p2 + 1) = .ok (.ifCond .gt off, 3)) (ht : ((p2 + 1 : Nat) : Int) + off = (tgt : Int)) : CJ Γ d pc tgt (p2 + 4) (qJ r_gt f g) := by
  intro L G b G' e st hw kk
  obtain ⟨r, e1, e2⟩ := Option.bind_eq_some_iff.mp e
  obtain ⟨q, e3, e4⟩ := Option.bind_eq_some_iff.mp e2
  cases e4
  refine hf L G r.1 r.2 e1 st hw (hg L r.2 q.1 q.2 e3 (.long r.1 :: st) (wdJ hw) ?_)
  clear e1 e3 e e2 hf hg
  obtain ⟨p, l, e, R, s, m, args, below, meth, c, Q, n', D, A, sa', sv, ck, sk⟩ := Γ
  obtain ⟨⟨hx, hb, hml, hown, hts⟩, rfl, hK, hX, hR, hC, rfl⟩ := hO
  intro H locs ls hP hS hL
  refine W.lcmp hx hb hc (lv_if_gt hx hb hd ht (fun hc => ?_) (fun hc => ?_))
  · rw [lg_cmp_gt] at hc
    have hq : r_gt r.1 q.1 = true := by exact decide_eq_true hc
    rw [hq] at kk
    exact kk H locs ls hP hS hL
  · rw [lg_cmp_gt] at hc
    have hq : r_gt r.1 q.1 = false := by first | exact decide_eq_false hc | exact decide_eq_false (by simpa using hc)
    rw [hq] at kk
    exact kk H locs ls hP hS hL
theorem CJ.ingt (hO : Ok Γ cc own nL h sa) {f g : EI} {off : Int} {tgt : Nat} (hf : Ex Γ .int d pc p1 f) (hg : Ex Γ .int (d + 1) p1 p2 g) (hd : decode cc p2 = .ok (.if_icmp .le off, 3)) (ht : (p2 : Int) + off = (tgt : Int)) : CJ Γ d pc (p2 + 3) tgt (qI p_gt f g) := by
  intro L G b G' e st hw kk
  obtain ⟨r, e1, e2⟩ := Option.bind_eq_some_iff.mp e
  obtain ⟨q, e3, e4⟩ := Option.bind_eq_some_iff.mp e2
  cases e4
  refine hf L G r.1 r.2 e1 st hw (hg L r.2 q.1 q.2 e3 (.int r.1 :: st) (wdI hw) ?_)
  clear e1 e3 e e2 hf hg
  obtain ⟨p, l, e, R, s, m, args, below, meth, c, Q, n', D, A, sa', sv, ck, sk⟩ := Γ
  obtain ⟨⟨hx, hb, hml, hown, hts⟩, rfl, hK, hX, hR, hC, rfl⟩ := hO
  intro H locs ls hP hS hL
  refine lv_icmp_le hx hb hd ht (fun hc => ?_) (fun hc => ?_)
  · have hq : p_gt r.1 q.1 = false := by simp only [p_gt]; first | exact decide_eq_false (by simpa using hc) | (simp only [Int32.not_lt, Int32.not_le] at *; simpa using hc) | (refine decide_eq_false fun z => ?_; first | exact Int32.not_lt.mpr hc z | exact Int32.not_le.mpr hc z)
    rw [hq] at kk
    exact kk H locs ls hP hS hL
  · have hq : p_gt r.1 q.1 = true := by simp only [p_gt]; first | exact decide_eq_true (by simpa using hc) | (refine decide_eq_true ?_; first | exact Int32.not_lt.mp hc | exact Int32.not_le.mp hc)
    rw [hq] at kk
    exact kk H locs ls hP hS hL
theorem CJ.zngt (hO : Ok Γ cc own nL h sa) {f : EI} {off : Int} {tgt : Nat} (hf : Ex Γ .int d pc p1 f) (hd : decode cc p1 = .ok (.ifCond .le off, 3)) (ht : (p1 : Int) + off = (tgt : Int)) : CJ Γ d pc (p1 + 3) tgt (qZ z_gt f) := by
  intro L G b G' e st hw kk
  obtain ⟨r, e1, e2⟩ := Option.bind_eq_some_iff.mp e
  cases e2
  refine hf L G r.1 r.2 e1 st hw ?_
  clear e1 e hf
  obtain ⟨p, l, e, R, s, m, args, below, meth, c, Q, n', D, A, sa', sv, ck, sk⟩ := Γ
  obtain ⟨⟨hx, hb, hml, hown, hts⟩, rfl, hK, hX, hR, hC, rfl⟩ := hO
  intro H locs ls hP hS hL
  refine lv_if_le hx hb hd ht (fun hc => ?_) (fun hc => ?_)
  · have hq : z_gt r.1 = false := by simp only [z_gt]; first | exact decide_eq_false (by simpa using hc) | (refine decide_eq_false fun z => ?_; first | exact Int32.not_lt.mpr hc z | exact Int32.not_le.mpr hc z)
    rw [hq] at kk
    exact kk H locs ls hP hS hL
  · have hq : z_gt r.1 = true := by simp only [z_gt]; first | exact decide_eq_true (by simpa using hc) | (refine decide_eq_true ?_; first | exact Int32.not_lt.mp hc | exact Int32.not_le.mp hc)
    rw [hq] at kk
    exact kk H locs ls hP hS hL
theorem CJ.jngt (hO : Ok Γ cc own nL h sa) {f g : EJ} {off : Int} {tgt : Nat} (hf : Ex Γ .long d pc p1 f) (hg : Ex Γ .long (d + 2) p1 p2 g) (hc : decode cc p2 = .ok (.lcmp, 1)) (hd : decode cc (p2 + 1) = .ok (.ifCond .le off, 3)) (ht : ((p2 + 1 : Nat) : Int) + off = (tgt : Int)) : CJ Γ d pc (p2 + 4) tgt (qJ r_gt f g) := by
  intro L G b G' e st hw kk
  obtain ⟨r, e1, e2⟩ := Option.bind_eq_some_iff.mp e
  obtain ⟨q, e3, e4⟩ := Option.bind_eq_some_iff.mp e2
  cases e4
  refine hf L G r.1 r.2 e1 st hw (hg L r.2 q.1 q.2 e3 (.long r.1 :: st) (wdJ hw) ?_)
  clear e1 e3 e e2 hf hg
  obtain ⟨p, l, e, R, s, m, args, below, meth, c, Q, n', D, A, sa', sv, ck, sk⟩ := Γ
  obtain ⟨⟨hx, hb, hml, hown, hts⟩, rfl, hK, hX, hR, hC, rfl⟩ := hO
  intro H locs ls hP hS hL
  refine W.lcmp hx hb hc (lv_if_le hx hb hd ht (fun hc => ?_) (fun hc => ?_))
  · rw [lg_cmp_le] at hc
    have hq : r_gt r.1 q.1 = false := by simp only [r_gt]; first | exact decide_eq_false (by simpa using hc) | (refine decide_eq_false fun z => ?_; first | exact Int64.not_lt.mpr hc z | exact Int64.not_le.mpr hc z)
    rw [hq] at kk
    exact kk H locs ls hP hS hL
  · rw [lg_cmp_le] at hc
    have hq : r_gt r.1 q.1 = true := by simp only [r_gt]; first | exact decide_eq_true (by simpa using hc) | (refine decide_eq_true ?_; first | exact Int64.not_lt.mp hc | exact Int64.not_le.mp hc)
    rw [hq] at kk
    exact kk H locs ls hP hS hL
theorem CJ.ile (hO : Ok Γ cc own nL h sa) {f g : EI} {off : Int} {tgt : Nat} (hf : Ex Γ .int d pc p1 f) (hg : Ex Γ .int (d + 1) p1 p2 g) (hd : decode cc p2 = .ok (.if_icmp .le off, 3)) (ht : (p2 : Int) + off = (tgt : Int)) : CJ Γ d pc tgt (p2 + 3) (qI p_le f g) := by
  intro L G b G' e st hw kk
  obtain ⟨r, e1, e2⟩ := Option.bind_eq_some_iff.mp e
  obtain ⟨q, e3, e4⟩ := Option.bind_eq_some_iff.mp e2
  cases e4
  refine hf L G r.1 r.2 e1 st hw (hg L r.2 q.1 q.2 e3 (.int r.1 :: st) (wdI hw) ?_)
  clear e1 e3 e e2 hf hg
  obtain ⟨p, l, e, R, s, m, args, below, meth, c, Q, n', D, A, sa', sv, ck, sk⟩ := Γ
  obtain ⟨⟨hx, hb, hml, hown, hts⟩, rfl, hK, hX, hR, hC, rfl⟩ := hO
  intro H locs ls hP hS hL
  refine lv_icmp_le hx hb hd ht (fun hc => ?_) (fun hc => ?_)
  · have hq : p_le r.1 q.1 = true := by exact decide_eq_true hc
    rw [hq] at kk
    exact kk H locs ls hP hS hL
  · have hq : p_le r.1 q.1 = false := by first | exact decide_eq_false hc | exact decide_eq_false (by simpa using hc)
    rw [hq] at kk
    exact kk H locs ls hP hS hL
theorem CJ.zle (hO : Ok Γ cc own nL h sa) {f : EI} {off : Int} {tgt : Nat} (hf : Ex Γ .int d pc p1 f) (hd : decode cc p1 = .ok (.ifCond .le off, 3)) (ht : (p1 : Int) + off = (tgt : Int)) : CJ Γ d pc tgt (p1 + 3) (qZ z_le f) := by
  intro L G b G' e st hw kk
  obtain ⟨r, e1, e2⟩ := Option.bind_eq_some_iff.mp e
  cases e2
  refine hf L G r.1 r.2 e1 st hw ?_
  clear e1 e hf
  obtain ⟨p, l, e, R, s, m, args, below, meth, c, Q, n', D, A, sa', sv, ck, sk⟩ := Γ
  obtain ⟨⟨hx, hb, hml, hown, hts⟩, rfl, hK, hX, hR, hC, rfl⟩ := hO
  intro H locs ls hP hS hL
  refine lv_if_le hx hb hd ht (fun hc => ?_) (fun hc => ?_)
  · have hq : z_le r.1 = true := by exact decide_eq_true hc
    rw [hq] at kk
    exact kk H locs ls hP hS hL
  · have hq : z_le r.1 = false := by first | exact decide_eq_false hc | exact decide_eq_false (by simpa using hc)
    rw [hq] at kk
    exact kk H locs ls hP hS hL
theorem CJ.jle (hO : Ok Γ cc own nL h sa) {f g : EJ} {off : Int} {tgt : Nat} (hf : Ex Γ .long d pc p1 f) (hg : Ex Γ .long (d + 2) p1 p2 g) (hc : decode cc p2 = .ok (.lcmp, 1)) (hd : decode cc (p2 + 1) = .ok (.ifCond .le off, 3)) (ht : ((p2 + 1 : Nat) : Int) + off = (tgt : Int)) : CJ Γ d pc tgt (p2 + 4) (qJ r_le f g) := by
  intro L G b G' e st hw kk
  obtain ⟨r, e1, e2⟩ := Option.bind_eq_some_iff.mp e
  obtain ⟨q, e3, e4⟩ := Option.bind_eq_some_iff.mp e2
  cases e4
  refine hf L G r.1 r.2 e1 st hw (hg L r.2 q.1 q.2 e3 (.long r.1 :: st) (wdJ hw) ?_)
  clear e1 e3 e e2 hf hg
  obtain ⟨p, l, e, R, s, m, args, below, meth, c, Q, n', D, A, sa', sv, ck, sk⟩ := Γ
  obtain ⟨⟨hx, hb, hml, hown, hts⟩, rfl, hK, hX, hR, hC, rfl⟩ := hO
  intro H locs ls hP hS hL
  refine W.lcmp hx hb hc (lv_if_le hx hb hd ht (fun hc => ?_) (fun hc => ?_))
  · rw [lg_cmp_le] at hc
    have hq : r_le r.1 q.1 = true := by exact decide_eq_true hc
    rw [hq] at kk
    exact kk H locs ls hP hS hL
  · rw [lg_cmp_le] at hc
    have hq : r_le r.1 q.1 = false := by first | exact decide_eq_false hc | exact decide_eq_false (by simpa using hc)
    rw [hq] at kk
    exact kk H locs ls hP hS hL
theorem CJ.inle (hO : Ok Γ cc own nL h sa) {f g : EI} {off : Int} {tgt : Nat} (hf : Ex Γ .int d pc p1 f) (hg : Ex Γ .int (d + 1) p1 p2 g) (hd : decode cc p2 = .ok (.if_icmp .gt off, 3)) (ht : (p2 : Int) + off = (tgt : Int)) : CJ Γ d pc (p2 + 3) tgt (qI p_le f g) := by
  intro L G b G' e st hw kk
  obtain ⟨r, e1, e2⟩ := Option.bind_eq_some_iff.mp e
  obtain ⟨q, e3, e4⟩ := Option.bind_eq_some_iff.mp e2
  cases e4
  refine hf L G r.1 r.2 e1 st hw (hg L r.2 q.1 q.2 e3 (.int r.1 :: st) (wdI hw) ?_)
  clear e1 e3 e e2 hf hg
  obtain ⟨p, l, e, R, s, m, args, below, meth, c, Q, n', D, A, sa', sv, ck, sk⟩ := Γ
  obtain ⟨⟨hx, hb, hml, hown, hts⟩, rfl, hK, hX, hR, hC, rfl⟩ := hO
  intro H locs ls hP hS hL
  refine lv_icmp_gt hx hb hd ht (fun hc => ?_) (fun hc => ?_)
  · have hq : p_le r.1 q.1 = false := by simp only [p_le]; first | exact decide_eq_false (by simpa using hc) | (simp only [Int32.not_lt, Int32.not_le] at *; simpa using hc) | (refine decide_eq_false fun z => ?_; first | exact Int32.not_lt.mpr hc z | exact Int32.not_le.mpr hc z)
    rw [hq] at kk
    exact kk H locs ls hP hS hL
  · have hq : p_le r.1 q.1 = true := by simp only [p_le]; first | exact decide_eq_true (by simpa using hc) | (refine decide_eq_true ?_; first | exact Int32.not_lt.mp hc | exact Int32.not_le.mp hc)
    rw [hq] at kk
    exact kk H locs ls hP hS hL
theorem CJ.znle (hO : Ok Γ cc own nL h sa) {f : EI} {off : Int} {tgt : Nat} (hf : Ex Γ .int d pc p1 f) (hd : decode cc p1 = .ok (.ifCond .gt off, 3)) (ht : (p1 : Int) + off = (tgt : Int)) : CJ Γ d pc (p1 + 3) tgt (qZ z_le f) := by
  intro L G b G' e st hw kk
  obtain ⟨r, e1, e2⟩ := Option.bind_eq_some_iff.mp e
  cases e2
  refine hf L G r.1 r.2 e1 st hw ?_
  clear e1 e hf
  obtain ⟨p, l, e, R, s, m, args, below, meth, c, Q, n', D, A, sa', sv, ck, sk⟩ := Γ
  obtain ⟨⟨hx, hb, hml, hown, hts⟩, rfl, hK, hX, hR, hC, rfl⟩ := hO
  intro H locs ls hP hS hL
  refine lv_if_gt hx hb hd ht (fun hc => ?_) (fun hc => ?_)
  · have hq : z_le r.1 = false := by simp only [z_le]; first | exact decide_eq_false (by simpa using hc) | (refine decide_eq_false fun z => ?_; first | exact Int32.not_lt.mpr hc z | exact Int32.not_le.mpr hc z)
    rw [hq] at kk
    exact kk H locs ls hP hS hL
  · have hq : z_le r.1 = true := by simp only [z_le]; first | exact decide_eq_true (by simpa using hc) | (refine decide_eq_true ?_; first | exact Int32.not_lt.mp hc | exact Int32.not_le.mp hc)
    rw [hq] at kk
    exact kk H locs ls hP hS hL
theorem CJ.jnle (hO : Ok Γ cc own nL h sa) {f g : EJ} {off : Int} {tgt : Nat} (hf : Ex Γ .long d pc p1 f) (hg : Ex Γ .long (d + 2) p1 p2 g) (hc : decode cc p2 = .ok (.lcmp, 1)) (hd : decode cc (p2 + 1) = .ok (.ifCond .gt off, 3)) (ht : ((p2 + 1 : Nat) : Int) + off = (tgt : Int)) : CJ Γ d pc (p2 + 4) tgt (qJ r_le f g) := by
  intro L G b G' e st hw kk
  obtain ⟨r, e1, e2⟩ := Option.bind_eq_some_iff.mp e
  obtain ⟨q, e3, e4⟩ := Option.bind_eq_some_iff.mp e2
  cases e4
  refine hf L G r.1 r.2 e1 st hw (hg L r.2 q.1 q.2 e3 (.long r.1 :: st) (wdJ hw) ?_)
  clear e1 e3 e e2 hf hg
  obtain ⟨p, l, e, R, s, m, args, below, meth, c, Q, n', D, A, sa', sv, ck, sk⟩ := Γ
  obtain ⟨⟨hx, hb, hml, hown, hts⟩, rfl, hK, hX, hR, hC, rfl⟩ := hO
  intro H locs ls hP hS hL
  refine W.lcmp hx hb hc (lv_if_gt hx hb hd ht (fun hc => ?_) (fun hc => ?_))
  · rw [lg_cmp_gt] at hc
    have hq : r_le r.1 q.1 = false := by simp only [r_le]; first | exact decide_eq_false (by simpa using hc) | (refine decide_eq_false fun z => ?_; first | exact Int64.not_lt.mpr hc z | exact Int64.not_le.mpr hc z)
    rw [hq] at kk
    exact kk H locs ls hP hS hL
  · rw [lg_cmp_gt] at hc
    have hq : r_le r.1 q.1 = true := by simp only [r_le]; first | exact decide_eq_true (by simpa using hc) | (refine decide_eq_true ?_; first | exact Int64.not_lt.mp hc | exact Int64.not_le.mp hc)
    rw [hq] at kk
    exact kk H locs ls hP hS hL
theorem CJ.and {f g : EB} {pm pt pf : Nat} (hf : CJ Γ d pc pm pf f) (hg : CJ Γ d pm pt pf g) : CJ Γ d pc pt pf (qAnd f g) := by
  intro L G b G' e st hw kk
  obtain ⟨r, e1, e2⟩ := Option.bind_eq_some_iff.mp e
  refine hf L G r.1 r.2 e1 st hw ?_
  cases hr : r.1 with
  | true =>
    rw [hr] at e2
    exact hg L r.2 b G' e2 st hw kk
  | false =>
    rw [hr] at e2
    cases e2
    exact kk
theorem CJ.or {f g : EB} {pm pt pf : Nat} (hf : CJ Γ d pc pt pm f) (hg : CJ Γ d pm pt pf g) : CJ Γ d pc pt pf (qOr f g) := by
  intro L G b G' e st hw kk
  obtain ⟨r, e1, e2⟩ := Option.bind_eq_some_iff.mp e
  refine hf L G r.1 r.2 e1 st hw ?_
  cases hr : r.1 with
  | true =>
    rw [hr] at e2
    cases e2
    exact kk
  | false =>
    rw [hr] at e2
    exact hg L r.2 b G' e2 st hw kk
theorem CJ.not {f : EB} {pt pf : Nat} (hf : CJ Γ d pc pf pt f) : CJ Γ d pc pt pf (qNot f) := by
  intro L G b G' e st hw kk
  obtain ⟨r, e1, e2⟩ := Option.bind_eq_some_iff.mp e
  cases e2
  refine hf L G r.1 r.2 e1 st hw ?_
  cases hr : r.1 <;> (rw [hr] at kk; exact kk)
/-- a jump behind an expression -/
theorem Ex.goto {α : Type} {val : α → Value} (hO : Ok Γ cc own nL h sa) {f : Lo → Hp → Option (α × Hp)} (hf : Ex Γ val d pc p1 f) {off : Int} (hd : decode cc p1 = .ok (.goto off, 3)) (ht : (p1 : Int) + off = (p2 : Int)) : Ex Γ val d pc p2 f := by
  intro L G x G' e st hw kk
  refine hf L G x G' e st hw ?_
  clear e hf
  obtain ⟨p, l, e, R, s, m, args, below, meth, c, Q, n', D, A, sa', sv, ck, sk⟩ := Γ
  obtain ⟨⟨hx, hb, hml, hown, hts⟩, rfl, hK, hX, hR, hC, rfl⟩ := hO
  intro H locs ls hP hS hL
  exact lv_goto hx hb hd ht (kk H locs ls hP hS hL)
theorem Ex.cond {α : Type} {val : α → Value} {c : EB} {f g : Lo → Hp → Option (α × Hp)} {pt pf : Nat} (hc : CJ Γ d pc pt pf c) (hf : Ex Γ val d pt p2 f) (hg : Ex Γ val d pf p2 g) : Ex Γ val d pc p2 (cI c f g) := by
  intro L G x G' e st hw kk
  obtain ⟨r, e1, e2⟩ := Option.bind_eq_some_iff.mp e
  refine hc L G r.1 r.2 e1 st hw ?_
  cases hr : r.1 with
  | true => rw [hr] at e2; exact hf L r.2 x G' e2 st hw kk
  | false => rw [hr] at e2; exact hg L r.2 x G' e2 st hw kk
theorem XS.nil : XS Γ d pc pc aNil := by
  intro L G vs G' e st hw kk
  cases e
  exact kk
theorem XS.cons {α : Type} {val : α → Value} (w : Nat) (hv : ∀ x, (val x).category ≤ w) {f : Lo → Hp → Option (α × Hp)} {g : EL} (hf : Ex Γ val d pc p1 f) (hg : XS Γ (d + w) p1 p2 g) : XS Γ d pc p2 (aCons val f g) := by
  intro L G vs G' e st hw kk
  obtain ⟨r, e1, e2⟩ := Option.bind_eq_some_iff.mp e
  obtain ⟨q, e3, e4⟩ := Option.bind_eq_some_iff.mp e2
  cases e4
  refine hf L G r.1 r.2 e1 st hw (hg L r.2 q.1 q.2 e3 (val r.1 :: st) (by have := hv r.1; simp only [wd, List.map_cons, List.sum_cons]; simp only [wd] at hw; omega) ?_)
  rw [List.reverse_cons, List.append_assoc] at kk
  exact kk
theorem XS.i {f : EI} {g : EL} (hf : Ex Γ .int d pc p1 f) (hg : XS Γ (d + 1) p1 p2 g) : XS Γ d pc p2 (aCons .int f g) := XS.cons 1 (fun x => by show 1 ≤ 1; exact Nat.le_refl 1) hf hg
theorem XS.a {f : EA} {g : EL} (hf : Ex Γ .ref d pc p1 f) (hg : XS Γ (d + 1) p1 p2 g) : XS Γ d pc p2 (aCons .ref f g) := XS.cons 1 (fun x => by show 1 ≤ 1; exact Nat.le_refl 1) hf hg
theorem XS.j {f : EJ} {g : EL} (hf : Ex Γ .long d pc p1 f) (hg : XS Γ (d + 2) p1 p2 g) : XS Γ d pc p2 (aCons .long f g) := XS.cons 2 (fun x => by show 2 ≤ 2; exact Nat.le_refl 2) hf hg
end Rules
