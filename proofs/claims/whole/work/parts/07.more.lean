/-! CORE 6: switches by a check, System.arraycopy, texts. -/
def swLab (ps : List (List Int32 × Nat)) : List Int32 := ps.flatMap fun q => q.1
theorem swPc_out : ∀ (ps : List (List Int32 × Nat)) (pd : Nat) (x : Int32), x ∉ swLab ps → swPc ps pd x = pd
  | [], _, _, _ => rfl
  | b :: t, pd, x, h => by
    have h1 : x ∉ b.1 := fun z => h (List.mem_flatMap.mpr ⟨b, List.mem_cons_self, z⟩)
    have h2 : x ∉ swLab t := fun z => by
      obtain ⟨q, q1, q2⟩ := List.mem_flatMap.mp z
      exact h (List.mem_flatMap.mpr ⟨q, List.mem_cons_of_mem _ q1, q2⟩)
    rw [swPc, if_neg h1]
    exact swPc_out t pd x h2
def swChk (dflt lo hi : Int) (offs : Array Int) (pc : Nat) (ps : List (List Int32 × Nat)) (pd : Nat) : Bool :=
  (swLab ps).all (fun l => decide ((pc : Int) + swOff dflt lo hi offs l.toInt = (swPc ps pd l : Int))) && decide ((pc : Int) + dflt = (pd : Int)) && (List.range offs.size).all (fun i => (swLab ps).contains (Int32.ofInt (lo + i)) || decide (offs[i]? = some dflt)) && decide (-2147483648 ≤ lo) && decide (hi ≤ 2147483647) && decide ((offs.size : Int) = hi - lo + 1)
theorem sw_table {offs : Array Int} (dflt lo hi : Int) (pc : Nat) (ps : List (List Int32 × Nat)) (pd : Nat) (h : swChk dflt lo hi offs pc ps pd = true) : ∀ x : Int32, (pc : Int) + swOff dflt lo hi offs x.toInt = (swPc ps pd x : Int) := by
  intro x
  unfold swChk at h
  simp only [Bool.and_eq_true, decide_eq_true_eq] at h
  obtain ⟨⟨⟨⟨⟨h1, h2⟩, h3⟩, h4⟩, h5⟩, h6⟩ := h
  by_cases hx : x ∈ swLab ps
  · exact of_decide_eq_true (List.all_eq_true.mp h1 x hx)
  · rw [swPc_out ps pd x hx, ← h2]
    congr 1
    unfold swOff
    split
    · rfl
    · rename_i hc
      have a1 : ¬ x.toInt < lo := fun z => hc (Or.inl z)
      have a2 : ¬ hi < x.toInt := fun z => hc (Or.inr z)
      have a3 : (x.toInt - lo).toNat < offs.size := by omega
      have := List.all_eq_true.mp h3 _ (List.mem_range.mpr a3)
      simp only [Bool.or_eq_true, decide_eq_true_eq] at this
      rcases this with q | q
      · exfalso
        apply hx
        have e : Int32.ofInt (lo + ((x.toInt - lo).toNat : Int)) = x := by
          rw [show lo + ((x.toInt - lo).toNat : Int) = x.toInt by omega]
          exact Int32.ofInt_toInt x
        rw [e] at q
        simpa using q
      · rw [q]
        rfl
def swChkL (dflt : Int) (l : List (Int × Int)) (pc : Nat) (ps : List (List Int32 × Nat)) (pd : Nat) : Bool :=
  (swLab ps).all (fun k => decide ((pc : Int) + Op.lookupswitch.offset l dflt k.toInt = (swPc ps pd k : Int))) && decide ((pc : Int) + dflt = (pd : Int)) && l.all (fun q => (swLab ps).contains (Int32.ofInt q.1))
theorem lk_out {l : List (Int × Int)} {dflt k : Int} (h : ∀ q ∈ l, q.1 ≠ k) : Op.lookupswitch.offset l dflt k = dflt := by
  induction l with
  | nil => rfl
  | cons a t ih =>
    obtain ⟨a1, a2⟩ := a
    rw [Op.lookupswitch.offset_cons, if_neg (h _ List.mem_cons_self)]
    exact ih fun q hq => h q (List.mem_cons_of_mem _ hq)
theorem sw_lookup {dflt : Int} {l : List (Int × Int)} (pc : Nat) (ps : List (List Int32 × Nat)) (pd : Nat) (h : swChkL dflt l pc ps pd = true) : ∀ x : Int32, (pc : Int) + Op.lookupswitch.offset l dflt x.toInt = (swPc ps pd x : Int) := by
  intro x
  unfold swChkL at h
  simp only [Bool.and_eq_true, decide_eq_true_eq] at h
  obtain ⟨⟨h1, h2⟩, h3⟩ := h
  by_cases hx : x ∈ swLab ps
  · exact of_decide_eq_true (List.all_eq_true.mp h1 x hx)
  · rw [swPc_out ps pd x hx, ← h2, lk_out]
    intro q hq e
    apply hx
    have := List.all_eq_true.mp h3 q hq
    rw [e, Int32.ofInt_toInt] at this
    simpa using this
/-- System.arraycopy of rows of ints -/
def cpyA (G : Hp) (a0 : Nat) (sp : Int32) (a1 : Nat) (dp n : Int32) : Option Hp := match G a0, G a1 with
  | some (.inr x), some (.inr y) => if x.1 = false ∧ y.1 = false ∧ ¬ sp < 0 ∧ ¬ dp < 0 ∧ ¬ n < 0 ∧ sp.toNatClampNeg + n.toNatClampNeg ≤ x.2.1 ∧ dp.toNatClampNeg + n.toNatClampNeg ≤ y.2.1 then some (hset G a1 (.inr (false, y.2.1, va_cpy x.2.2 y.2.2 sp.toNatClampNeg dp.toNatClampNeg n.toNatClampNeg))) else none
  | _, _ => none
def sCp (f : EA) (g : EI) (f2 : EA) (g2 e : EI) : Sm := fun L G => (f L G).bind fun r => (g L r.2).bind fun q => (f2 L q.2).bind fun r2 => (g2 L r2.2).bind fun q2 => (e L q2.2).bind fun t => (cpyA t.2 r.1 q.1 r2.1 q2.1 t.1).bind fun G => some (.inl 0, L, G)
section MRules
variable {Γ : Cx} {cc : ByteArray} {own : String} {nL h d pc p1 p2 bk ct : Nat} {sa : Nat → Nat}
theorem St.cp (hO : Ok Γ cc own nL h sa) (hh : 2 ≤ h) {f f2 : EA} {g g2 v : EI} {p3 p4 p5 : Nat} (hf : Ex Γ .ref 0 pc p1 f) (hg : Ex Γ .int 1 p1 p2 g) (hf2 : Ex Γ .ref 2 p2 p3 f2) (hg2 : Ex Γ .int 3 p3 p4 g2) (hv : Ex Γ .int 4 p4 p5 v) {i : Nat} (hd : decode cc p5 = .ok (.invokestatic i, 3)) (hl : Cond.methodLink own i arraycopyName ∈ lw_g) (hn : Cond.native arraycopyName ∈ lw_g) (hs : Cond.static arraycopyName ∈ lw_g) (hi : Cond.initialized "java/lang/System" ∈ lw_g) : St Γ cc pc (p5 + 3) bk ct (sCp f g f2 g2 v) := by
  intro L G o L' G' e kk
  obtain ⟨r, e1, e2⟩ := Option.bind_eq_some_iff.mp e
  obtain ⟨q, e3, e4⟩ := Option.bind_eq_some_iff.mp e2
  obtain ⟨r2, e5, e6⟩ := Option.bind_eq_some_iff.mp e4
  obtain ⟨q2, e7, e8⟩ := Option.bind_eq_some_iff.mp e6
  obtain ⟨t, e9, e10⟩ := Option.bind_eq_some_iff.mp e8
  obtain ⟨G1, e11, e12⟩ := Option.bind_eq_some_iff.mp e10
  cases e12
  refine hf L G r.1 r.2 e1 [] (Nat.le_refl 0) (hg L r.2 q.1 q.2 e3 [.ref r.1] (Nat.le_refl 1) (hf2 L q.2 r2.1 r2.2 e5 [.int q.1, .ref r.1] (Nat.le_refl 2) (hg2 L r2.2 q2.1 q2.2 e7 [.ref r2.1, .int q.1, .ref r.1] (Nat.le_refl 3) (hv L q2.2 t.1 t.2 e9 [.int q2.1, .ref r2.1, .int q.1, .ref r.1] (Nat.le_refl 4) ?_))))
  have kk : Wg Γ (p5 + 3) L [] G' := kk
  clear e1 e2 e3 e4 e5 e6 e7 e8 e9 e10 e hf hg hf2 hg2 hv
  generalize r.1 = a0, q.1 = sp, r2.1 = a, q2.1 = dp, t.1 = n, t.2 = G2 at *
  obtain ⟨p, l, ev, R, s, m, args, below, meth, c, Q, n', D, A, sa', sv, ck, sk⟩ := Γ
  obtain ⟨⟨hx, hb, hml, hown, hts⟩, rfl, hK, hX, hR, hC, rfl⟩ := hO
  intro H locs ls hP hS hL
  unfold cpyA at e11
  split at e11
  · rename_i x y hx0 hy0
    obtain ⟨z0, n0, F⟩ := x
    obtain ⟨z1, n1, F1⟩ := y
    dsimp only at e11
    split at e11
    · rename_i hcnd
      obtain ⟨rfl, rfl, h1, h2, h3, h4, h5⟩ := hcnd
      cases e11
      obtain ⟨hA0, c0, u1, u2, u3⟩ := hP _ _ hx0
      obtain ⟨hA1, c1, v1, v2, v3⟩ := hP _ _ hy0
      have hc0 : H[a0]? = some (vp_cell c0 (n0, .inl F)) := u1
      have hc1 : H[a]? = some (vp_cell c1 (n1, .inl F1)) := v1
      have nn : ∀ z : Int32, ¬ z < 0 → z.toInt = (z.toNatClampNeg : Int) := by
        intro z hz
        have hz0 : (0 : Int) ≤ z.toInt := by simpa using Int32.le_iff_toInt_le.mp (Int32.not_lt.mp hz)
        show z.toInt = ((z.toInt.toNat : Nat) : Int)
        omega
      intro T hT X
      obtain ⟨-, k0, hk0, cm0, hkk0⟩ := u2 n0 (fun j => .int (F j))
      obtain ⟨-, k1, hk1, cm1, hkk1⟩ := v2 n1 (fun j => .int (F1 j))
      obtain ⟨vm', X', step⟩ := X.arraycopy hx hown (hts _ hl) (hts _ hn) (hts _ hs) (hts _ hi) (src := a0) (dst := a) (cs := vp_cell c0 (n0, .inl F)) (cd := vp_cell c1 (n1, .inl F1)) (srcPos := sp) (destPos := dp) (n := n) (by rw [hT]; exact hc0) (by rw [hT]; exact hc1)
        (fun _ h => by cases h) (fun _ h => by cases h) (fun h => by cases h) (fun h => by cases h) hk0 hk1 hkk0 hkk1 (by simp [zTy, refKind]) h1 h2 h3
        (by rw [nn sp h1, nn n h3]; show ¬ _ > ((arrV c0 n0 (fun j => .int (F j))).slots.size : Int); rw [arrV_size]; omega)
        (by rw [nn dp h2, nn n h3]; show ¬ _ > ((arrV c1 n1 (fun j => .int (F1 j))).slots.size : Int); rw [arrV_size]; omega)
        (fun vm₁ _ i hi => by
          have e : (vp_cell c0 (n0, .inl F)).slots.getD (sp.toNatClampNeg + i) .null = .int (F (sp.toNatClampNeg + i)) := by
            show (arrV c0 n0 (fun j => .int (F j))).slots.getD _ _ = _
            rw [Array.getD_eq_getD_getElem?, arrV_read _ _ (by omega)]
            rfl
          refine ⟨?_, ?_⟩
          · rw [e]
            rfl
          · rw [e]
            exact trivial)
        (g := F0 m p5 ls [.int n, .int dp, .ref a, .int sp, .ref a0]) rfl (by rw [hml]; exact hL.1) (rest := []) rfl (by rw [hb]; exact hd) (by omega) (by
          have : nativeFrameWords "java/lang/System" "arraycopy" 5 ≤ 40 := by decide +kernel
          show 2 * 0 + 0 + _ ≤ _
          omega)
      have e1 : copied (vp_cell c0 (n0, .inl F)) (vp_cell c1 (n1, .inl F1)) sp dp n = vp_cell c1 (n1, .inl (va_cpy F F1 sp.toNatClampNeg dp.toNatClampNeg n.toNatClampNeg)) := va_copied (fun z => .int z) c0 c1 F F1 h4
      rw [e1] at X' step
      have hlt : a < H.size := (Array.getElem?_eq_some_iff.mp hc1).1
      have hheap : ((T.setVm vm').setCell a (vp_cell c1 (n1, .inl (va_cpy F F1 sp.toNatClampNeg dp.toNatClampNeg n.toNatClampNeg)))).heap = H.setIfInBounds a (vp_cell c1 (n1, .inl (va_cpy F F1 sp.toNatClampNeg dp.toNatClampNeg n.toNatClampNeg))) := by rw [← hT]; rfl
      have oq : ∀ q : Nat, q ≠ a → (H.setIfInBounds a (vp_cell c1 (n1, .inl (va_cpy F F1 sp.toNatClampNeg dp.toNatClampNeg n.toNatClampNeg))))[q]? = H[q]? := fun q hq => by simp [Array.getElem?_setIfInBounds, Ne.symm hq]
      obtain ⟨t, a1, b1⟩ := kk _ _ ls (hP.set hA1 (e := .inr (false, n1, va_cpy F F1 sp.toNatClampNeg dp.toNatClampNeg n.toNatClampNeg)) ⟨c1, (show (H.setIfInBounds a _)[a]? = some _ by simp [Array.getElem?_setIfInBounds, hlt]), v2, v3⟩ oq) ⟨by simp; exact hS.1, fun q g1 g2 => by
          rw [oq q (fun e => g2 (by rw [e]; exact hA1))]
          exact hS.2.1 q g1 g2, fun q hq => by
          rcases List.mem_append.mp hq with h | h
          · exact hS.2.2 q h
          · obtain ⟨z, -, hz⟩ := List.mem_map.mp h
            rw [← hz]
            exact hA1⟩ hL _ hheap X'
      exact ⟨t, step t a1, b1⟩
    · cases e11
  · cases e11
/-- texts -/
def tA (sa : Nat → Nat) (i : Nat) : EA := fun _ G => some (sa i, G)
def txO (sa : Nat → Nat) (a : Nat) : Option Nat := (List.range 17).find? (fun i => sa i == a)
def tN (sa : Nat → Nat) (f : EA) : EI := fun L G => (f L G).bind fun r => (txO sa r.1).bind fun i => some (Int32.ofNat (txtL.getD i 0), r.2)
def tC (sa : Nat → Nat) (f : EA) (g : EI) : EI := fun L G => (f L G).bind fun r => (g L r.2).bind fun q => (txO sa r.1).bind fun i => if 0 ≤ q.1.toInt ∧ q.1.toInt < (txtL.getD i 0 : Nat) then some ((txtB.getD i []).getD q.1.toNatClampNeg 0, q.2) else none
theorem Ex.text (hO : Ok Γ cc own nL h sa) {i k : Nat} {q : Nat × String × List Int32} (hd : decode cc pc = .ok (.ldc k, 2)) (hq : txtW[i]? = some q) (hk : q.1 = k := by rfl) (hown : own = RX6 := by rfl) : Ex Γ .ref d pc (pc + 2) (tA sa i) := by
  obtain ⟨p, l, ev, R, s, m, args, below, meth, c, Q, n', D, A, sa', sv, ck, sk⟩ := Γ
  obtain ⟨⟨hx, hb, hml, hown', hts⟩, rfl, hK, hX, hR, hC, rfl⟩ := hO
  intro L G x G' hf st hw kk H locs ls hP hS hL
  cases hf
  subst hk
  subst hown
  exact va_ldcS hx hb hown' (hX.2.2.1 i q hq) hd (kk H locs ls hP hS hL)
end MRules
