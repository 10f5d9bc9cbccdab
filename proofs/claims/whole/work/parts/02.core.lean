/-! CORE 1: the abstract world. A heap is a function from addresses to cells: an object (class number, fields) or a row of ints or booleans (is it of booleans, length, contents). Locals are a list of slots. -/
abbrev Cel : Type := (Nat × List Value) ⊕ (Bool × Nat × (Nat → Int32))
abbrev Hp : Type := Nat → Option Cel
abbrev Lo : Type := List (Option Value)
def hset (G : Hp) (a : Nat) (e : Cel) : Hp := fun b => if b = a then some e else G b
def zTy (z : Bool) : FieldType := match z with
  | true => .boolean
  | false => .int
def RAt (D : va_G) (U : State) (H : Heap) (a : Nat) (e : Cel) : Prop := match e with
  | .inl o => va_at D vwCl (a, .inr o) H
  | .inr o => ∃ cA : ClassId, va_at D vwCl (a, .inl (cA, o.2.1, .inl o.2.2)) H ∧ ArrOfT U cA (zTy o.1) ∧ va_RA U cA (zTy o.1)
def Rep (D : va_G) (A : Nat → Prop) (U : State) (G : Hp) (H : Heap) : Prop := ∀ (a : Nat) (e : Cel), G a = some e → A a ∧ RAt D U H a e
theorem RAt.moved {D : va_G} {u U : State} {H : Heap} {a : Nat} {e : Cel} (hvm : u.vm.Alike U.vm) (h : RAt D u H a e) : RAt D U H a e := by
  cases e with
  | inl o => exact h
  | inr o =>
    obtain ⟨cA, h1, h2, h3⟩ := h
    exact ⟨cA, h1, arrOfT_moved hvm h2, h3.moved hvm⟩
theorem Rep.moved {D : va_G} {A : Nat → Prop} {u U : State} {G : Hp} {H : Heap} (hvm : u.vm.Alike U.vm) (h : Rep D A u G H) : Rep D A U G H := fun a e he => ⟨(h a e he).1, (h a e he).2.moved hvm⟩
theorem RAt.kept {D : va_G} {U : State} {H H1 : Heap} {a : Nat} {e : Cel} (h : RAt D U H a e) (hq : H1[a]? = H[a]?) : RAt D U H1 a e := by
  cases e with
  | inl o => exact va_at.kept (q := (a, .inr o)) h hq
  | inr o =>
    obtain ⟨cA, h1, h2, h3⟩ := h
    exact ⟨cA, va_at.kept (q := (a, .inl (cA, o.2.1, .inl o.2.2))) h1 hq, h2, h3⟩
theorem Rep.set {D : va_G} {A : Nat → Prop} {U : State} {G : Hp} {H H1 : Heap} {a : Nat} {e : Cel} (h : Rep D A U G H) (hA : A a) (he : RAt D U H1 a e) (oq : ∀ q : Nat, q ≠ a → H1[q]? = H[q]?) : Rep D A U (hset G a e) H1 := by
  intro b e2 hb
  unfold hset at hb
  by_cases hba : b = a
  · rw [if_pos hba] at hb
    cases hb
    subst hba
    exact ⟨hA, he⟩
  · rw [if_neg hba] at hb
    exact ⟨(h b e2 hb).1, (h b e2 hb).2.kept (oq b hba)⟩
/-- locals -/
def Lcs (ls : Array Slot) (n : Nat) (L : Lo) : Prop := ls.size = n ∧ lv_wf ls ∧ ∀ (i : Nat) (v : Value), L[i]? = some (some v) → ls[i]? = some (.val v)
def lz : Nat → Lo → List (Nat × Value)
  | _, [] => []
  | i, none :: t => lz (i + 1) t
  | i, some v :: t => (i, v) :: lz (i + 1) t
theorem lz_mem : ∀ (L : Lo) (i j : Nat) (v : Value), (j, v) ∈ lz i L ↔ ∃ k, j = i + k ∧ L[k]? = some (some v)
  | [], i, j, v => by simp [lz]
  | none :: t, i, j, v => by
    rw [lz, lz_mem t (i + 1) j v]
    constructor
    · rintro ⟨k, h1, h2⟩
      exact ⟨k + 1, by omega, by simpa using h2⟩
    · rintro ⟨k, h1, h2⟩
      cases k with
      | zero => simp at h2
      | succ k => exact ⟨k, by omega, by simpa using h2⟩
  | some w :: t, i, j, v => by
    rw [lz, List.mem_cons, lz_mem t (i + 1) j v]
    constructor
    · rintro (h | ⟨k, h1, h2⟩)
      · cases h
        exact ⟨0, rfl, rfl⟩
      · exact ⟨k + 1, by omega, by simpa using h2⟩
    · rintro ⟨k, h1, h2⟩
      cases k with
      | zero =>
        left
        simp at h2
        rw [h1, h2]
        rfl
      | succ k => exact Or.inr ⟨k, by omega, by simpa using h2⟩
theorem Lcs.has {ls : Array Slot} {n : Nat} {L : Lo} (h : Lcs ls n L) : lv_has ls n (lz 0 L) := by
  refine ⟨h.1, h.2.1, ?_⟩
  rintro ⟨j, v⟩ hq
  obtain ⟨k, h1, h2⟩ := (lz_mem L 0 j v).mp hq
  have : j = k := by omega
  subst this
  exact h.2.2 j v h2
theorem Lcs.of {ls : Array Slot} {n : Nat} {L : Lo} {l : List (Nat × Value)} (h : lv_has ls n l) (hh : ∀ (i : Nat) (v : Value), L[i]? = some (some v) → (i, v) ∈ l) : Lcs ls n L := ⟨h.1, h.2.1, fun i v hi => h.2.2 (i, v) (hh i v hi)⟩
/-- a slot that a store just behind it takes away: a long's first half -/
def kl (h : Option Value) : Option Value := match h with
  | some (.long _) => none
  | some (.double _) => none
  | o => o
def st1 : Lo → Nat → Value → Lo
  | [], _, _ => []
  | _ :: t, 0, v => some v :: t
  | h :: t, 1, v => kl h :: st1 t 0 v
  | h :: t, i + 2, v => h :: st1 t (i + 1) v
def st2 : Lo → Nat → Value → Lo
  | [], _, _ => []
  | _ :: t, 0, v => some v :: t.set 0 none
  | h :: t, 1, v => kl h :: st2 t 0 v
  | h :: t, i + 2, v => h :: st2 t (i + 1) v
theorem kl_some {h : Option Value} {v : Value} (e : kl h = some v) : h = some v ∧ ¬ v.category = 2 := by
  cases h with
  | none => cases e
  | some w => cases w <;> first | (cases e; done) | (cases e; exact ⟨rfl, fun q => absurd q (by simp [Value.category])⟩)
theorem st1_get : ∀ (L : Lo) (i j : Nat) (x v : Value), (st1 L i x)[j]? = some (some v) → (j = i ∧ v = x) ∨ (j ≠ i ∧ L[j]? = some (some v) ∧ ¬ (j + 1 = i ∧ v.category = 2))
  | [], i, j, x, v, h => by simp [st1] at h
  | a :: t, 0, j, x, v, h => by
    cases j with
    | zero => left; simp [st1] at h; exact ⟨rfl, h.symm⟩
    | succ j => right; exact ⟨by omega, by simpa [st1] using h, by omega⟩
  | a :: t, 1, j, x, v, h => by
    cases j with
    | zero =>
      right
      simp only [st1, List.getElem?_cons_zero, Option.some.injEq] at h
      obtain ⟨h1, h2⟩ := kl_some h
      exact ⟨by omega, by simp [h1], by omega⟩
    | succ j =>
      simp only [st1, List.getElem?_cons_succ] at h
      rcases st1_get t 0 j x v h with ⟨h1, h2⟩ | ⟨h1, h2, h3⟩
      · exact Or.inl ⟨by omega, h2⟩
      · exact Or.inr ⟨by omega, by simpa using h2, by omega⟩
  | a :: t, i + 2, j, x, v, h => by
    cases j with
    | zero => right; simp only [st1, List.getElem?_cons_zero] at h; exact ⟨by omega, by simpa using h, by omega⟩
    | succ j =>
      simp only [st1, List.getElem?_cons_succ] at h
      rcases st1_get t (i + 1) j x v h with ⟨h1, h2⟩ | ⟨h1, h2, h3⟩
      · exact Or.inl ⟨by omega, h2⟩
      · exact Or.inr ⟨by omega, by simpa using h2, by omega⟩
theorem st2_get : ∀ (L : Lo) (i j : Nat) (x v : Value), (st2 L i x)[j]? = some (some v) → (j = i ∧ v = x) ∨ (j ≠ i ∧ j ≠ i + 1 ∧ L[j]? = some (some v) ∧ ¬ (j + 1 = i ∧ v.category = 2))
  | [], i, j, x, v, h => by simp [st2] at h
  | a :: t, 0, j, x, v, h => by
    cases j with
    | zero => left; simp [st2] at h; exact ⟨rfl, h.symm⟩
    | succ j =>
      right
      simp only [st2, List.getElem?_cons_succ] at h
      cases j with
      | zero =>
        cases t with
        | nil => simp at h
        | cons b t => simp at h
      | succ j => exact ⟨by omega, by omega, by rw [List.getElem?_set_ne (by omega)] at h; simpa using h, by omega⟩
  | a :: t, 1, j, x, v, h => by
    cases j with
    | zero =>
      right
      simp only [st2, List.getElem?_cons_zero, Option.some.injEq] at h
      obtain ⟨h1, h2⟩ := kl_some h
      exact ⟨by omega, by omega, by simp [h1], by omega⟩
    | succ j =>
      simp only [st2, List.getElem?_cons_succ] at h
      rcases st2_get t 0 j x v h with ⟨h1, h2⟩ | ⟨h1, h1', h2, h3⟩
      · exact Or.inl ⟨by omega, h2⟩
      · exact Or.inr ⟨by omega, by omega, by simpa using h2, by omega⟩
  | a :: t, i + 2, j, x, v, h => by
    cases j with
    | zero => right; simp only [st2, List.getElem?_cons_zero] at h; exact ⟨by omega, by omega, by simpa using h, by omega⟩
    | succ j =>
      simp only [st2, List.getElem?_cons_succ] at h
      rcases st2_get t (i + 1) j x v h with ⟨h1, h2⟩ | ⟨h1, h1', h2, h3⟩
      · exact Or.inl ⟨by omega, h2⟩
      · exact Or.inr ⟨by omega, by omega, by simpa using h2, by omega⟩
theorem Lcs.st1 {ls : Array Slot} {n i : Nat} {L : Lo} {x : Value} (h : lv_has ls n ((i, x) :: (lz 0 L).filter (fun q => !(q.1 == i) && !(q.1 + 1 == i && q.2.category == 2)))) : Lcs ls n (st1 L i x) := by
  refine Lcs.of h fun j v hj => ?_
  rcases st1_get L i j x v hj with ⟨rfl, rfl⟩ | ⟨h1, h2, h3⟩
  · exact List.mem_cons_self
  · refine List.mem_cons_of_mem _ (List.mem_filter.mpr ⟨(lz_mem L 0 j v).mpr ⟨j, by omega, h2⟩, ?_⟩)
    simp only [Bool.and_eq_true, Bool.not_eq_true', beq_eq_false_iff_ne, ne_eq, Bool.and_eq_false_iff]
    exact ⟨h1, by by_cases q : j + 1 = i <;> simp_all⟩
theorem Lcs.st2 {ls : Array Slot} {n i : Nat} {L : Lo} {x : Value} (h : lv_has ls n ((i, x) :: (lz 0 L).filter (fun q => !(q.1 == i) && (!(q.1 == i + 1) && !(q.1 + 1 == i && q.2.category == 2))))) : Lcs ls n (st2 L i x) := by
  refine Lcs.of h fun j v hj => ?_
  rcases st2_get L i j x v hj with ⟨rfl, rfl⟩ | ⟨h1, h1', h2, h3⟩
  · exact List.mem_cons_self
  · refine List.mem_cons_of_mem _ (List.mem_filter.mpr ⟨(lz_mem L 0 j v).mpr ⟨j, by omega, h2⟩, ?_⟩)
    simp only [Bool.and_eq_true, Bool.not_eq_true', beq_eq_false_iff_ne, ne_eq, Bool.and_eq_false_iff]
    exact ⟨h1, h1', by by_cases q : j + 1 = i <;> simp_all⟩
/-- locals at a method's start -/
def argL : List Value → Nat → Lo
  | [], n => List.replicate n none
  | .long x :: t, n => some (.long x) :: none :: argL t (n - 2)
  | .double x :: t, n => some (.double x) :: none :: argL t (n - 2)
  | v :: t, n => some v :: argL t (n - 1)
theorem argL_mem : ∀ (av : List Value) (n b i : Nat) (v : Value), (argL av n)[i]? = some (some v) → (b + i, v) ∈ lv_args b av
  | [], n, b, i, v, h => by
    simp only [argL, List.getElem?_replicate] at h
    split at h <;> simp at h
  | w :: t, n, b, i, v, h => by
    have key1 : ∀ m, w.category = 1 → (some w :: argL t m)[i]? = some (some v) → (b + i, v) ∈ lv_args b (w :: t) := by
      intro m hc h
      rw [lv_args, if_neg (by omega)]
      cases i with
      | zero => simp at h; rw [h]; exact List.mem_cons_self
      | succ i => exact List.mem_cons_of_mem _ (by have := argL_mem t m (b + 1) i v (by simpa using h); rwa [show b + (i + 1) = b + 1 + i by omega])
    have key2 : ∀ m, w.category = 2 → (some w :: none :: argL t m)[i]? = some (some v) → (b + i, v) ∈ lv_args b (w :: t) := by
      intro m hc h
      rw [lv_args, if_pos hc]
      match i, h with
      | 0, h => simp at h; rw [h]; exact List.mem_cons_self
      | 1, h => simp at h
      | i + 2, h => exact List.mem_cons_of_mem _ (by have := argL_mem t m (b + 2) i v (by simpa using h); rwa [show b + (i + 2) = b + 2 + i by omega])
    cases w with
    | long x => exact key2 _ rfl h
    | double x => exact key2 _ rfl h
    | _ => exact key1 _ rfl h
