/-! PURE 6: what class and reference have in common. D: the rows of a device (0..15), M: the reference's row of numbers. -/
def Byt (x : Int32) : Prop := 0 ≤ x.toInt ∧ x.toInt ≤ 255
def PrgR (D : VV) (M : Nat → Int32) : Prop := ∃ n, n ≤ 96 ∧ D 1 1 = nI n ∧ M 3285 = nI n ∧ ∀ i, i < n → D 2 i = M i ∧ Byt (M i)
def LetR (D : VV) (M : Nat → Int32) : Prop := ∃ n, n ≤ 33 ∧ D 3 1 = nI n ∧ M 3288 = nI n ∧ ∀ i, i < n → D 4 i = M (2484 + i) ∧ Byt (M (2484 + i))
def EvtR (D : VV) (M : Nat → Int32) : Prop := ∃ n, n ≤ 195 ∧ D 14 3 = nI n ∧ M 3289 = nI n ∧ ∀ i, i < 3 * n → D 15 i = M (2517 + i)
def BitR (D : VV) (M : Nat → Int32) : Prop := ∃ n, (n = 0 ∨ n = 3) ∧ D 12 3 = nI n ∧ ∀ w i, w < 3 → i < 16 → ∃ b, b ≤ 256 ∧ M (804 + 16 * w + i) = nI b ∧ (w < n → D 13 (w * 16 + i) = nI b) ∧ (n ≤ w → b = 0)
/-- a field: class's columns F (f * 17 + k), reference's M (96 + 14 * f + k) -/
def ValR (F M : Nat → Int32) (f : Nat) : Prop := F (f * 17 + 6) = 0 ∧ F (f * 17 + 9) = 1 ∧ F (f * 17 + 10) = M (96 + 14 * f + 10) ∧ (F (f * 17 + 7) = 0 ∨ F (f * 17 + 7) = 1) ∧ M (96 + 14 * f + 9) = -6
def SltR (F U M : Nat → Int32) (ns f it m u0 : Nat) : Prop := it < 48 ∧ m ≤ 32 ∧ u0 + m ≤ ns ∧ M (96 + 14 * f + 9) = nI it ∧ M (2388 + it) = nI m ∧ F (f * 17 + 9) = nI m ∧ F (f * 17 + 13) = nI u0 ∧ (∀ k, k < m → U (u0 + k) = M (852 + 32 * it + k)) ∧ F (f * 17 + 10) = (if m = 0 then 0 else U u0) ∧ ∀ p, p ≤ f → F (f * 17 + 12) = nI p → F (p * 17 + 16) = M (2436 + it)
def FldR (F U M : Nat → Int32) (ng ns f : Nat) : Prop := (∀ k, k < 9 → F (f * 17 + k) = M (96 + 14 * f + k)) ∧ F (f * 17 + 11) = M (96 + 14 * f + 11) ∧ F (f * 17 + 14) = M (96 + 14 * f + 12) ∧ F (f * 17 + 15) = M (96 + 14 * f + 13) ∧ (∃ w, w < 3 ∧ F (f * 17) = nI w) ∧ (∃ i, i < 16 ∧ F (f * 17 + 1) = nI i) ∧ (∃ b s, F (f * 17 + 2) = nI b ∧ F (f * 17 + 3) = nI s ∧ 1 ≤ s ∧ s ≤ 31 ∧ b + s ≤ 256) ∧ (F (f * 17 + 11) = -6 ∨ ∃ g, g < ng ∧ F (f * 17 + 11) = nI g) ∧ (∃ p, p ≤ f ∧ F (f * 17 + 12) = nI p) ∧ (ValR F M f ∨ (F (f * 17 + 6) = 1 ∧ F (f * 17 + 7) = 0 ∧ ∃ it m u0, SltR F U M ns f it m u0))
/-- fields of one item stand together -/
def ItmR (F M : Nat → Int32) (nf : Nat) : Prop := ∀ f, f < nf → (f = 0 → F (f * 17 + 12) = nI 0) ∧ (∀ g, f = g + 1 → (F (f * 17 + 12) = F (g * 17 + 12) ∧ F (f * 17 + 6) = F (g * 17 + 6) ∧ M (96 + 14 * f + 9) = M (96 + 14 * g + 9) ∧ F (f * 17) = F (g * 17) ∧ F (f * 17 + 1) = F (g * 17 + 1)) ∨ (F (f * 17 + 12) = nI f ∧ (F (f * 17 + 6) = 1 → M (96 + 14 * f + 9) ≠ M (96 + 14 * g + 9)))) ∧ ∀ g, g < f → F (f * 17 + 6) = 1 → F (g * 17 + 6) = 1 → M (96 + 14 * f + 9) = M (96 + 14 * g + 9) → F (f * 17 + 12) = F (g * 17 + 12)
/-- bits of fields of one letter are apart, and within it -/
def DisR (F M : Nat → Int32) (nf : Nat) : Prop := (∀ f g, f < g → g < nf → F (f * 17) = F (g * 17) → F (f * 17 + 1) = F (g * 17 + 1) → (F (f * 17 + 2)).toInt + (F (f * 17 + 3)).toInt ≤ (F (g * 17 + 2)).toInt) ∧ ∀ f, f < nf → ∀ w i, w < 3 → i < 16 → F (f * 17) = nI w → F (f * 17 + 1) = nI i → (F (f * 17 + 2)).toInt + (F (f * 17 + 3)).toInt ≤ (M (804 + 16 * w + i)).toInt
/-- how many bits of a mask are set, from place 0 to n -/
def pcn (x : Int32) : Nat → Nat
  | 0 => 0
  | n + 1 => pcn x n + (if (x >>> nI n) &&& 1 = 1 then 1 else 0)
/-- how many fields from f on, up to nf, are of the item that begins at p -/
def cnt (F : Nat → Int32) (p nf : Nat) : Nat := ((List.range nf).filter (fun g => decide (F (g * 17 + 12) = nI p))).length
/-- pressed: only places of uses, no more than slots -/
def PrsR (F M : Nat → Int32) (nf : Nat) : Prop := ∀ f, f < nf → F (f * 17 + 6) = 1 → F (f * 17 + 12) = nI f → pcn (F (f * 17 + 16)) 32 ≤ cnt F f nf ∧ ∀ k, k < 32 → (F (f * 17 + 16) >>> nI k) &&& 1 = 1 → nI k < F (f * 17 + 9)
def GrpR (E M : Nat → Int32) (ng : Nat) : Prop := ∀ g, g < ng → (∀ k, k < 3 → E (g * 3 + k) = M (768 + 3 * g + k)) ∧ (E (g * 3 + 2) = -6 ∨ ∃ h, h < g ∧ E (g * 3 + 2) = nI h)
def OthR (F M : Nat → Int32) (nf : Nat) : Prop := (M 3292 = 1 ∧ ∃ f, f < nf ∧ F (f * 17 + 1) ≠ 0) ∨ (M 3292 = 0 ∧ ∀ f, f < nf → F (f * 17 + 1) = 0)
def ShpR (D : VV) (M : Nat → Int32) (nf ng ns : Nat) : Prop := nf ≤ 48 ∧ ng ≤ 12 ∧ ns ≤ 1024 ∧ D 6 3 = nI nf ∧ M 3286 = nI nf ∧ D 8 3 = nI ng ∧ M 3287 = nI ng ∧ D 10 1 = nI ns ∧ (∀ f, f < nf → FldR (D 7) (D 11) M ng ns f) ∧ ItmR (D 7) M nf ∧ DisR (D 7) M nf ∧ PrsR (D 7) M nf ∧ GrpR (D 9) M ng ∧ OthR (D 7) M nf
def DevR (D : VV) (M : Nat → Int32) : Prop := PrgR D M ∧ LetR D M ∧ EvtR D M ∧ BitR D M ∧ (∃ nf ng ns, ShpR D M nf ng ns) ∧ D 0 4 = M 3290 ∧ D 0 5 = M 3291
def Dv (V : VV) (d : Nat) : VV := fun j => V (d + j)
def KptR (V : VV) : Prop := ∃ k : Nat, k < 4 ∧ V 0 5 = nI k ∧ V 68 0 = (if k % 2 = 1 then 1 else 0) ∧ V 68 1 = (if k / 2 = 1 then 1 else 0) ∧ (k % 2 = 1 → DevR (Dv V 17) (fun i => V 67 i)) ∧ (k / 2 = 1 → DevR (Dv V 33) (fun i => V 67 (3293 + i)))
def Inv (V : VV) : Prop := DevR (Dv V 1) (V 66) ∧ KptR V
theorem inv_0 : Inv (fun _ _ => 0) := by
  have h0 : (0 : Int32) = nI 0 := rfl
  refine ⟨⟨⟨0, by omega, h0, h0, fun i h => by omega⟩, ⟨0, by omega, h0, h0, fun i h => by omega⟩, ⟨0, by omega, h0, h0, fun i h => by omega⟩, ⟨0, Or.inl rfl, h0, fun w i hw hi => ⟨0, by omega, h0, fun h => by omega, fun _ => rfl⟩⟩, ⟨0, 0, 0, by omega, by omega, by omega, h0, h0, h0, h0, h0, fun f h => by omega, fun f h => by omega, ⟨fun f g _ h => by omega, fun f h => by omega⟩, fun f h => by omega, fun g h => by omega, Or.inr ⟨rfl, fun f h => by omega⟩⟩, rfl, rfl⟩, 0, by omega, h0, rfl, rfl, fun h => by omega, fun h => by omega⟩
/-! each part looks at its own places alone -/
theorem PrgR.c {D D' : VV} {M M' : Nat → Int32} (h : PrgR D M) (h1 : D' 1 = D 1) (h2 : D' 2 = D 2) (hM : ∀ i, i < 96 ∨ i = 3285 → M' i = M i) : PrgR D' M' := by
  obtain ⟨n, a1, a2, a3, a4⟩ := h
  refine ⟨n, a1, by rw [h1]; exact a2, by rw [hM _ (Or.inr rfl)]; exact a3, fun i hi => ?_⟩
  rw [h2, hM i (by omega)]
  exact a4 i hi
theorem LetR.c {D D' : VV} {M M' : Nat → Int32} (h : LetR D M) (h1 : D' 3 = D 3) (h2 : D' 4 = D 4) (hM : ∀ i, (2484 ≤ i ∧ i < 2517) ∨ i = 3288 → M' i = M i) : LetR D' M' := by
  obtain ⟨n, a1, a2, a3, a4⟩ := h
  refine ⟨n, a1, by rw [h1]; exact a2, by rw [hM _ (Or.inr rfl)]; exact a3, fun i hi => ?_⟩
  rw [h2, hM (2484 + i) (by omega)]
  exact a4 i hi
theorem EvtR.c {D D' : VV} {M M' : Nat → Int32} (h : EvtR D M) (h1 : D' 14 = D 14) (h2 : D' 15 = D 15) (hM : ∀ i, (2517 ≤ i ∧ i < 3285) ∨ i = 3289 → M' i = M i) : EvtR D' M' := by
  obtain ⟨n, a1, a2, a3, a4⟩ := h
  refine ⟨n, a1, by rw [h1]; exact a2, by rw [hM _ (Or.inr rfl)]; exact a3, fun i hi => ?_⟩
  rw [h2, hM (2517 + i) (by omega)]
  exact a4 i hi
theorem BitR.c {D D' : VV} {M M' : Nat → Int32} (h : BitR D M) (h1 : D' 12 = D 12) (h2 : D' 13 = D 13) (hM : ∀ i, 804 ≤ i ∧ i < 852 → M' i = M i) : BitR D' M' := by
  obtain ⟨n, a1, a2, a3⟩ := h
  refine ⟨n, a1, by rw [h1]; exact a2, fun w i hw hi => ?_⟩
  rw [h2, hM (804 + 16 * w + i) (by omega)]
  exact a3 w i hw hi
theorem ShpR.c {D D' : VV} {M M' : Nat → Int32} {nf ng ns : Nat} (h : ShpR D M nf ng ns) (h1 : ∀ j, 6 ≤ j ∧ j < 12 → D' j = D j) (hM : ∀ i, (96 ≤ i ∧ i < 2484) ∨ i = 3286 ∨ i = 3287 ∨ i = 3292 → M' i = M i) : ShpR D' M' nf ng ns := by
  obtain ⟨a1, a2, a3, a4, a5, a6, a7, a8, a9, a10, a11, a12, a13, a14⟩ := h
  refine ⟨a1, a2, a3, ?_, ?_, ?_, ?_, ?_, ?_, ?_, ?_, ?_, ?_, ?_⟩
  · rw [h1 6 (by omega)]; exact a4
  · rw [hM 3286 (by omega)]; exact a5
  · rw [h1 8 (by omega)]; exact a6
  · rw [hM 3287 (by omega)]; exact a7
  · rw [h1 10 (by omega)]; exact a8
  · intro f hf
    rw [h1 7 (by omega), h1 11 (by omega)]
    obtain ⟨b1, b2, b3, b4, b5, b6, b7, b8, b9, b10⟩ := a9 f hf
    refine ⟨fun k hk => ?_, ?_, ?_, ?_, b5, b6, b7, b8, b9, ?_⟩
    · rw [hM _ (by omega)]; exact b1 k hk
    · rw [hM _ (by omega)]; exact b2
    · rw [hM _ (by omega)]; exact b3
    · rw [hM _ (by omega)]; exact b4
    · rcases b10 with ⟨c1, c2, c3, c4, c5⟩ | ⟨c1, c2, it, m, u0, d1, d2, d3, d4, d5, d6, d7, d8, d9, d10⟩
      · refine Or.inl ⟨c1, c2, ?_, c4, ?_⟩
        · rw [hM _ (by omega)]; exact c3
        · rw [hM _ (by omega)]; exact c5
      · refine Or.inr ⟨c1, c2, it, m, u0, d1, d2, d3, ?_, ?_, d6, d7, fun k hk => ?_, d9, fun p hp h => ?_⟩
        · rw [hM _ (by omega)]; exact d4
        · rw [hM _ (by omega)]; exact d5
        · rw [hM _ (by omega)]; exact d8 k hk
        · rw [hM _ (by omega)]; exact d10 p hp h
  · intro f hf
    rw [h1 7 (by omega)]
    refine ⟨(a10 f hf).1, fun g hg => ?_, fun g hg => ?_⟩
    · rw [hM (96 + 14 * f + 9) (by omega), hM (96 + 14 * g + 9) (by omega)]
      exact (a10 f hf).2.1 g hg
    · rw [hM (96 + 14 * f + 9) (by omega), hM (96 + 14 * g + 9) (by omega)]
      exact (a10 f hf).2.2 g hg
  · rw [h1 7 (by omega)]
    refine ⟨a11.1, fun f hf w i hw hi e1 e2 => ?_⟩
    rw [hM _ (by omega)]
    exact a11.2 f hf w i hw hi e1 e2
  · rw [h1 7 (by omega)]
    exact a12
  · intro g hg
    rw [h1 9 (by omega)]
    refine ⟨fun k hk => ?_, (a13 g hg).2⟩
    rw [hM _ (by omega)]
    exact (a13 g hg).1 k hk
  · rw [h1 7 (by omega)]
    unfold OthR
    rw [hM 3292 (by omega)]
    exact a14
theorem KptR.c {V V' : VV} (h : KptR V) (h1 : V' 0 5 = V 0 5) (h2 : ∀ j, (17 ≤ j ∧ j < 49) ∨ j = 67 ∨ j = 68 → V' j = V j) : KptR V' := by
  obtain ⟨k, a1, a2, a3, a4, a5, a6⟩ := h
  have e1 : Dv V' 17 = fun j => if j < 16 then V (17 + j) else V' (17 + j) := by
    funext j
    unfold Dv
    by_cases h : j < 16
    · rw [if_pos h, h2 _ (by omega)]
    · rw [if_neg h]
  have e : ∀ d, d = 17 ∨ d = 33 → ∀ M : Nat → Int32, DevR (Dv V d) M → DevR (Dv V' d) M := by
    intro d hd M hD
    have q : ∀ j, j < 16 → Dv V' d j = Dv V d j := fun j hj => h2 (d + j) (by omega)
    obtain ⟨b1, b2, b3, b4, ⟨nf, ng, ns, b5⟩, b6, b7⟩ := hD
    exact ⟨b1.c (q 1 (by omega)) (q 2 (by omega)) (fun _ _ => rfl), b2.c (q 3 (by omega)) (q 4 (by omega)) (fun _ _ => rfl), b3.c (q 14 (by omega)) (q 15 (by omega)) (fun _ _ => rfl), b4.c (q 12 (by omega)) (q 13 (by omega)) (fun _ _ => rfl), ⟨nf, ng, ns, b5.c (fun j hj => q j (by omega)) (fun _ _ => rfl)⟩, by rw [q 0 (by omega)]; exact b6, by rw [q 0 (by omega)]; exact b7⟩
  refine ⟨k, a1, by rw [h1]; exact a2, by rw [h2 68 (by omega)]; exact a3, by rw [h2 68 (by omega)]; exact a4, fun hk => ?_, fun hk => ?_⟩
  · rw [h2 67 (by omega)]
    exact e 17 (Or.inl rfl) _ (a5 hk)
  · rw [h2 67 (by omega)]
    exact e 33 (Or.inr rfl) _ (a6 hk)
