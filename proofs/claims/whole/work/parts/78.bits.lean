/-! PURE 58: bits. -/
def bq (x : Int32) (k : Nat) : Bool := x.toBitVec.getLsbD k
theorem bq_ext {x y : Int32} (h : ∀ j, j < 32 → bq x j = bq y j) : x = y := by
  apply Int32.toBitVec_inj.mp
  apply BitVec.eq_of_getLsbD_eq
  intro i hi
  exact h i hi
theorem shlB (x : Int32) {k : Nat} (hk : k < 32) : (o_shl x (nI k)).toBitVec = x.toBitVec <<< k := by
  unfold o_shl
  rw [Int32.toBitVec_shiftLeft]
  show x.toBitVec <<< ((nI k &&& 31).toBitVec.smod 32) = _
  rw [BitVec.shiftLeft_eq', sj k hk]
theorem shrB (x : Int32) {k : Nat} (hk : k < 32) : (o_shr x (nI k)).toBitVec = x.toBitVec.sshiftRight k := by
  unfold o_shr
  rw [Int32.toBitVec_shiftRight]
  show x.toBitVec.sshiftRight ((nI k &&& 31).toBitVec.smod 32).toNat = _
  rw [sj k hk]
theorem bq_or (x y : Int32) (j : Nat) : bq (o_or x y) j = (bq x j || bq y j) := by
  unfold bq
  rw [Int32.toBitVec_or, BitVec.getLsbD_or]
theorem bq_and (x y : Int32) (j : Nat) : bq (o_and x y) j = (bq x j && bq y j) := by
  unfold bq
  rw [Int32.toBitVec_and, BitVec.getLsbD_and]
theorem bq_m1 : ∀ j, j < 32 → bq (-1) j = true := by decide +kernel
theorem bq_1 : ∀ j, j < 32 → bq 1 j = decide (j = 0) := by decide +kernel
theorem bq_0 (j : Nat) : bq 0 j = false := by
  unfold bq
  exact BitVec.getLsbD_zero
theorem bq_not (y : Int32) {j : Nat} (hj : j < 32) : bq (o_xor y (-1)) j = !bq y j := by
  unfold bq
  rw [Int32.toBitVec_xor, BitVec.getLsbD_xor]
  have := bq_m1 j hj
  unfold bq at this
  rw [this]
  cases y.toBitVec.getLsbD j <;> rfl
theorem bq_shl (x : Int32) {k j : Nat} (hk : k < 32) (hj : j < 32) : bq (o_shl x (nI k)) j = (decide (k ≤ j) && bq x (j - k)) := by
  unfold bq
  rw [shlB x hk, BitVec.getLsbD_shiftLeft]
  by_cases h : j < k
  · simp [h, hj, Nat.not_le.mpr h]
  · simp [h, hj, Nat.not_lt.mp h]
theorem bq_one {k j : Nat} (hk : k < 32) (hj : j < 32) : bq (o_shl 1 (nI k)) j = decide (j = k) := by
  rw [bq_shl 1 hk hj]
  by_cases h : k ≤ j
  · rw [bq_1 _ (by omega), decide_eq_true h, Bool.true_and]
    apply decide_eq_decide.mpr
    omega
  · rw [decide_eq_false h, Bool.false_and, decide_eq_false (by omega)]
theorem bq_m {k j : Nat} (hk : k < 32) (hj : j < 32) : bq (o_shl (-1) (nI k)) j = decide (k ≤ j) := by
  rw [bq_shl _ hk hj]
  by_cases h : k ≤ j
  · rw [bq_m1 _ (by omega), Bool.and_true]
  · rw [decide_eq_false h, Bool.false_and]
theorem bq_shr (x : Int32) {k j : Nat} (hk : k < 32) (hj : j < 32) : bq (o_shr x (nI k)) j = bq x (if k + j < 32 then k + j else 31) := by
  unfold bq
  rw [shrB x hk, BitVec.getLsbD_sshiftRight]
  by_cases h : k + j < 32
  · rw [if_pos h]
    simp [h, hj]
  · rw [if_neg h]
    simp [h, hj, BitVec.msb_eq_getLsbD_last]
theorem b01 (x : Int32) (h : ∀ j, 1 ≤ j → j < 32 → bq x j = false) : x = if bq x 0 then 1 else 0 := by
  apply bq_ext
  intro j hj
  by_cases h0 : j = 0
  · subst h0
    cases hb : bq x 0 with
    | true => rw [if_pos rfl, bq_1 0 (by omega)]; rfl
    | false => rw [if_neg (by decide), bq_0]
  · rw [h j (by omega) hj]
    split
    · rw [bq_1 j hj, decide_eq_false h0]
    · rw [bq_0]
theorem bit_shr (x : Int32) {k : Nat} (hk : k < 32) : o_and (o_shr x (nI k)) 1 = if bq x k then 1 else 0 := by
  have h0 : bq (o_and (o_shr x (nI k)) 1) 0 = bq x k := by
    rw [bq_and, bq_1 0 (by omega), bq_shr x hk (by omega), if_pos (by omega)]
    simp
  rw [← h0]
  apply b01
  intro j h1 h2
  rw [bq_and, bq_1 j h2, decide_eq_false (by omega), Bool.and_false]
theorem uj : ∀ k, k < 32 → ((nI k).toUInt32 &&& Int32.toUInt32 31).toBitVec.toNat = k := by decide +kernel
theorem bit_ushr (x : Int32) {k : Nat} (hk : k < 32) : o_and (o_ushr x (nI k)) 1 = if bq x k then 1 else 0 := by
  have hs : ∀ j, j < 32 → bq (o_ushr x (nI k)) j = bq x (k + j) := fun j hj => by
    unfold bq o_ushr
    show (x.toUInt32 >>> ((nI k).toUInt32 &&& Int32.toUInt32 31)).toBitVec.getLsbD j = _
    rw [UInt32.toBitVec_shiftRight, BitVec.ushiftRight_eq', BitVec.getLsbD_ushiftRight]
    have h1 : (((nI k).toUInt32 &&& Int32.toUInt32 31).toBitVec % 32).toNat = k := by
      rw [BitVec.toNat_umod, uj k hk]
      show k % 32 = k
      omega
    rw [h1]
    rfl
  have h0 : bq (o_and (o_ushr x (nI k)) 1) 0 = bq x k := by
    rw [bq_and, bq_1 0 (by omega), hs 0 (by omega)]
    simp
  rw [← h0]
  apply b01
  intro j h1 h2
  rw [bq_and, bq_1 j h2, decide_eq_false (by omega), Bool.and_false]
theorem sgn_x {x : Int32} {s : Nat} (h1 : 1 ≤ s) (h2 : s ≤ 31) (hx : ∀ j, s ≤ j → j < 32 → bq x j = false) : o_shr (o_shl x (nI (32 - s))) (nI (32 - s)) = if bq x (s - 1) then o_or x (o_shl (-1) (nI s)) else x := by
  apply bq_ext
  intro j hj
  rw [bq_shr _ (by omega) hj]
  have hL : bq (o_shl x (nI (32 - s))) (if 32 - s + j < 32 then 32 - s + j else 31) = if j < s then bq x j else bq x (s - 1) := by
    by_cases h : j < s
    · rw [if_pos (by omega), if_pos h, bq_shl x (by omega) (by omega), decide_eq_true (by omega), Bool.true_and, show 32 - s + j - (32 - s) = j by omega]
    · rw [if_neg (by omega), if_neg h, bq_shl x (by omega) (by omega), decide_eq_true (by omega), Bool.true_and, show 31 - (32 - s) = s - 1 by omega]
  rw [hL]
  cases ht : bq x (s - 1) with
  | true =>
    rw [if_pos rfl, bq_or, bq_m (by omega) hj]
    by_cases h : j < s
    · rw [if_pos h, decide_eq_false (by omega), Bool.or_false]
    · rw [if_neg h, decide_eq_true (by omega), Bool.or_true]
  | false =>
    rw [if_neg (show ¬ (false = true) from by decide)]
    by_cases h : j < s
    · rw [if_pos h]
    · rw [if_neg h, hx j (by omega) hj]
def pcq (x : Int32) : Nat → Nat
  | 0 => 0
  | n + 1 => pcq x n + (if bq x n then 1 else 0)
theorem a31 : ∀ k, k < 32 → nI k &&& 31 = nI k := by decide +kernel
theorem bqP (x : Int32) {k : Nat} (hk : k < 32) : (x >>> nI k) &&& 1 = 1 ↔ bq x k = true := by
  have h := bit_shr x hk
  unfold o_and o_shr at h
  rw [a31 k hk] at h
  rw [h]
  cases bq x k with
  | true => exact ⟨fun _ => rfl, fun _ => rfl⟩
  | false => exact ⟨fun e => absurd e (by decide), fun e => absurd e (by decide)⟩
theorem pcq_e (x : Int32) : ∀ n, n ≤ 32 → pcn x n = pcq x n
  | 0, _ => rfl
  | n + 1, h => by
    show pcn x n + _ = pcq x n + _
    rw [pcq_e x n (by omega)]
    congr 1
    by_cases hb : bq x n = true
    · rw [if_pos ((bqP x (by omega)).mpr hb), if_pos hb]
    · rw [if_neg (fun e => hb ((bqP x (by omega)).mp e)), if_neg hb]
theorem pcq_mono {x y : Int32} : ∀ n, (∀ j, j < n → bq x j = true → bq y j = true) → pcq x n ≤ pcq y n
  | 0, _ => Nat.le_refl _
  | n + 1, h => by
    have ih := pcq_mono n (fun j hj => h j (by omega))
    show pcq x n + _ ≤ pcq y n + _
    by_cases hb : bq x n = true
    · rw [if_pos hb, if_pos (h n (by omega) hb)]
      omega
    · rw [if_neg hb]
      omega
theorem pcq_same {x y : Int32} : ∀ n, (∀ j, j < n → bq x j = bq y j) → pcq x n = pcq y n
  | 0, _ => rfl
  | n + 1, h => by
    show pcq x n + _ = pcq y n + _
    rw [pcq_same n (fun j hj => h j (by omega)), h n (by omega)]
theorem pcq_clr {x y : Int32} {p : Nat} (hp : bq x p = true) (hy : bq y p = false) : ∀ n, p < n → (∀ j, j < n → j ≠ p → bq y j = bq x j) → pcq y n + 1 = pcq x n
  | 0, h, _ => by omega
  | n + 1, h, hj => by
    show pcq y n + _ + 1 = pcq x n + _
    by_cases hpn : p = n
    · subst hpn
      rw [hp, hy, if_pos rfl, if_neg (by decide), pcq_same p (fun j h1 => hj j (by omega) (by omega))]
    · rw [← pcq_clr hp hy n (by omega) (fun j h1 h2 => hj j (by omega) h2), hj n (by omega) (fun e => hpn e.symm)]
      omega
theorem pcq_0 : ∀ n, pcq 0 n = 0
  | 0 => rfl
  | n + 1 => by
    show pcq 0 n + _ = 0
    rw [pcq_0 n, bq_0, if_neg (by decide)]
theorem pcq_set {x y : Int32} {p : Nat} (hj : ∀ j, j < 32 → bq y j = (bq x j || decide (j = p))) (hp : p < 32) : pcq y 32 ≤ pcq x 32 + 1 := by
  by_cases h : bq x p = true
  · have := pcq_mono (x := y) (y := x) 32 (fun j h1 h2 => by
      rw [hj j h1] at h2
      by_cases e : j = p
      · subst e
        exact h
      · rw [decide_eq_false e, Bool.or_false] at h2
        exact h2)
    omega
  · have := pcq_clr (x := y) (y := x) (p := p) (by rw [hj p hp, decide_eq_true rfl, Bool.or_true]) (by simpa using h) 32 hp (fun j h1 h2 => by rw [hj j h1, decide_eq_false h2, Bool.or_false])
    omega
theorem ne0_bq {x : Int32} (h : x ≠ 0) : ∃ j, j < 32 ∧ bq x j = true := by
  apply Classical.byContradiction
  intro hn
  apply h
  apply bq_ext
  intro j hj
  rw [bq_0]
  cases hb : bq x j with
  | true => exact absurd ⟨j, hj, hb⟩ hn
  | false => rfl
