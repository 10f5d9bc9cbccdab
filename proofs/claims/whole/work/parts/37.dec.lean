/-! PURE 17: an item taken apart: numbers. -/
theorem n_or (p q : Nat) : nI p ||| nI q = nI (p ||| q) := by
  apply Int32.toBitVec_inj.1
  show BitVec.ofNat 32 p ||| BitVec.ofNat 32 q = BitVec.ofNat 32 (p ||| q)
  apply BitVec.eq_of_getLsbD_eq
  intro i hi
  simp [hi]
theorem or_add {t k : Nat} (b : Nat) (h : t < 2 ^ k) : t ||| b * 2 ^ k = t + b * 2 ^ k := by
  have := Nat.two_pow_add_eq_or_of_lt h b
  rw [Nat.mul_comm b, Nat.or_comm, ← this, Nat.add_comm]
/-- the number in m bytes b, lowest first -/
def vB (b : Nat → Nat) : Nat → Nat
  | 0 => 0
  | n + 1 => vB b n + b n * 2 ^ (8 * n)
theorem vB_lt {b : Nat → Nat} (hb : ∀ i, b i ≤ 255) : ∀ n, vB b n < 2 ^ (8 * n)
  | 0 => Nat.one_pos
  | n + 1 => by
    have ih := vB_lt hb n
    have h1 : b n * 2 ^ (8 * n) ≤ 255 * 2 ^ (8 * n) := Nat.mul_le_mul_right _ (hb n)
    have h2 : 2 ^ (8 * (n + 1)) = 2 ^ (8 * n) * 256 := by rw [show 8 * (n + 1) = 8 * n + 8 by omega, Nat.pow_add]
    rw [vB, h2]
    omega
theorem vB_up {b : Nat → Nat} (hb : ∀ i, b i ≤ 255) {n : Nat} (hn : n < 4) : o_or (nI (vB b n)) (o_shl (nI (b n)) (nI (8 * n))) = nI (vB b (n + 1)) := by
  have h1 : b n * 2 ^ (8 * n) ≤ 255 * 2 ^ (8 * n) := Nat.mul_le_mul_right _ (hb n)
  have h2 : 2 ^ (8 * n) ≤ 2 ^ 24 := Nat.pow_le_pow_right (by omega) (by omega)
  have hs : o_shl (nI (b n)) (nI (8 * n)) = nI (b n * 2 ^ (8 * n)) := pk_shlN _ (8 * n) (sj (8 * n) (by omega)) (by omega)
  rw [hs]
  show nI (vB b n) ||| nI (b n * 2 ^ (8 * n)) = _
  rw [n_or, or_add _ (vB_lt hb n)]
  rfl
/-- the number in the bytes from k to m, highest first -/
def hB (b : Nat → Nat) (m : Nat) : Nat → Nat
  | 0 => 0
  | j + 1 => hB b m j * 256 + b (m - (j + 1))
theorem hB_vB {b : Nat → Nat} (m : Nat) : ∀ j, j ≤ m → vB b (m - j) + hB b m j * 2 ^ (8 * (m - j)) = vB b m
  | 0, _ => by rw [hB]; simp
  | j + 1, h => by
    have ih := hB_vB (b := b) m j (by omega)
    have e : m - j = m - (j + 1) + 1 := by omega
    rw [e, vB] at ih
    have h2 : 2 ^ (8 * (m - (j + 1) + 1)) = 256 * 2 ^ (8 * (m - (j + 1))) := by rw [show 8 * (m - (j + 1) + 1) = 8 * (m - (j + 1)) + 8 by omega, Nat.pow_add, Nat.mul_comm]
    rw [h2, ← Nat.mul_assoc] at ih
    rw [hB, Nat.add_mul]
    omega
theorem hB_lt {b : Nat → Nat} (hb : ∀ i, b i ≤ 255) {m : Nat} : ∀ j, hB b m j < 2 ^ (8 * j)
  | 0 => Nat.one_pos
  | j + 1 => by
    have ih := hB_lt hb (m := m) j
    have h1 := hb (m - (j + 1))
    have h2 : 2 ^ (8 * (j + 1)) = 2 ^ (8 * j) * 256 := by rw [show 8 * (j + 1) = 8 * j + 8 by omega, Nat.pow_add]
    rw [hB, h2]
    omega
theorem hB_up {b : Nat → Nat} (hb : ∀ i, b i ≤ 255) {m j : Nat} (hj : j < 4) : o_or (o_shl (nI (hB b m j)) 8) (nI (b (m - (j + 1)))) = nI (hB b m (j + 1)) := by
  have h0 := hB_lt hb (m := m) j
  have h1 := hb (m - (j + 1))
  have h2 : 2 ^ (8 * j) ≤ 2 ^ 24 := Nat.pow_le_pow_right (by omega) (by omega)
  have hs : o_shl (nI (hB b m j)) 8 = nI (hB b m j * 2 ^ 8) := pk_shlN _ 8 (by decide) (by omega)
  rw [hs]
  show nI (hB b m j * 2 ^ 8) ||| nI (b (m - (j + 1))) = _
  rw [n_or, Nat.or_comm, or_add (k := 8) _ (by omega), hB]
  congr 1
  omega
theorem sx8 : ∀ t, t < 256 → o_shr (o_shl (nI t) 24) 24 = if t ≤ 127 then nI t else nI t - 256 := by decide +kernel
theorem sx16 {t : Nat} (ht : t < 65536) : o_shr (o_shl (nI t) 16) 16 = if t ≤ 32767 then nI t else nI t - 65536 := by
  have hs : o_shl (nI t) 16 = nI (t * 2 ^ 16) := pk_shlN _ 16 (by decide) (by omega)
  rw [hs]
  apply Int32.toInt_inj.mp
  have hr : (o_shr (nI (t * 2 ^ 16)) 16).toInt = (nI (t * 2 ^ 16)).toInt >>> 16 := pk_shr _ _ 16 (by decide)
  have hu := i32u (nI (t * 2 ^ 16))
  have hn : (nI (t * 2 ^ 16)).toBitVec.toNat = t * 2 ^ 16 := by
    show (BitVec.ofNat 32 (t * 2 ^ 16)).toNat = _
    rw [BitVec.toNat_ofNat]
    omega
  have hlo := Int32.le_toInt (nI (t * 2 ^ 16))
  have hhi := Int32.toInt_lt (nI (t * 2 ^ 16))
  rw [hn] at hu
  rw [hr, Int.shiftRight_eq_div_pow]
  by_cases h : t ≤ 32767
  · rw [if_pos h, nI_toInt (n := t) (by omega)]
    omega
  · rw [if_neg h, show (65536 : Int32) = nI 65536 from by decide, pk_sub_toInt (by omega) (by omega)]
    omega
