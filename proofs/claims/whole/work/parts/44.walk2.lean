/-! PURE 24: items one after another. -/
def Bc (M : Nat → Int32) (n p : Nat) : Nat := if p < n then (M p).toInt.toNat else 0
theorem Bc_le {M : Nat → Int32} {n : Nat} (h : ∀ i, i < n → Byt (M i)) (p : Nat) : Bc M n p ≤ 255 := by
  unfold Bc
  split
  · have := h p (by assumption)
    unfold Byt at this
    omega
  · omega
theorem Bc_m {M : Nat → Int32} {n p : Nat} (h : ∀ i, i < n → Byt (M i)) (hp1 : p < n) : M p = nI (Bc M n p) := by
  unfold Bc
  rw [if_pos hp1]
  have hb := h p hp1
  unfold Byt at hb
  apply Int32.toInt_inj.mp
  rw [nI_toInt (by omega)]
  omega
theorem Bc_c {F M : Nat → Int32} {n p : Nat} (h : ∀ i, i < n → F i = M i ∧ Byt (M i)) (h96 : n ≤ 96) (hp1 : p ≤ 300) : rwA F n (nI p) = nI (Bc M n p) := by
  by_cases hl : p < n
  · rw [rwA_in hl (by omega), (h p hl).1]
    exact Bc_m (fun i hi => (h i hi).2) hl
  · unfold rwA Bc
    rw [nI_toInt (by omega), if_neg (by omega), if_neg hl]
    rfl
/-- where the k-th item begins -/
def pos (M : Nat → Int32) (n : Nat) : Nat → Nat
  | 0 => 0
  | k + 1 => pos M n k + 1 + mo (Bc M n (pos M n k))
/-- the k-th item has all its bytes -/
def wh (M : Nat → Int32) (n k : Nat) : Prop := pos M n (k + 1) ≤ n
theorem pos_le (M : Nat → Int32) (n : Nat) : ∀ k, k ≤ pos M n k
  | 0 => Nat.zero_le _
  | k + 1 => by
    have := pos_le M n k
    rw [pos]
    omega
theorem pos_mono (M : Nat → Int32) (n : Nat) {k : Nat} : ∀ d, pos M n k ≤ pos M n (k + d)
  | 0 => Nat.le_refl _
  | d + 1 => by
    have := pos_mono M n (k := k) d
    show _ ≤ pos M n (k + d + 1)
    rw [pos]
    omega
