/-! PURE 16: last; how many bits are set. -/
theorem n_and (p q : Nat) : nI p &&& nI q = nI (p &&& q) := by
  apply Int32.toBitVec_inj.1
  show BitVec.ofNat 32 p &&& BitVec.ofNat 32 q = BitVec.ofNat 32 (p &&& q)
  apply BitVec.eq_of_getLsbD_eq
  intro i hi
  simp [hi]
theorem n_self (x : Int32) : x = nI x.toBitVec.toNat := by
  apply Int32.toBitVec_inj.1
  show x.toBitVec = BitVec.ofNat 32 x.toBitVec.toNat
  exact (BitVec.ofNat_toNat' ).symm
theorem n_sub {p q : Nat} (h : q ≤ p) : nI p - nI q = nI (p - q) := by
  have e : nI (p - q) + nI q = nI p := by
    rw [show nI (p - q) + nI q = nI (p - q + q) from nI_add _ _, Nat.sub_add_cancel h]
  rw [← e, Int32.add_sub_cancel]
theorem spl (p A R B m : Nat) (hB : B = 2 ^ p) (hm : m < B) : A &&& (m + B * R) = (A % B &&& m) + B * ((A / B) &&& R) := by
  have h1 : (A &&& (m + B * R)) % B = A % B &&& m := by
    rw [hB, Nat.and_mod_two_pow, ← hB, Nat.add_mul_mod_self_left, Nat.mod_eq_of_lt hm]
  have h2 : (A &&& (m + B * R)) / B = (A / B) &&& R := by
    rw [hB, Nat.and_div_two_pow, ← hB, Nat.add_mul_div_left _ _ (by omega), Nat.div_eq_of_lt hm, Nat.zero_add]
  rw [← h1, ← h2, Nat.mod_add_div]
theorem sp1 (A R : Nat) : A &&& (1 + 4 * R) = A % 2 + 4 * ((A / 4) &&& R) := by
  rw [spl 2 A R 4 1 rfl (by omega), Nat.and_one_is_mod]
  omega
theorem sp3 (A R : Nat) : A &&& (3 + 16 * R) = A % 4 + 16 * ((A / 16) &&& R) := by
  rw [spl 4 A R 16 3 rfl (by omega), show 3 = 2 ^ 2 - 1 from rfl, Nat.and_two_pow_sub_one_eq_mod]
  omega
theorem sp15 (A R : Nat) : A &&& (15 + 256 * R) = A % 16 + 256 * ((A / 256) &&& R) := by
  rw [spl 8 A R 256 15 rfl (by omega), show 15 = 2 ^ 4 - 1 from rfl, Nat.and_two_pow_sub_one_eq_mod]
  omega
def R1 : Nat → Nat
  | 0 => 0
  | n + 1 => 1 + 4 * R1 n
def R3 : Nat → Nat
  | 0 => 0
  | n + 1 => 3 + 16 * R3 n
def R15 : Nat → Nat
  | 0 => 0
  | n + 1 => 15 + 256 * R15 n
def S1 : Nat → Nat → Nat
  | 0, _ => 0
  | n + 1, N => (N % 2 + N / 2 % 2) + 4 * S1 n (N / 4)
def S2 : Nat → Nat → Nat
  | 0, _ => 0
  | n + 1, N => (N % 2 + N / 2 % 2 + (N / 4 % 2 + N / 4 / 2 % 2)) + 16 * S2 n (N / 16)
def S3 : Nat → Nat → Nat
  | 0, _ => 0
  | n + 1, N => ((N % 2 + N / 2 % 2 + (N / 4 % 2 + N / 4 / 2 % 2)) + (N / 16 % 2 + N / 16 / 2 % 2 + (N / 16 / 4 % 2 + N / 16 / 4 / 2 % 2))) + 256 * S3 n (N / 256)
theorem st1 : ∀ n N, N < 4 ^ n → (N / 2 &&& R1 n) + S1 n N = N
  | 0, N, h => by
    have : N = 0 := by
      have : (4 : Nat) ^ 0 = 1 := rfl
      omega
    subst this
    rfl
  | n + 1, N, h => by
    have ih := st1 n (N / 4) (by
      have : (4 : Nat) ^ (n + 1) = 4 ^ n * 4 := Nat.pow_succ 4 n
      omega)
    rw [R1, S1, sp1, show N / 2 / 4 = N / 4 / 2 by omega]
    omega
theorem st2 : ∀ n N, (S1 (2 * n) N &&& R3 n) + (S1 (2 * n) N / 4 &&& R3 n) = S2 n N
  | 0, N => rfl
  | n + 1, N => by
    have ih := st2 n (N / 16)
    have e : S1 (2 * (n + 1)) N = (N % 2 + N / 2 % 2) + 4 * ((N / 4 % 2 + N / 4 / 2 % 2) + 4 * S1 (2 * n) (N / 16)) := by
      show S1 (2 * n + 1 + 1) N = _
      rw [S1, S1, show N / 4 / 4 = N / 16 by omega]
    rw [R3, S2, sp3, sp3]
    have e1 : S1 (2 * (n + 1)) N / 16 = S1 (2 * n) (N / 16) := by rw [e]; omega
    have e2 : S1 (2 * (n + 1)) N / 4 / 16 = S1 (2 * n) (N / 16) / 4 := by rw [e]; omega
    rw [e1, e2]
    have e3 : S1 (2 * (n + 1)) N % 4 = N % 2 + N / 2 % 2 := by rw [e]; omega
    have e4 : S1 (2 * (n + 1)) N / 4 % 4 = N / 4 % 2 + N / 4 / 2 % 2 := by rw [e]; omega
    rw [e3, e4]
    omega
theorem S2_le : ∀ n N, S2 n N % 16 ≤ 4
  | 0, N => by rw [S2]; omega
  | n + 1, N => by rw [S2]; omega
theorem st3 : ∀ n N, (S2 (2 * n) N + S2 (2 * n) N / 16) &&& R15 n = S3 n N
  | 0, N => rfl
  | n + 1, N => by
    have ih := st3 n (N / 256)
    have hl := S2_le (2 * n) (N / 256)
    have e : S2 (2 * (n + 1)) N = (N % 2 + N / 2 % 2 + (N / 4 % 2 + N / 4 / 2 % 2)) + 16 * ((N / 16 % 2 + N / 16 / 2 % 2 + (N / 16 / 4 % 2 + N / 16 / 4 / 2 % 2)) + 16 * S2 (2 * n) (N / 256)) := by
      show S2 (2 * n + 1 + 1) N = _
      rw [S2, S2, show N / 16 / 16 = N / 256 by omega]
    generalize S2 (2 * (n + 1)) N = y at e ⊢
    generalize hz : S2 (2 * n) (N / 256) = z at e ih hl
    rw [R15, S3, sp15, ← ih]
    generalize h1 : N % 2 + N / 2 % 2 + (N / 4 % 2 + N / 4 / 2 % 2) = q at e ⊢
    generalize h2 : N / 16 % 2 + N / 16 / 2 % 2 + (N / 16 / 4 % 2 + N / 16 / 4 / 2 % 2) = r at e ⊢
    have hq : q ≤ 4 := by omega
    have hr : r ≤ 4 := by omega
    clear h1 h2 hz ih
    have e1 : (y + y / 16) / 256 = z + z / 16 := by omega
    have e2 : (y + y / 16) % 16 = q + r := by omega
    rw [e1, e2]
def sB (N : Nat) : Nat → Nat
  | 0 => 0
  | n + 1 => sB N n + N / 2 ^ n % 2
def eS (N : Nat) : Nat := (N % 2 + N / 2 % 2 + (N / 4 % 2 + N / 4 / 2 % 2)) + (N / 16 % 2 + N / 16 / 2 % 2 + (N / 16 / 4 % 2 + N / 16 / 4 / 2 % 2))
theorem eS_le (N : Nat) : eS N ≤ 8 := by unfold eS; omega
theorem eS_sum (N : Nat) : eS N + eS (N / 256) + eS (N / 65536) + eS (N / 16777216) = sB N 32 := by
  unfold eS
  simp only [sB, Nat.div_div_eq_div_mul, Nat.reduceMul, Nat.reducePow, Nat.div_one]
  omega
theorem S3_4 (N : Nat) : S3 4 N = eS N + 256 * (eS (N / 256) + 256 * (eS (N / 65536) + 256 * eS (N / 16777216))) := by
  simp only [S3, eS, Nat.div_div_eq_div_mul, Nat.reduceMul]
  omega
