/-! PURE 16: last; how many bits are set. -/
theorem n_and (p q : Nat) : nI p &&& nI q = nI (p &&& q) := by
  apply Int32.toBitVec_inj.1
  show BitVec.ofNat 32 p &&& BitVec.ofNat 32 q = BitVec.ofNat 32 (p &&& q)
  apply BitVec.eq_of_getLsbD_eq
  intro i hi
  simp [hi]
theorem n_self (x : Int32) : x = nI x.toBitVec.toNat := by
  apply Int32.toBitVec_inj.1
  show x.toBitVec = BitVec.ofNat 32 x.toBitVec.toNat
  apply BitVec.eq_of_toNat_eq
  simp
theorem n_sub {p q : Nat} (h : q ≤ p) : nI p - nI q = nI (p - q) := by
  have e : nI (p - q) + nI q = nI p := by
    rw [show nI (p - q) + nI q = nI (p - q + q) from nI_add _ _, Nat.sub_add_cancel h]
  rw [← e, Int32.add_sub_cancel]
theorem spl (p A R B m : Nat) (hB : B = 2 ^ p) (hm : m < B) : A &&& (m + B * R) = (A % B &&& m) + B * ((A / B) &&& R) := by
  have h1 : (A &&& (m + B * R)) % B = A % B &&& m := by
    rw [hB, Nat.and_mod_two_pow, ← hB, Nat.add_mul_mod_self_left, Nat.mod_eq_of_lt hm]
  have h2 : (A &&& (m + B * R)) / B = (A / B) &&& R := by
    rw [hB, Nat.and_div_two_pow, ← hB, Nat.add_mul_div_left _ _ (by omega), Nat.div_eq_of_lt hm, Nat.zero_add]
  rw [← h1, ← h2, Nat.mod_add_div]
theorem sp1 (A R : Nat) : A &&& (1 + 4 * R) = A % 2 + 4 * ((A / 4) &&& R) := by
  rw [spl 2 A R 4 1 rfl (by omega), Nat.and_one_is_mod]
  omega
theorem sp3 (A R : Nat) : A &&& (3 + 16 * R) = A % 4 + 16 * ((A / 16) &&& R) := by
  rw [spl 4 A R 16 3 rfl (by omega), show 3 = 2 ^ 2 - 1 from rfl, Nat.and_two_pow_sub_one_eq_mod]
  omega
theorem sp15 (A R : Nat) : A &&& (15 + 256 * R) = A % 16 + 256 * ((A / 256) &&& R) := by
  rw [spl 8 A R 256 15 rfl (by omega), show 15 = 2 ^ 4 - 1 from rfl, Nat.and_two_pow_sub_one_eq_mod]
  omega
def R1 : Nat → Nat
  | 0 => 0
  | n + 1 => 1 + 4 * R1 n
def R3 : Nat → Nat
  | 0 => 0
  | n + 1 => 3 + 16 * R3 n
def R15 : Nat → Nat
  | 0 => 0
  | n + 1 => 15 + 256 * R15 n
def S1 : Nat → Nat → Nat
  | 0, _ => 0
  | n + 1, N => (N % 2 + N / 2 % 2) + 4 * S1 n (N / 4)
def S2 : Nat → Nat → Nat
  | 0, _ => 0
  | n + 1, N => (N % 2 + N / 2 % 2 + (N / 4 % 2 + N / 4 / 2 % 2)) + 16 * S2 n (N / 16)
def S3 : Nat → Nat → Nat
  | 0, _ => 0
  | n + 1, N => ((N % 2 + N / 2 % 2 + (N / 4 % 2 + N / 4 / 2 % 2)) + (N / 16 % 2 + N / 16 / 2 % 2 + (N / 16 / 4 % 2 + N / 16 / 4 / 2 % 2))) + 256 * S3 n (N / 256)
theorem m2 (p q : Nat) : p % 2 + q % 2 ≤ 2 := by omega
theorem m4 (p q r s : Nat) : p % 2 + q % 2 + (r % 2 + s % 2) ≤ 4 := by omega
theorem sg1 : ∀ n N, N < 4 ^ n → (N / 2 &&& R1 n) + S1 n N = N
  | 0, N, h => by
    have : N = 0 := by
      have : (4 : Nat) ^ 0 = 1 := rfl
      omega
    subst this
    rfl
  | n + 1, N, h => by
    have ih := sg1 n (N / 4) (by
      have : (4 : Nat) ^ (n + 1) = 4 ^ n * 4 := Nat.pow_succ 4 n
      omega)
    rw [R1, S1, sp1, show N / 2 / 4 = N / 4 / 2 by omega]
    omega
theorem sg2 : ∀ n N, (S1 (2 * n) N &&& R3 n) + (S1 (2 * n) N / 4 &&& R3 n) = S2 n N
  | 0, N => by
    show (_ &&& 0) + (_ &&& 0) = 0
    rw [Nat.and_zero, Nat.and_zero]
  | n + 1, N => by
    have ih := sg2 n (N / 16)
    have e : S1 (2 * (n + 1)) N = (N % 2 + N / 2 % 2) + 4 * ((N / 4 % 2 + N / 4 / 2 % 2) + 4 * S1 (2 * n) (N / 16)) := by
      show S1 (2 * n + 1 + 1) N = _
      rw [S1, S1, show N / 4 / 4 = N / 16 by omega]
    generalize S1 (2 * (n + 1)) N = y at e ⊢
    generalize hz : S1 (2 * n) (N / 16) = z at e ih
    rw [R3, S2, sp3, sp3, ← ih]
    have hq := m2 N (N / 2)
    have hr := m2 (N / 4) (N / 4 / 2)
    generalize N % 2 + N / 2 % 2 = q at e hq ⊢
    generalize N / 4 % 2 + N / 4 / 2 % 2 = r at e hr ⊢
    clear hz ih
    have e1 : y / 16 = z := by omega
    have e2 : y / 4 / 16 = z / 4 := by omega
    have e3 : y % 4 = q := by omega
    have e4 : y / 4 % 4 = r := by omega
    rw [e1, e2, e3, e4]
    clear e1 e2 e3 e4 e hq hr
    omega
theorem S2_le : ∀ n N, S2 n N % 16 ≤ 4
  | 0, N => by rw [S2]; omega
  | n + 1, N => by
    have hq := m4 N (N / 2) (N / 4) (N / 4 / 2)
    rw [S2]
    generalize N % 2 + N / 2 % 2 + (N / 4 % 2 + N / 4 / 2 % 2) = q at hq ⊢
    omega
theorem sg3 : ∀ n N, (S2 (2 * n) N + S2 (2 * n) N / 16) &&& R15 n = S3 n N
  | 0, N => by
    show (_ &&& 0) = 0
    rw [Nat.and_zero]
  | n + 1, N => by
    have ih := sg3 n (N / 256)
    have hl := S2_le (2 * n) (N / 256)
    have e : S2 (2 * (n + 1)) N = (N % 2 + N / 2 % 2 + (N / 4 % 2 + N / 4 / 2 % 2)) + 16 * ((N / 16 % 2 + N / 16 / 2 % 2 + (N / 16 / 4 % 2 + N / 16 / 4 / 2 % 2)) + 16 * S2 (2 * n) (N / 256)) := by
      show S2 (2 * n + 1 + 1) N = _
      rw [S2, S2, show N / 16 / 16 = N / 256 by omega]
    generalize S2 (2 * (n + 1)) N = y at e ⊢
    generalize hz : S2 (2 * n) (N / 256) = z at e ih hl
    rw [R15, S3, sp15, ← ih]
    have hq := m4 N (N / 2) (N / 4) (N / 4 / 2)
    have hr := m4 (N / 16) (N / 16 / 2) (N / 16 / 4) (N / 16 / 4 / 2)
    generalize N % 2 + N / 2 % 2 + (N / 4 % 2 + N / 4 / 2 % 2) = q at e hq ⊢
    generalize N / 16 % 2 + N / 16 / 2 % 2 + (N / 16 / 4 % 2 + N / 16 / 4 / 2 % 2) = r at e hr ⊢
    clear hz ih
    have e1 : (y + y / 16) / 256 = z + z / 16 := by omega
    have e2 : (y + y / 16) % 16 = q + r := by omega
    rw [e1, e2]
def sB (N : Nat) : Nat → Nat
  | 0 => 0
  | n + 1 => sB N n + N / 2 ^ n % 2
def eS (N : Nat) : Nat := (N % 2 + N / 2 % 2 + (N / 4 % 2 + N / 4 / 2 % 2)) + (N / 16 % 2 + N / 16 / 2 % 2 + (N / 16 / 4 % 2 + N / 16 / 4 / 2 % 2))
theorem eS_le (N : Nat) : eS N ≤ 8 := by
  have hq := m4 N (N / 2) (N / 4) (N / 4 / 2)
  have hr := m4 (N / 16) (N / 16 / 2) (N / 16 / 4) (N / 16 / 4 / 2)
  exact Nat.add_le_add hq hr
theorem eS_sum (N : Nat) : eS N + eS (N / 256) + eS (N / 65536) + eS (N / 16777216) = sB N 32 := by
  unfold eS
  simp only [sB, Nat.div_div_eq_div_mul, Nat.reduceMul, Nat.reducePow, Nat.div_one, Nat.zero_add]
  ac_rfl
theorem S3_4 (N : Nat) : S3 4 N = eS N + 256 * (eS (N / 256) + 256 * (eS (N / 65536) + 256 * eS (N / 16777216))) := by
  simp only [S3, eS, Nat.div_div_eq_div_mul, Nat.reduceMul, Nat.mul_zero, Nat.add_zero]
theorem b_lt (x : Int32) : x.toBitVec.toNat < 4294967296 := x.toBitVec.isLt
theorem sj : ∀ j, j < 32 → ((nI j &&& 31).toBitVec.smod 32).toNat = j := by decide +kernel
theorem bitI (x : Int32) {j : Nat} (hj : j < 32) : o_and (o_shr x (nI j)) 1 = nI (x.toBitVec.toNat / 2 ^ j % 2) := by
  have h1 : o_and (o_shr x (nI j)) 1 = nI ((o_shr x (nI j)).toBitVec.toNat % 2) := pk_and _ 1 (by decide)
  rw [h1]
  congr 1
  have hs : (o_shr x (nI j)).toInt = x.toInt >>> j := pk_shr x (nI j &&& 31) j (sj j hj)
  rw [Int.shiftRight_eq_div_pow] at hs
  have hu := i32u (o_shr x (nI j))
  have hx := i32u x
  obtain ⟨c, hc⟩ : ∃ c : Int, x.toInt = x.toBitVec.toNat + (2 ^ j : Nat) * (2 * ((2 ^ (31 - j) : Nat) * c)) := by
    refine ⟨x.toInt / 4294967296, ?_⟩
    have e : (2 ^ j : Nat) * (2 * (2 ^ (31 - j))) = 4294967296 := by
      rw [Nat.mul_comm 2, ← Nat.pow_succ, ← Nat.pow_add, show j + (31 - j).succ = 32 by omega]
    have e2 : ((2 ^ j : Nat) : Int) * (2 * ((2 ^ (31 - j) : Nat) * (x.toInt / 4294967296))) = 4294967296 * (x.toInt / 4294967296) := by
      rw [← Int.mul_assoc 2, ← Int.mul_assoc]
      congr 1
      have e' : (((2 ^ j : Nat) * (2 * (2 ^ (31 - j))) : Nat) : Int) = 4294967296 := by rw [e]; rfl
      rw [Int.natCast_mul, Int.natCast_mul] at e'
      exact e'
    rw [e2, hx]
    omega
  have hp : ((2 ^ j : Nat) : Int) ≠ 0 := by
    have : 0 < 2 ^ j := Nat.pow_pos (by omega)
    omega
  have hd : x.toInt / (2 ^ j : Nat) = (x.toBitVec.toNat / 2 ^ j : Nat) + 2 * ((2 ^ (31 - j) : Nat) * c) := by
    rw [hc, Int.add_mul_ediv_left _ _ hp]
    rfl
  rw [hd] at hs
  generalize ((2 ^ (31 - j) : Nat) : Int) * c = t at hs
  omega
section Last
variable {sa : Nat → Nat} {a : Nat}
theorem ushN {n : Nat} (h : n < 4294967296) (s : Int32) (k : Nat) (hs : ((s.toUInt32 &&& Int32.toUInt32 31).toBitVec % 32).toNat = k) : o_ushr (nI n) s = nI (n / 2 ^ k) := pk_ushrN (n := n) h s k hs
theorem c_count (x : Int32) {G : Hp} : f_J6_bitCount_0f7a4 sa [.int x] G = some (some (.int (nI (sB x.toBitVec.toNat 32))), G) := by
  have hN := b_lt x
  generalize hx : x.toBitVec.toNat = N at hN ⊢
  have hxx : x = nI N := by rw [← hx]; exact n_self x
  subst hxx
  have t1 := sg1 16 N (by rw [show (4 : Nat) ^ 16 = 4294967296 from rfl]; exact hN)
  have t2 := sg2 8 N
  have t3 := sg3 4 N
  have t4 := S3_4 N
  have ts := eS_sum N
  have l0 := eS_le N
  have l1 := eS_le (N / 256)
  have l2 := eS_le (N / 65536)
  have l3 := eS_le (N / 16777216)
  rw [show R1 16 = 1431655765 from rfl] at t1
  rw [show R3 8 = 858993459 from rfl, show 2 * 8 = 16 from rfl] at t2
  rw [show R15 4 = 252645135 from rfl, show 2 * 4 = 8 from rfl] at t3
  rw [← ts]
  generalize eS N = p0 at *
  generalize eS (N / 256) = p1 at *
  generalize eS (N / 65536) = p2 at *
  generalize eS (N / 16777216) = p3 at *
  clear ts hx
  have r1 : o_sub (nI N) (o_and (o_ushr (nI N) 1) 1431655765) = nI (S1 16 N) := by
    rw [ushN hN 1 1 (by decide), show o_and (nI (N / 2 ^ 1)) 1431655765 = nI (N / 2 &&& 1431655765) from n_and _ _, show ∀ u v, o_sub (nI u) (nI v) = nI u - nI v from fun _ _ => rfl, n_sub (by omega)]
    congr 1
    omega
  have hy : S1 16 N < 4294967296 := by omega
  generalize S1 16 N = y at *
  have r2 : o_add (o_and (nI y) 858993459) (o_and (o_ushr (nI y) 2) 858993459) = nI (S2 8 N) := by
    rw [ushN hy 2 2 (by decide), show o_and (nI (y / 2 ^ 2)) 858993459 = nI (y / 4 &&& 858993459) from n_and _ _, show o_and (nI y) 858993459 = nI (y &&& 858993459) from n_and _ _, show ∀ u v, o_add (nI u) (nI v) = nI u + nI v from fun _ _ => rfl, show ∀ u v, nI u + nI v = nI (u + v) from nI_add, t2]
  have hz : S2 8 N < 4294967296 := by
    have h1 : y &&& 858993459 ≤ 858993459 := Nat.and_le_right
    have h2 : y / 4 &&& 858993459 ≤ 858993459 := Nat.and_le_right
    omega
  generalize S2 8 N = z at *
  have r3 : o_and (o_add (nI z) (o_ushr (nI z) 4)) 252645135 = nI (S3 4 N) := by
    rw [ushN hz 4 4 (by decide), show ∀ u v, o_add (nI u) (nI v) = nI (u + v) from nI_add, show ∀ u, o_and (nI u) 252645135 = nI (u &&& 252645135) from fun u => n_and u 252645135, ← t3]
  rw [t4] at r3
  generalize hu : p0 + 256 * (p1 + 256 * (p2 + 256 * p3)) = u at *
  have r4 : o_add (nI u) (o_ushr (nI u) 8) = nI (u + u / 256) := by
    rw [ushN (by omega) 8 8 (by decide)]
    exact nI_add _ _
  have r5 : o_add (nI (u + u / 256)) (o_ushr (nI (u + u / 256)) 16) = nI (u + u / 256 + (u + u / 256) / 65536) := by
    rw [ushN (by omega) 16 16 (by decide)]
    exact nI_add _ _
  have r6 : o_and (nI (u + u / 256 + (u + u / 256) / 65536)) 63 = nI (p0 + p1 + p2 + p3) := by
    have := pk_andN (n := u + u / 256 + (u + u / 256) / 65536) (by omega) (m := 63) 6 (by decide)
    show nI (u + u / 256 + (u + u / 256) / 65536) &&& 63 = _
    rw [this]
    congr 1
    omega
  rw [e_J6_bitCount_0f7a4]
  unfold b_J6_bitCount_0f7a4
  simp only [ev_vI0, ev_vJ0, ev_vA0, ev_st1_0, ev_st2_0, ev_vI1, ev_vJ1, ev_vA1, ev_st1_1, ev_st2_1, ev_vI2, ev_vJ2, ev_vA2, ev_st1_2, ev_st2_2, ev_vI3, ev_vJ3, ev_vA3, ev_st1_3, ev_st2_3, ev_vI4, ev_vJ4, ev_vA4, ev_st1_4, ev_st2_4, ev_vI5, ev_vJ5, ev_vA5, ev_st1_5, ev_st2_5, ev_vI6, ev_vJ6, ev_vA6, ev_st1_6, ev_st2_6, ev_vI7, ev_vJ7, ev_vA7, ev_st1_7, ev_st2_7, ev_vI8, ev_vJ8, ev_vA8, ev_st1_8, ev_st2_8, ev_vI9, ev_vJ9, ev_vA9, ev_st1_9, ev_st2_9, ev_vI10, ev_vJ10, ev_vA10, ev_st1_10, ev_st2_10, ev_vI11, ev_vJ11, ev_vA11, ev_st1_11, ev_st2_11, ev_vI12, ev_vJ12, ev_vA12, ev_st1_12, ev_st2_12, ev_kI, ev_kJ, ev_bI, ev_bI1, ev_bI2, ev_bQ, ev_bQ1, ev_bQ2, ev_bJ, ev_bJ1, ev_bJ2, ev_bQJ, ev_bQJ1, ev_bQJ2, ev_uIJ, ev_uIJ1, ev_uJI, ev_uJI1, ev_uJJ, ev_uJJ1, ev_fI, ev_fI1, ev_fI2, ev_fA, ev_fA1, ev_fA2, ev_aI, ev_aI1, ev_aI2, ev_aI3, ev_aN, ev_aN1, ev_aN2, ev_cI, ev_cIt, ev_cIf, ev_qI, ev_qI1, ev_qI2, ev_qJ, ev_qJ1, ev_qJ2, ev_qZ, ev_qZ1, ev_qAnd, ev_qAndt, ev_qAndf, ev_qOr, ev_qOrt, ev_qOrf, ev_qNot, ev_qNot1, ev_qIf, ev_qIft, ev_qIff, ev_aNil, ev_aC, ev_aC1, ev_aC2, ev_unI, ev_unJ, ev_unA, ev_unV, ev_mV, ev_mV1, ev_mV2, ev_mV3, ev_mS, ev_mS1, ev_skip, ev_seq, ev_seq0, ev_seq1, ev_seq2, ev_seqr, ev_sI, ev_sI1, ev_sA, ev_sA1, ev_sJ, ev_sJ1, ev_inc, ev_inc1, ev_kln, ev_kli, ev_klr, ev_klj, ev_G, ev_put, ev_put1, ev_put2, ev_putZ, ev_putZ1, ev_putZ2, ev_ast, ev_ast1, ev_ast2, ev_ast3, ev_astZ, ev_astZ1, ev_astZ2, ev_astZ3, ev_fop, ev_fop1, ev_fop2, ev_fop3, ev_aop, ev_aop1, ev_aop2, ev_aop3, ev_aop4, ev_sV, ev_sV1, ev_pop, ev_pop1, ev_rI, ev_rI1, ev_rJ, ev_rJ1, ev_rA, ev_rA1, ev_rV, ev_brk, ev_cont, ev_sIf, ev_sIft, ev_sIff, ev_sw, ev_sw1, ev_sw0, ev_sw1b, ev_sw2, ev_swr, ev_wh, ev_whf, ev_wht, ev_wh0, ev_wh1, ev_wh2, ev_whr, ev_wh3, ev_mr, ev_mrI, ev_mrJ, ev_mrV, ev_mrA, ev_mrZ1, ev_mrZ0, ev_bs, r1, r2, r3, r4, r5, r6]
end Last
