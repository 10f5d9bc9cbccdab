/-! PURE 16: last; how many bits are set. -/
theorem n_and (p q : Nat) : nI p &&& nI q = nI (p &&& q) := by
  apply Int32.toBitVec_inj.1
  show BitVec.ofNat 32 p &&& BitVec.ofNat 32 q = BitVec.ofNat 32 (p &&& q)
  apply BitVec.eq_of_getLsbD_eq
  intro i hi
  simp [hi]
theorem n_self (x : Int32) : x = nI x.toBitVec.toNat := by
  apply Int32.toBitVec_inj.1
  show x.toBitVec = BitVec.ofNat 32 x.toBitVec.toNat
  apply BitVec.eq_of_toNat_eq
  simp
theorem n_sub {p q : Nat} (h : q ≤ p) : nI p - nI q = nI (p - q) := by
  have e : nI (p - q) + nI q = nI p := by
    rw [show nI (p - q) + nI q = nI (p - q + q) from nI_add _ _, Nat.sub_add_cancel h]
  rw [← e, Int32.add_sub_cancel]
theorem spl (p A R B m : Nat) (hB : B = 2 ^ p) (hm : m < B) : A &&& (m + B * R) = (A % B &&& m) + B * ((A / B) &&& R) := by
  have h1 : (A &&& (m + B * R)) % B = A % B &&& m := by
    rw [hB, Nat.and_mod_two_pow, ← hB, Nat.add_mul_mod_self_left, Nat.mod_eq_of_lt hm]
  have h2 : (A &&& (m + B * R)) / B = (A / B) &&& R := by
    rw [hB, Nat.and_div_two_pow, ← hB, Nat.add_mul_div_left _ _ (by omega), Nat.div_eq_of_lt hm, Nat.zero_add]
  rw [← h1, ← h2, Nat.mod_add_div]
theorem sp1 (A R : Nat) : A &&& (1 + 4 * R) = A % 2 + 4 * ((A / 4) &&& R) := by
  rw [spl 2 A R 4 1 rfl (by omega), Nat.and_one_is_mod]
  omega
theorem sp3 (A R : Nat) : A &&& (3 + 16 * R) = A % 4 + 16 * ((A / 16) &&& R) := by
  rw [spl 4 A R 16 3 rfl (by omega), show 3 = 2 ^ 2 - 1 from rfl, Nat.and_two_pow_sub_one_eq_mod]
  omega
theorem sp15 (A R : Nat) : A &&& (15 + 256 * R) = A % 16 + 256 * ((A / 256) &&& R) := by
  rw [spl 8 A R 256 15 rfl (by omega), show 15 = 2 ^ 4 - 1 from rfl, Nat.and_two_pow_sub_one_eq_mod]
  omega
def R1 : Nat → Nat
  | 0 => 0
  | n + 1 => 1 + 4 * R1 n
def R3 : Nat → Nat
  | 0 => 0
  | n + 1 => 3 + 16 * R3 n
def R15 : Nat → Nat
  | 0 => 0
  | n + 1 => 15 + 256 * R15 n
def S1 : Nat → Nat → Nat
  | 0, _ => 0
  | n + 1, N => (N % 2 + N / 2 % 2) + 4 * S1 n (N / 4)
def S2 : Nat → Nat → Nat
  | 0, _ => 0
  | n + 1, N => (N % 2 + N / 2 % 2 + (N / 4 % 2 + N / 4 / 2 % 2)) + 16 * S2 n (N / 16)
def S3 : Nat → Nat → Nat
  | 0, _ => 0
  | n + 1, N => ((N % 2 + N / 2 % 2 + (N / 4 % 2 + N / 4 / 2 % 2)) + (N / 16 % 2 + N / 16 / 2 % 2 + (N / 16 / 4 % 2 + N / 16 / 4 / 2 % 2))) + 256 * S3 n (N / 256)
theorem m2 (p q : Nat) : p % 2 + q % 2 ≤ 2 := by omega
theorem m4 (p q r s : Nat) : p % 2 + q % 2 + (r % 2 + s % 2) ≤ 4 := by omega
theorem sg1 : ∀ n N, N < 4 ^ n → (N / 2 &&& R1 n) + S1 n N = N
  | 0, N, h => by
    have : N = 0 := by
      have : (4 : Nat) ^ 0 = 1 := rfl
      omega
    subst this
    rfl
  | n + 1, N, h => by
    have ih := sg1 n (N / 4) (by
      have : (4 : Nat) ^ (n + 1) = 4 ^ n * 4 := Nat.pow_succ 4 n
      omega)
    rw [R1, S1, sp1, show N / 2 / 4 = N / 4 / 2 by omega]
    omega
theorem sg2 : ∀ n N, (S1 (2 * n) N &&& R3 n) + (S1 (2 * n) N / 4 &&& R3 n) = S2 n N
  | 0, N => by
    show (_ &&& 0) + (_ &&& 0) = 0
    rw [Nat.and_zero, Nat.and_zero]
  | n + 1, N => by
    have ih := sg2 n (N / 16)
    have e : S1 (2 * (n + 1)) N = (N % 2 + N / 2 % 2) + 4 * ((N / 4 % 2 + N / 4 / 2 % 2) + 4 * S1 (2 * n) (N / 16)) := by
      show S1 (2 * n + 1 + 1) N = _
      rw [S1, S1, show N / 4 / 4 = N / 16 by omega]
    generalize S1 (2 * (n + 1)) N = y at e ⊢
    generalize hz : S1 (2 * n) (N / 16) = z at e ih
    rw [R3, S2, sp3, sp3, ← ih]
    have hq := m2 N (N / 2)
    have hr := m2 (N / 4) (N / 4 / 2)
    generalize N % 2 + N / 2 % 2 = q at e hq ⊢
    generalize N / 4 % 2 + N / 4 / 2 % 2 = r at e hr ⊢
    clear hz ih
    have e1 : y / 16 = z := by omega
    have e2 : y / 4 / 16 = z / 4 := by omega
    have e3 : y % 4 = q := by omega
    have e4 : y / 4 % 4 = r := by omega
    rw [e1, e2, e3, e4]
    clear e1 e2 e3 e4 e hq hr
    omega
theorem S2_le : ∀ n N, S2 n N % 16 ≤ 4
  | 0, N => by rw [S2]; omega
  | n + 1, N => by
    have hq := m4 N (N / 2) (N / 4) (N / 4 / 2)
    rw [S2]
    generalize N % 2 + N / 2 % 2 + (N / 4 % 2 + N / 4 / 2 % 2) = q at hq ⊢
    omega
theorem sg3 : ∀ n N, (S2 (2 * n) N + S2 (2 * n) N / 16) &&& R15 n = S3 n N
  | 0, N => by
    show (_ &&& 0) = 0
    rw [Nat.and_zero]
  | n + 1, N => by
    have ih := sg3 n (N / 256)
    have hl := S2_le (2 * n) (N / 256)
    have e : S2 (2 * (n + 1)) N = (N % 2 + N / 2 % 2 + (N / 4 % 2 + N / 4 / 2 % 2)) + 16 * ((N / 16 % 2 + N / 16 / 2 % 2 + (N / 16 / 4 % 2 + N / 16 / 4 / 2 % 2)) + 16 * S2 (2 * n) (N / 256)) := by
      show S2 (2 * n + 1 + 1) N = _
      rw [S2, S2, show N / 16 / 16 = N / 256 by omega]
    generalize S2 (2 * (n + 1)) N = y at e ⊢
    generalize hz : S2 (2 * n) (N / 256) = z at e ih hl
    rw [R15, S3, sp15, ← ih]
    have hq := m4 N (N / 2) (N / 4) (N / 4 / 2)
    have hr := m4 (N / 16) (N / 16 / 2) (N / 16 / 4) (N / 16 / 4 / 2)
    generalize N % 2 + N / 2 % 2 + (N / 4 % 2 + N / 4 / 2 % 2) = q at e hq ⊢
    generalize N / 16 % 2 + N / 16 / 2 % 2 + (N / 16 / 4 % 2 + N / 16 / 4 / 2 % 2) = r at e hr ⊢
    clear hz ih
    have e1 : (y + y / 16) / 256 = z + z / 16 := by omega
    have e2 : (y + y / 16) % 16 = q + r := by omega
    rw [e1, e2]
def sB (N : Nat) : Nat → Nat
  | 0 => 0
  | n + 1 => sB N n + N / 2 ^ n % 2
def eS (N : Nat) : Nat := (N % 2 + N / 2 % 2 + (N / 4 % 2 + N / 4 / 2 % 2)) + (N / 16 % 2 + N / 16 / 2 % 2 + (N / 16 / 4 % 2 + N / 16 / 4 / 2 % 2))
theorem eS_le (N : Nat) : eS N ≤ 8 := by
  have hq := m4 N (N / 2) (N / 4) (N / 4 / 2)
  have hr := m4 (N / 16) (N / 16 / 2) (N / 16 / 4) (N / 16 / 4 / 2)
  exact Nat.add_le_add hq hr
theorem eS_sum (N : Nat) : eS N + eS (N / 256) + eS (N / 65536) + eS (N / 16777216) = sB N 32 := by
  unfold eS
  simp only [sB, Nat.div_div_eq_div_mul, Nat.reduceMul, Nat.reducePow, Nat.div_one, Nat.zero_add]
  ac_rfl
theorem S3_4 (N : Nat) : S3 4 N = eS N + 256 * (eS (N / 256) + 256 * (eS (N / 65536) + 256 * eS (N / 16777216))) := by
  simp only [S3, eS, Nat.div_div_eq_div_mul, Nat.reduceMul, Nat.mul_zero, Nat.add_zero]
theorem b_lt (x : Int32) : x.toBitVec.toNat < 4294967296 := x.toBitVec.isLt
theorem sj : ∀ j, j < 32 → ((nI j &&& 31).toBitVec.smod 32).toNat = j := by decide +kernel
theorem bitI (x : Int32) {j : Nat} (hj : j < 32) : o_and (o_shr x (nI j)) 1 = nI (x.toBitVec.toNat / 2 ^ j % 2) := by
  have h1 : o_and (o_shr x (nI j)) 1 = nI ((o_shr x (nI j)).toBitVec.toNat % 2) := pk_and _ 1 (by decide)
  rw [h1]
  congr 1
  have hs : (o_shr x (nI j)).toInt = x.toInt >>> j := pk_shr x (nI j &&& 31) j (sj j hj)
  rw [Int.shiftRight_eq_div_pow] at hs
  have hu := i32u (o_shr x (nI j))
  have hx := i32u x
  obtain ⟨c, hc⟩ : ∃ c : Int, x.toInt = x.toBitVec.toNat + (2 ^ j : Nat) * (2 * ((2 ^ (31 - j) : Nat) * c)) := by
    refine ⟨x.toInt / 4294967296, ?_⟩
    have e : (2 ^ j : Nat) * (2 * (2 ^ (31 - j))) = 4294967296 := by
      rw [Nat.mul_comm 2, ← Nat.pow_succ, ← Nat.pow_add, show j + (31 - j).succ = 32 by omega]
    have e2 : ((2 ^ j : Nat) : Int) * (2 * ((2 ^ (31 - j) : Nat) * (x.toInt / 4294967296))) = 4294967296 * (x.toInt / 4294967296) := by
      rw [← Int.mul_assoc 2, ← Int.mul_assoc]
      congr 1
      have e' : (((2 ^ j : Nat) * (2 * (2 ^ (31 - j))) : Nat) : Int) = 4294967296 := by rw [e]; rfl
      rw [Int.natCast_mul, Int.natCast_mul] at e'
      exact e'
    rw [e2, hx]
    omega
  have hp : ((2 ^ j : Nat) : Int) ≠ 0 := by
    have : 0 < 2 ^ j := Nat.pow_pos (by omega)
    omega
  have hd : x.toInt / (2 ^ j : Nat) = (x.toBitVec.toNat / 2 ^ j : Nat) + 2 * ((2 ^ (31 - j) : Nat) * c) := by
    rw [hc, Int.add_mul_ediv_left _ _ hp]
    rfl
  rw [hd] at hs
  generalize ((2 ^ (31 - j) : Nat) : Int) * c = t at hs
  omega
section Last
variable {sa : Nat → Nat} {a : Nat}
theorem ushN {n p : Nat} (h : n < 4294967296) (s : Int32) (k : Nat) (hs : ((s.toUInt32 &&& Int32.toUInt32 31).toBitVec % 32).toNat = k) (hp : 2 ^ k = p) : o_ushr (nI n) s = nI (n / p) := by
  rw [← hp]
  exact pk_ushrN (n := n) h s k hs
theorem subN {p q : Nat} (h : q ≤ p) : o_sub (nI p) (nI q) = nI (p - q) := n_sub h
theorem addN (p q : Nat) : o_add (nI p) (nI q) = nI (p + q) := nI_add p q
theorem k5 : (1431655765 : Int32) = nI 1431655765 := by decide +kernel
theorem k3 : (858993459 : Int32) = nI 858993459 := by decide +kernel
theorem kf : (252645135 : Int32) = nI 252645135 := by decide +kernel
theorem and5 (u : Nat) : o_and (nI u) 1431655765 = nI (u &&& 1431655765) := by rw [k5]; exact n_and u 1431655765
theorem and3 (u : Nat) : o_and (nI u) 858993459 = nI (u &&& 858993459) := by rw [k3]; exact n_and u 858993459
theorem andf (u : Nat) : o_and (nI u) 252645135 = nI (u &&& 252645135) := by rw [kf]; exact n_and u 252645135
theorem rR1 : R1 16 = 1431655765 := by decide +kernel
theorem rR3 : R3 8 = 858993459 := by decide +kernel
theorem rRf : R15 4 = 252645135 := by decide +kernel
theorem cc1 {N m y : Nat} (hN : N < 4294967296) (h : (N / 2 &&& m) + y = N) (hm : m = 1431655765) : o_sub (nI N) (o_and (o_ushr (nI N) 1) 1431655765) = nI y ∧ y < 4294967296 := by
  rw [ushN (p := 2) hN 1 1 (by decide) (by decide), and5, ← hm]
  generalize N / 2 &&& m = t at h
  rw [subN (by omega)]
  exact ⟨by congr 1; omega, by omega⟩
theorem cc2 {y z m : Nat} (hy : y < 4294967296) (h : (y &&& m) + (y / 4 &&& m) = z) (hm : m = 858993459) : o_add (o_and (nI y) 858993459) (o_and (o_ushr (nI y) 2) 858993459) = nI z ∧ z < 4294967296 := by
  have h1 : y &&& m ≤ m := Nat.and_le_right
  have h2 : y / 4 &&& m ≤ m := Nat.and_le_right
  rw [ushN (p := 4) hy 2 2 (by decide) (by decide), and3, and3, ← hm, addN]
  generalize y / 4 &&& m = t at h h2 ⊢
  generalize y &&& m = r at h h1 ⊢
  exact ⟨by rw [h], by omega⟩
theorem cc3 {z u m : Nat} (hz : z < 4294967296) (h : (z + z / 16) &&& m = u) (hm : m = 252645135) : o_and (o_add (nI z) (o_ushr (nI z) 4)) 252645135 = nI u := by
  rw [ushN (p := 16) hz 4 4 (by decide) (by decide), addN, andf, ← hm, h]
theorem cc4 {p0 p1 p2 p3 u : Nat} (l0 : p0 ≤ 8) (l1 : p1 ≤ 8) (l2 : p2 ≤ 8) (l3 : p3 ≤ 8) (h : u = p0 + 256 * (p1 + 256 * (p2 + 256 * p3))) : u < 4294967296 ∧ u + u / 256 < 4294967296 ∧ u + u / 256 + (u + u / 256) / 65536 < 4294967296 ∧ (u + u / 256 + (u + u / 256) / 65536) % 64 = p0 + p1 + p2 + p3 := by
  have e1 : u / 256 = p1 + 256 * (p2 + 256 * p3) := by omega
  rw [e1]
  have e2 : (u + (p1 + 256 * (p2 + 256 * p3))) / 65536 = p2 + p3 + 256 * p3 := by omega
  rw [e2]
  omega
theorem c_count (x : Int32) {G : Hp} : f_J6_bitCount_0f7a4 sa [.int x] G = some (some (.int (nI (sB x.toBitVec.toNat 32))), G) := by
  have hN := b_lt x
  have hxx := n_self x
  generalize x.toBitVec.toNat = N at hN hxx ⊢
  subst hxx
  obtain ⟨r1, hy⟩ := cc1 hN (sg1 16 N hN) rR1
  obtain ⟨r2, hz⟩ := cc2 hy (sg2 8 N) rR3
  have r3 := cc3 hz (sg3 4 N) rRf
  obtain ⟨u1, u2, u3, u4⟩ := cc4 (eS_le N) (eS_le (N / 256)) (eS_le (N / 65536)) (eS_le (N / 16777216)) (S3_4 N)
  rw [eS_sum] at u4
  generalize sB N 32 = t at u4 ⊢
  generalize S1 16 N = y at r1 r2
  generalize S2 8 N = z at r2 r3
  generalize S3 4 N = u at r3 u1 u2 u3 u4
  have r4 : o_add (nI u) (o_ushr (nI u) 8) = nI (u + u / 256) := by
    rw [ushN (p := 256) u1 8 8 (by decide) (by decide), addN]
  have r5 : o_add (nI (u + u / 256)) (o_ushr (nI (u + u / 256)) 16) = nI (u + u / 256 + (u + u / 256) / 65536) := by
    rw [ushN (p := 65536) u2 16 16 (by decide) (by decide), addN]
  have r6 : o_and (nI (u + u / 256 + (u + u / 256) / 65536)) 63 = nI t := by
    rw [← u4]
    exact pk_andN u3 6 (by decide)
  rw [e_J6_bitCount_0f7a4]
  unfold b_J6_bitCount_0f7a4
  simp only [ev_vI0, ev_vJ0, ev_vA0, ev_st1_0, ev_st2_0, ev_vI1, ev_vJ1, ev_vA1, ev_st1_1, ev_st2_1, ev_vI2, ev_vJ2, ev_vA2, ev_st1_2, ev_st2_2, ev_vI3, ev_vJ3, ev_vA3, ev_st1_3, ev_st2_3, ev_vI4, ev_vJ4, ev_vA4, ev_st1_4, ev_st2_4, ev_vI5, ev_vJ5, ev_vA5, ev_st1_5, ev_st2_5, ev_vI6, ev_vJ6, ev_vA6, ev_st1_6, ev_st2_6, ev_vI7, ev_vJ7, ev_vA7, ev_st1_7, ev_st2_7, ev_vI8, ev_vJ8, ev_vA8, ev_st1_8, ev_st2_8, ev_vI9, ev_vJ9, ev_vA9, ev_st1_9, ev_st2_9, ev_vI10, ev_vJ10, ev_vA10, ev_st1_10, ev_st2_10, ev_vI11, ev_vJ11, ev_vA11, ev_st1_11, ev_st2_11, ev_vI12, ev_vJ12, ev_vA12, ev_st1_12, ev_st2_12, ev_kI, ev_kJ, ev_bI, ev_bI1, ev_bI2, ev_bQ, ev_bQ1, ev_bQ2, ev_bJ, ev_bJ1, ev_bJ2, ev_bQJ, ev_bQJ1, ev_bQJ2, ev_uIJ, ev_uIJ1, ev_uJI, ev_uJI1, ev_uJJ, ev_uJJ1, ev_fI, ev_fI1, ev_fI2, ev_fA, ev_fA1, ev_fA2, ev_aI, ev_aI1, ev_aI2, ev_aI3, ev_aN, ev_aN1, ev_aN2, ev_cI, ev_cIt, ev_cIf, ev_qI, ev_qI1, ev_qI2, ev_qJ, ev_qJ1, ev_qJ2, ev_qZ, ev_qZ1, ev_qAnd, ev_qAndt, ev_qAndf, ev_qOr, ev_qOrt, ev_qOrf, ev_qNot, ev_qNot1, ev_qIf, ev_qIft, ev_qIff, ev_aNil, ev_aC, ev_aC1, ev_aC2, ev_unI, ev_unJ, ev_unA, ev_unV, ev_mV, ev_mV1, ev_mV2, ev_mV3, ev_mS, ev_mS1, ev_skip, ev_seq, ev_seq0, ev_seq1, ev_seq2, ev_seqr, ev_sI, ev_sI1, ev_sA, ev_sA1, ev_sJ, ev_sJ1, ev_inc, ev_inc1, ev_kln, ev_kli, ev_klr, ev_klj, ev_G, ev_put, ev_put1, ev_put2, ev_putZ, ev_putZ1, ev_putZ2, ev_ast, ev_ast1, ev_ast2, ev_ast3, ev_astZ, ev_astZ1, ev_astZ2, ev_astZ3, ev_fop, ev_fop1, ev_fop2, ev_fop3, ev_aop, ev_aop1, ev_aop2, ev_aop3, ev_aop4, ev_sV, ev_sV1, ev_pop, ev_pop1, ev_rI, ev_rI1, ev_rJ, ev_rJ1, ev_rA, ev_rA1, ev_rV, ev_brk, ev_cont, ev_sIf, ev_sIft, ev_sIff, ev_sw, ev_sw1, ev_sw0, ev_sw1b, ev_sw2, ev_swr, ev_wh, ev_whf, ev_wht, ev_wh0, ev_wh1, ev_wh2, ev_whr, ev_wh3, ev_mr, ev_mrI, ev_mrJ, ev_mrV, ev_mrA, ev_mrZ1, ev_mrZ0, ev_bs, r1, r2, r3, r4, r5, r6]
theorem ls_l {V : VV} {f it : Nat} (hf : f < 48) (hit : it < 48) (h9 : V 66 (96 + 14 * f + 9) = nI it) : ∀ (fu k : Nat), k ≤ 32 → 32 - k < fu → sWh (qI p_lt (vI 3) (kI 32)) (sI 2 (bI o_add (vI 2) (bI o_and (bI o_shr (aI false (fA (vA 0) 7 0) (bI o_add (kI 2436) (mV unI 7 (f_X8_of sa) (vA 0) (aCons .int (vI 1) (aCons .int (kI 9) (aNil)))))) (vI 3)) (kI 1)))) (sInc 3 1) fu [some (.ref (a + 65)), some (.int (nI f)), some (.int (nI (sB (V 66 (2436 + it)).toBitVec.toNat k))), some (.int (nI k))] (hp a V) = some (.inl 0, [some (.ref (a + 65)), some (.int (nI f)), some (.int (nI (sB (V 66 (2436 + it)).toBitVec.toNat 32))), some (.int (nI 32))], hp a V)
  | 0, k, _, h => by omega
  | fu + 1, k, hk, h => by
    by_cases hlt : k < 32
    · have ih := ls_l hf hit h9 fu (k + 1) (by omega) (by omega)
      have m9 := @mF_9 sa a V f hf
      rw [h9] at m9
      have hb := bitI (V 66 (2436 + it)) hlt
      have hm := ga66n (a := a) (V := V) (m := 2436 + it) (by omega)
      have e : sB (V 66 (2436 + it)).toBitVec.toNat (k + 1) = sB (V 66 (2436 + it)).toBitVec.toNat k + (V 66 (2436 + it)).toBitVec.toNat / 2 ^ k % 2 := rfl
      rw [← ih, e]
      generalize V 66 (2436 + it) = M at *
      simp only [ev_vI0, ev_vJ0, ev_vA0, ev_st1_0, ev_st2_0, ev_vI1, ev_vJ1, ev_vA1, ev_st1_1, ev_st2_1, ev_vI2, ev_vJ2, ev_vA2, ev_st1_2, ev_st2_2, ev_vI3, ev_vJ3, ev_vA3, ev_st1_3, ev_st2_3, ev_vI4, ev_vJ4, ev_vA4, ev_st1_4, ev_st2_4, ev_vI5, ev_vJ5, ev_vA5, ev_st1_5, ev_st2_5, ev_vI6, ev_vJ6, ev_vA6, ev_st1_6, ev_st2_6, ev_vI7, ev_vJ7, ev_vA7, ev_st1_7, ev_st2_7, ev_vI8, ev_vJ8, ev_vA8, ev_st1_8, ev_st2_8, ev_vI9, ev_vJ9, ev_vA9, ev_st1_9, ev_st2_9, ev_vI10, ev_vJ10, ev_vA10, ev_st1_10, ev_st2_10, ev_vI11, ev_vJ11, ev_vA11, ev_st1_11, ev_st2_11, ev_vI12, ev_vJ12, ev_vA12, ev_st1_12, ev_st2_12, ev_kI, ev_kJ, ev_bI, ev_bI1, ev_bI2, ev_bQ, ev_bQ1, ev_bQ2, ev_bJ, ev_bJ1, ev_bJ2, ev_bQJ, ev_bQJ1, ev_bQJ2, ev_uIJ, ev_uIJ1, ev_uJI, ev_uJI1, ev_uJJ, ev_uJJ1, ev_fI, ev_fI1, ev_fI2, ev_fA, ev_fA1, ev_fA2, ev_aI, ev_aI1, ev_aI2, ev_aI3, ev_aN, ev_aN1, ev_aN2, ev_cI, ev_cIt, ev_cIf, ev_qI, ev_qI1, ev_qI2, ev_qJ, ev_qJ1, ev_qJ2, ev_qZ, ev_qZ1, ev_qAnd, ev_qAndt, ev_qAndf, ev_qOr, ev_qOrt, ev_qOrf, ev_qNot, ev_qNot1, ev_qIf, ev_qIft, ev_qIff, ev_aNil, ev_aC, ev_aC1, ev_aC2, ev_unI, ev_unJ, ev_unA, ev_unV, ev_mV, ev_mV1, ev_mV2, ev_mV3, ev_mS, ev_mS1, ev_skip, ev_seq, ev_seq0, ev_seq1, ev_seq2, ev_seqr, ev_sI, ev_sI1, ev_sA, ev_sA1, ev_sJ, ev_sJ1, ev_inc, ev_inc1, ev_kln, ev_kli, ev_klr, ev_klj, ev_G, ev_put, ev_put1, ev_put2, ev_putZ, ev_putZ1, ev_putZ2, ev_ast, ev_ast1, ev_ast2, ev_ast3, ev_astZ, ev_astZ1, ev_astZ2, ev_astZ3, ev_fop, ev_fop1, ev_fop2, ev_fop3, ev_aop, ev_aop1, ev_aop2, ev_aop3, ev_aop4, ev_sV, ev_sV1, ev_pop, ev_pop1, ev_rI, ev_rI1, ev_rJ, ev_rJ1, ev_rA, ev_rA1, ev_rV, ev_brk, ev_cont, ev_sIf, ev_sIft, ev_sIff, ev_sw, ev_sw1, ev_sw0, ev_sw1b, ev_sw2, ev_swr, ev_wh, ev_whf, ev_wht, ev_wh0, ev_wh1, ev_wh2, ev_whr, ev_wh3, ev_mr, ev_mrI, ev_mrJ, ev_mrV, ev_mrA, ev_mrZ1, ev_mrZ0, ev_bs, g0_0, g0_1, g0_2, g0_3, g0_4, g0_5, p0_5, o0, g1_0, g1_1, g1_2, g1_3, g1_4, p1_4, g1_5, p1_5, o1, g2_0, g2_1, p2_1, o2, hl3, g4_0, g4_1, p4_1, o4, hl5, g6_0, g6_1, g6_2, g6_3, o6, g7_0, g7_1, g7_2, g7_3, p7_3, o7, hl8, g9_0, g9_1, g9_2, g9_3, p9_3, o9, hl10, g11_0, g11_1, p11_1, o11, hl12, g13_0, g13_1, g13_2, g13_3, p13_3, o13, hl14, g15_0, g15_1, g15_2, g15_3, p15_3, o15, hl16, g17_0, g17_1, g17_2, g17_3, g17_4, p17_4, g17_5, p17_5, o17, g18_0, g18_1, p18_1, o18, hl19, g20_0, g20_1, p20_1, o20, hl21, g22_0, g22_1, g22_2, g22_3, o22, g23_0, g23_1, g23_2, g23_3, p23_3, o23, hl24, g25_0, g25_1, g25_2, g25_3, p25_3, o25, hl26, g27_0, g27_1, p27_1, o27, hl28, g29_0, g29_1, g29_2, g29_3, p29_3, o29, hl30, g31_0, g31_1, g31_2, g31_3, p31_3, o31, hl32, g33_0, g33_1, g33_2, g33_3, g33_4, p33_4, g33_5, p33_5, o33, g34_0, g34_1, p34_1, o34, hl35, g36_0, g36_1, p36_1, o36, hl37, g38_0, g38_1, g38_2, g38_3, o38, g39_0, g39_1, g39_2, g39_3, p39_3, o39, hl40, g41_0, g41_1, g41_2, g41_3, p41_3, o41, hl42, g43_0, g43_1, p43_1, o43, hl44, g45_0, g45_1, g45_2, g45_3, p45_3, o45, hl46, g47_0, g47_1, g47_2, g47_3, p47_3, o47, hl48, g49_0, g49_1, p49_1, g49_2, p49_2, g49_3, g49_4, g49_5, p49_5, g49_6, p49_6, g49_7, p49_7, g49_8, p49_8, g49_9, p49_9, g49_10, p49_10, g49_11, g49_12, p49_12, g49_13, p49_13, o49, g50_0, g50_1, g50_2, g50_3, o50, g51_0, g51_1, g51_2, g51_3, p51_3, o51, hl52, g53_0, g53_1, g53_2, g53_3, p53_3, o53, hl54, g55_0, g55_1, p55_1, o55, hl56, g57_0, g57_1, g57_2, g57_3, p57_3, o57, hl58, g59_0, p59_0, g59_1, p59_1, g59_2, p59_2, g59_3, p59_3, g59_4, p59_4, g59_5, p59_5, o59, g60_0, g60_1, g60_2, g60_3, p60_3, o60, hl61, g62_0, g62_1, p62_1, o62, hl63, g64_0, p64_0, g64_1, p64_1, g64_2, p64_2, g64_3, p64_3, g64_4, p64_4, g64_5, p64_5, o64, g65_0, g65_1, g65_2, g65_3, p65_3, g65_4, p65_4, g65_5, p65_5, g65_6, p65_6, g65_7, p65_7, g65_8, g65_9, g65_10, p65_10, g65_11, g65_12, p65_12, g65_13, p65_13, g65_14, g65_15, p65_15, g65_16, p65_16, g65_17, p65_17, g65_18, p65_18, g65_19, g65_20, p65_20, g65_21, p65_21, g65_22, p65_22, g65_23, p65_23, g65_24, g65_25, p65_25, o65, hl66, hl67, hl68, hl69, hl70, hl71, hl72, hl73, hl74, k66_3285, s66_3285, k66_3286, s66_3286, k66_3287, s66_3287, k66_3288, s66_3288, k66_3289, s66_3289, k66_3290, s66_3290, k66_3291, s66_3291, k66_3292, s66_3292, k66_2484, k69_0, s69_0, k69_1, s69_1, k69_2, s69_2, k69_3, s69_3, k69_4, s69_4, k69_5, s69_5, k68_0, k68_1, k71_0, oa_1, oa_2, oa_3, oa_4, oa_96, oa_768, oa_804, oa_852, oa_2388, oa_2436, oa_2484, oa_2517, ob_1, ob_2, ob_3, ob_4, ob_7, ob_11, ob_12, ob_13, ob_14, oa_0, ob_0, om_3, om_6, om_8, om_14, om_16, om_32, om_3293, oan, omn, inc_n, zne1, zne0, zeq0, zeq1, Bool.not_true, Bool.not_false, dT (show nI k < 32 from nI_lt (b := 32) hlt (by omega)), m9, hm, hb]
    · have : k = 32 := by omega
      subst this
      simp only [ev_vI0, ev_vJ0, ev_vA0, ev_st1_0, ev_st2_0, ev_vI1, ev_vJ1, ev_vA1, ev_st1_1, ev_st2_1, ev_vI2, ev_vJ2, ev_vA2, ev_st1_2, ev_st2_2, ev_vI3, ev_vJ3, ev_vA3, ev_st1_3, ev_st2_3, ev_vI4, ev_vJ4, ev_vA4, ev_st1_4, ev_st2_4, ev_vI5, ev_vJ5, ev_vA5, ev_st1_5, ev_st2_5, ev_vI6, ev_vJ6, ev_vA6, ev_st1_6, ev_st2_6, ev_vI7, ev_vJ7, ev_vA7, ev_st1_7, ev_st2_7, ev_vI8, ev_vJ8, ev_vA8, ev_st1_8, ev_st2_8, ev_vI9, ev_vJ9, ev_vA9, ev_st1_9, ev_st2_9, ev_vI10, ev_vJ10, ev_vA10, ev_st1_10, ev_st2_10, ev_vI11, ev_vJ11, ev_vA11, ev_st1_11, ev_st2_11, ev_vI12, ev_vJ12, ev_vA12, ev_st1_12, ev_st2_12, ev_kI, ev_kJ, ev_bI, ev_bI1, ev_bI2, ev_bQ, ev_bQ1, ev_bQ2, ev_bJ, ev_bJ1, ev_bJ2, ev_bQJ, ev_bQJ1, ev_bQJ2, ev_uIJ, ev_uIJ1, ev_uJI, ev_uJI1, ev_uJJ, ev_uJJ1, ev_fI, ev_fI1, ev_fI2, ev_fA, ev_fA1, ev_fA2, ev_aI, ev_aI1, ev_aI2, ev_aI3, ev_aN, ev_aN1, ev_aN2, ev_cI, ev_cIt, ev_cIf, ev_qI, ev_qI1, ev_qI2, ev_qJ, ev_qJ1, ev_qJ2, ev_qZ, ev_qZ1, ev_qAnd, ev_qAndt, ev_qAndf, ev_qOr, ev_qOrt, ev_qOrf, ev_qNot, ev_qNot1, ev_qIf, ev_qIft, ev_qIff, ev_aNil, ev_aC, ev_aC1, ev_aC2, ev_unI, ev_unJ, ev_unA, ev_unV, ev_mV, ev_mV1, ev_mV2, ev_mV3, ev_mS, ev_mS1, ev_skip, ev_seq, ev_seq0, ev_seq1, ev_seq2, ev_seqr, ev_sI, ev_sI1, ev_sA, ev_sA1, ev_sJ, ev_sJ1, ev_inc, ev_inc1, ev_kln, ev_kli, ev_klr, ev_klj, ev_G, ev_put, ev_put1, ev_put2, ev_putZ, ev_putZ1, ev_putZ2, ev_ast, ev_ast1, ev_ast2, ev_ast3, ev_astZ, ev_astZ1, ev_astZ2, ev_astZ3, ev_fop, ev_fop1, ev_fop2, ev_fop3, ev_aop, ev_aop1, ev_aop2, ev_aop3, ev_aop4, ev_sV, ev_sV1, ev_pop, ev_pop1, ev_rI, ev_rI1, ev_rJ, ev_rJ1, ev_rA, ev_rA1, ev_rV, ev_brk, ev_cont, ev_sIf, ev_sIft, ev_sIff, ev_sw, ev_sw1, ev_sw0, ev_sw1b, ev_sw2, ev_swr, ev_wh, ev_whf, ev_wht, ev_wh0, ev_wh1, ev_wh2, ev_whr, ev_wh3, ev_mr, ev_mrI, ev_mrJ, ev_mrV, ev_mrA, ev_mrZ1, ev_mrZ0, ev_bs, g0_0, g0_1, g0_2, g0_3, g0_4, g0_5, p0_5, o0, g1_0, g1_1, g1_2, g1_3, g1_4, p1_4, g1_5, p1_5, o1, g2_0, g2_1, p2_1, o2, hl3, g4_0, g4_1, p4_1, o4, hl5, g6_0, g6_1, g6_2, g6_3, o6, g7_0, g7_1, g7_2, g7_3, p7_3, o7, hl8, g9_0, g9_1, g9_2, g9_3, p9_3, o9, hl10, g11_0, g11_1, p11_1, o11, hl12, g13_0, g13_1, g13_2, g13_3, p13_3, o13, hl14, g15_0, g15_1, g15_2, g15_3, p15_3, o15, hl16, g17_0, g17_1, g17_2, g17_3, g17_4, p17_4, g17_5, p17_5, o17, g18_0, g18_1, p18_1, o18, hl19, g20_0, g20_1, p20_1, o20, hl21, g22_0, g22_1, g22_2, g22_3, o22, g23_0, g23_1, g23_2, g23_3, p23_3, o23, hl24, g25_0, g25_1, g25_2, g25_3, p25_3, o25, hl26, g27_0, g27_1, p27_1, o27, hl28, g29_0, g29_1, g29_2, g29_3, p29_3, o29, hl30, g31_0, g31_1, g31_2, g31_3, p31_3, o31, hl32, g33_0, g33_1, g33_2, g33_3, g33_4, p33_4, g33_5, p33_5, o33, g34_0, g34_1, p34_1, o34, hl35, g36_0, g36_1, p36_1, o36, hl37, g38_0, g38_1, g38_2, g38_3, o38, g39_0, g39_1, g39_2, g39_3, p39_3, o39, hl40, g41_0, g41_1, g41_2, g41_3, p41_3, o41, hl42, g43_0, g43_1, p43_1, o43, hl44, g45_0, g45_1, g45_2, g45_3, p45_3, o45, hl46, g47_0, g47_1, g47_2, g47_3, p47_3, o47, hl48, g49_0, g49_1, p49_1, g49_2, p49_2, g49_3, g49_4, g49_5, p49_5, g49_6, p49_6, g49_7, p49_7, g49_8, p49_8, g49_9, p49_9, g49_10, p49_10, g49_11, g49_12, p49_12, g49_13, p49_13, o49, g50_0, g50_1, g50_2, g50_3, o50, g51_0, g51_1, g51_2, g51_3, p51_3, o51, hl52, g53_0, g53_1, g53_2, g53_3, p53_3, o53, hl54, g55_0, g55_1, p55_1, o55, hl56, g57_0, g57_1, g57_2, g57_3, p57_3, o57, hl58, g59_0, p59_0, g59_1, p59_1, g59_2, p59_2, g59_3, p59_3, g59_4, p59_4, g59_5, p59_5, o59, g60_0, g60_1, g60_2, g60_3, p60_3, o60, hl61, g62_0, g62_1, p62_1, o62, hl63, g64_0, p64_0, g64_1, p64_1, g64_2, p64_2, g64_3, p64_3, g64_4, p64_4, g64_5, p64_5, o64, g65_0, g65_1, g65_2, g65_3, p65_3, g65_4, p65_4, g65_5, p65_5, g65_6, p65_6, g65_7, p65_7, g65_8, g65_9, g65_10, p65_10, g65_11, g65_12, p65_12, g65_13, p65_13, g65_14, g65_15, p65_15, g65_16, p65_16, g65_17, p65_17, g65_18, p65_18, g65_19, g65_20, p65_20, g65_21, p65_21, g65_22, p65_22, g65_23, p65_23, g65_24, g65_25, p65_25, o65, hl66, hl67, hl68, hl69, hl70, hl71, hl72, hl73, hl74, k66_3285, s66_3285, k66_3286, s66_3286, k66_3287, s66_3287, k66_3288, s66_3288, k66_3289, s66_3289, k66_3290, s66_3290, k66_3291, s66_3291, k66_3292, s66_3292, k66_2484, k69_0, s69_0, k69_1, s69_1, k69_2, s69_2, k69_3, s69_3, k69_4, s69_4, k69_5, s69_5, k68_0, k68_1, k71_0, oa_1, oa_2, oa_3, oa_4, oa_96, oa_768, oa_804, oa_852, oa_2388, oa_2436, oa_2484, oa_2517, ob_1, ob_2, ob_3, ob_4, ob_7, ob_11, ob_12, ob_13, ob_14, oa_0, ob_0, om_3, om_6, om_8, om_14, om_16, om_32, om_3293, oan, omn, inc_n, zne1, zne0, zeq0, zeq1, Bool.not_true, Bool.not_false, dF (show ¬ nI 32 < 32 by decide)]
theorem pr_last (x0 : Int32) : Pair Inv sa a f_X7_last f_X8_last [.int x0] := by
  intro V hI
  obtain ⟨nf, ng, ns, s1, s2, s3, s4, s5, s6, s7, s8, s9, s10, s11, s12, s13, s14⟩ := hI.1.2.2.2.2.1
  have s4 : V 7 3 = nI nf := s4
  by_cases hx : ¬ (0 ≤ x0.toInt ∧ x0.toInt < nf)
  · refine ⟨-1, V, V, ?_, ?_, hI⟩
    · rw [e_X7_last]; unfold b_X7_last; simp only [ev_vI0, ev_vJ0, ev_vA0, ev_st1_0, ev_st2_0, ev_vI1, ev_vJ1, ev_vA1, ev_st1_1, ev_st2_1, ev_vI2, ev_vJ2, ev_vA2, ev_st1_2, ev_st2_2, ev_vI3, ev_vJ3, ev_vA3, ev_st1_3, ev_st2_3, ev_vI4, ev_vJ4, ev_vA4, ev_st1_4, ev_st2_4, ev_vI5, ev_vJ5, ev_vA5, ev_st1_5, ev_st2_5, ev_vI6, ev_vJ6, ev_vA6, ev_st1_6, ev_st2_6, ev_vI7, ev_vJ7, ev_vA7, ev_st1_7, ev_st2_7, ev_vI8, ev_vJ8, ev_vA8, ev_st1_8, ev_st2_8, ev_vI9, ev_vJ9, ev_vA9, ev_st1_9, ev_st2_9, ev_vI10, ev_vJ10, ev_vA10, ev_st1_10, ev_st2_10, ev_vI11, ev_vJ11, ev_vA11, ev_st1_11, ev_st2_11, ev_vI12, ev_vJ12, ev_vA12, ev_st1_12, ev_st2_12, ev_kI, ev_kJ, ev_bI, ev_bI1, ev_bI2, ev_bQ, ev_bQ1, ev_bQ2, ev_bJ, ev_bJ1, ev_bJ2, ev_bQJ, ev_bQJ1, ev_bQJ2, ev_uIJ, ev_uIJ1, ev_uJI, ev_uJI1, ev_uJJ, ev_uJJ1, ev_fI, ev_fI1, ev_fI2, ev_fA, ev_fA1, ev_fA2, ev_aI, ev_aI1, ev_aI2, ev_aI3, ev_aN, ev_aN1, ev_aN2, ev_cI, ev_cIt, ev_cIf, ev_qI, ev_qI1, ev_qI2, ev_qJ, ev_qJ1, ev_qJ2, ev_qZ, ev_qZ1, ev_qAnd, ev_qAndt, ev_qAndf, ev_qOr, ev_qOrt, ev_qOrf, ev_qNot, ev_qNot1, ev_qIf, ev_qIft, ev_qIff, ev_aNil, ev_aC, ev_aC1, ev_aC2, ev_unI, ev_unJ, ev_unA, ev_unV, ev_mV, ev_mV1, ev_mV2, ev_mV3, ev_mS, ev_mS1, ev_skip, ev_seq, ev_seq0, ev_seq1, ev_seq2, ev_seqr, ev_sI, ev_sI1, ev_sA, ev_sA1, ev_sJ, ev_sJ1, ev_inc, ev_inc1, ev_kln, ev_kli, ev_klr, ev_klj, ev_G, ev_put, ev_put1, ev_put2, ev_putZ, ev_putZ1, ev_putZ2, ev_ast, ev_ast1, ev_ast2, ev_ast3, ev_astZ, ev_astZ1, ev_astZ2, ev_astZ3, ev_fop, ev_fop1, ev_fop2, ev_fop3, ev_aop, ev_aop1, ev_aop2, ev_aop3, ev_aop4, ev_sV, ev_sV1, ev_pop, ev_pop1, ev_rI, ev_rI1, ev_rJ, ev_rJ1, ev_rA, ev_rA1, ev_rV, ev_brk, ev_cont, ev_sIf, ev_sIft, ev_sIff, ev_sw, ev_sw1, ev_sw0, ev_sw1b, ev_sw2, ev_swr, ev_wh, ev_whf, ev_wht, ev_wh0, ev_wh1, ev_wh2, ev_whr, ev_wh3, ev_mr, ev_mrI, ev_mrJ, ev_mrV, ev_mrA, ev_mrZ1, ev_mrZ0, ev_bs, g0_0, g0_1, g0_2, g0_3, g0_4, g0_5, p0_5, o0, g1_0, g1_1, g1_2, g1_3, g1_4, p1_4, g1_5, p1_5, o1, g2_0, g2_1, p2_1, o2, hl3, g4_0, g4_1, p4_1, o4, hl5, g6_0, g6_1, g6_2, g6_3, o6, g7_0, g7_1, g7_2, g7_3, p7_3, o7, hl8, g9_0, g9_1, g9_2, g9_3, p9_3, o9, hl10, g11_0, g11_1, p11_1, o11, hl12, g13_0, g13_1, g13_2, g13_3, p13_3, o13, hl14, g15_0, g15_1, g15_2, g15_3, p15_3, o15, hl16, g17_0, g17_1, g17_2, g17_3, g17_4, p17_4, g17_5, p17_5, o17, g18_0, g18_1, p18_1, o18, hl19, g20_0, g20_1, p20_1, o20, hl21, g22_0, g22_1, g22_2, g22_3, o22, g23_0, g23_1, g23_2, g23_3, p23_3, o23, hl24, g25_0, g25_1, g25_2, g25_3, p25_3, o25, hl26, g27_0, g27_1, p27_1, o27, hl28, g29_0, g29_1, g29_2, g29_3, p29_3, o29, hl30, g31_0, g31_1, g31_2, g31_3, p31_3, o31, hl32, g33_0, g33_1, g33_2, g33_3, g33_4, p33_4, g33_5, p33_5, o33, g34_0, g34_1, p34_1, o34, hl35, g36_0, g36_1, p36_1, o36, hl37, g38_0, g38_1, g38_2, g38_3, o38, g39_0, g39_1, g39_2, g39_3, p39_3, o39, hl40, g41_0, g41_1, g41_2, g41_3, p41_3, o41, hl42, g43_0, g43_1, p43_1, o43, hl44, g45_0, g45_1, g45_2, g45_3, p45_3, o45, hl46, g47_0, g47_1, g47_2, g47_3, p47_3, o47, hl48, g49_0, g49_1, p49_1, g49_2, p49_2, g49_3, g49_4, g49_5, p49_5, g49_6, p49_6, g49_7, p49_7, g49_8, p49_8, g49_9, p49_9, g49_10, p49_10, g49_11, g49_12, p49_12, g49_13, p49_13, o49, g50_0, g50_1, g50_2, g50_3, o50, g51_0, g51_1, g51_2, g51_3, p51_3, o51, hl52, g53_0, g53_1, g53_2, g53_3, p53_3, o53, hl54, g55_0, g55_1, p55_1, o55, hl56, g57_0, g57_1, g57_2, g57_3, p57_3, o57, hl58, g59_0, p59_0, g59_1, p59_1, g59_2, p59_2, g59_3, p59_3, g59_4, p59_4, g59_5, p59_5, o59, g60_0, g60_1, g60_2, g60_3, p60_3, o60, hl61, g62_0, g62_1, p62_1, o62, hl63, g64_0, p64_0, g64_1, p64_1, g64_2, p64_2, g64_3, p64_3, g64_4, p64_4, g64_5, p64_5, o64, g65_0, g65_1, g65_2, g65_3, p65_3, g65_4, p65_4, g65_5, p65_5, g65_6, p65_6, g65_7, p65_7, g65_8, g65_9, g65_10, p65_10, g65_11, g65_12, p65_12, g65_13, p65_13, g65_14, g65_15, p65_15, g65_16, p65_16, g65_17, p65_17, g65_18, p65_18, g65_19, g65_20, p65_20, g65_21, p65_21, g65_22, p65_22, g65_23, p65_23, g65_24, g65_25, p65_25, o65, hl66, hl67, hl68, hl69, hl70, hl71, hl72, hl73, hl74, k66_3285, s66_3285, k66_3286, s66_3286, k66_3287, s66_3287, k66_3288, s66_3288, k66_3289, s66_3289, k66_3290, s66_3290, k66_3291, s66_3291, k66_3292, s66_3292, k66_2484, k69_0, s69_0, k69_1, s69_1, k69_2, s69_2, k69_3, s69_3, k69_4, s69_4, k69_5, s69_5, k68_0, k68_1, k71_0, oa_1, oa_2, oa_3, oa_4, oa_96, oa_768, oa_804, oa_852, oa_2388, oa_2436, oa_2484, oa_2517, ob_1, ob_2, ob_3, ob_4, ob_7, ob_11, ob_12, ob_13, ob_14, oa_0, ob_0, om_3, om_6, om_8, om_14, om_16, om_32, om_3293, oan, omn, inc_n, zne1, zne0, zeq0, zeq1, Bool.not_true, Bool.not_false, cFld_f s4 s1 hx]
    · rw [e_X8_last]; unfold b_X8_last; simp only [ev_vI0, ev_vJ0, ev_vA0, ev_st1_0, ev_st2_0, ev_vI1, ev_vJ1, ev_vA1, ev_st1_1, ev_st2_1, ev_vI2, ev_vJ2, ev_vA2, ev_st1_2, ev_st2_2, ev_vI3, ev_vJ3, ev_vA3, ev_st1_3, ev_st2_3, ev_vI4, ev_vJ4, ev_vA4, ev_st1_4, ev_st2_4, ev_vI5, ev_vJ5, ev_vA5, ev_st1_5, ev_st2_5, ev_vI6, ev_vJ6, ev_vA6, ev_st1_6, ev_st2_6, ev_vI7, ev_vJ7, ev_vA7, ev_st1_7, ev_st2_7, ev_vI8, ev_vJ8, ev_vA8, ev_st1_8, ev_st2_8, ev_vI9, ev_vJ9, ev_vA9, ev_st1_9, ev_st2_9, ev_vI10, ev_vJ10, ev_vA10, ev_st1_10, ev_st2_10, ev_vI11, ev_vJ11, ev_vA11, ev_st1_11, ev_st2_11, ev_vI12, ev_vJ12, ev_vA12, ev_st1_12, ev_st2_12, ev_kI, ev_kJ, ev_bI, ev_bI1, ev_bI2, ev_bQ, ev_bQ1, ev_bQ2, ev_bJ, ev_bJ1, ev_bJ2, ev_bQJ, ev_bQJ1, ev_bQJ2, ev_uIJ, ev_uIJ1, ev_uJI, ev_uJI1, ev_uJJ, ev_uJJ1, ev_fI, ev_fI1, ev_fI2, ev_fA, ev_fA1, ev_fA2, ev_aI, ev_aI1, ev_aI2, ev_aI3, ev_aN, ev_aN1, ev_aN2, ev_cI, ev_cIt, ev_cIf, ev_qI, ev_qI1, ev_qI2, ev_qJ, ev_qJ1, ev_qJ2, ev_qZ, ev_qZ1, ev_qAnd, ev_qAndt, ev_qAndf, ev_qOr, ev_qOrt, ev_qOrf, ev_qNot, ev_qNot1, ev_qIf, ev_qIft, ev_qIff, ev_aNil, ev_aC, ev_aC1, ev_aC2, ev_unI, ev_unJ, ev_unA, ev_unV, ev_mV, ev_mV1, ev_mV2, ev_mV3, ev_mS, ev_mS1, ev_skip, ev_seq, ev_seq0, ev_seq1, ev_seq2, ev_seqr, ev_sI, ev_sI1, ev_sA, ev_sA1, ev_sJ, ev_sJ1, ev_inc, ev_inc1, ev_kln, ev_kli, ev_klr, ev_klj, ev_G, ev_put, ev_put1, ev_put2, ev_putZ, ev_putZ1, ev_putZ2, ev_ast, ev_ast1, ev_ast2, ev_ast3, ev_astZ, ev_astZ1, ev_astZ2, ev_astZ3, ev_fop, ev_fop1, ev_fop2, ev_fop3, ev_aop, ev_aop1, ev_aop2, ev_aop3, ev_aop4, ev_sV, ev_sV1, ev_pop, ev_pop1, ev_rI, ev_rI1, ev_rJ, ev_rJ1, ev_rA, ev_rA1, ev_rV, ev_brk, ev_cont, ev_sIf, ev_sIft, ev_sIff, ev_sw, ev_sw1, ev_sw0, ev_sw1b, ev_sw2, ev_swr, ev_wh, ev_whf, ev_wht, ev_wh0, ev_wh1, ev_wh2, ev_whr, ev_wh3, ev_mr, ev_mrI, ev_mrJ, ev_mrV, ev_mrA, ev_mrZ1, ev_mrZ0, ev_bs, g0_0, g0_1, g0_2, g0_3, g0_4, g0_5, p0_5, o0, g1_0, g1_1, g1_2, g1_3, g1_4, p1_4, g1_5, p1_5, o1, g2_0, g2_1, p2_1, o2, hl3, g4_0, g4_1, p4_1, o4, hl5, g6_0, g6_1, g6_2, g6_3, o6, g7_0, g7_1, g7_2, g7_3, p7_3, o7, hl8, g9_0, g9_1, g9_2, g9_3, p9_3, o9, hl10, g11_0, g11_1, p11_1, o11, hl12, g13_0, g13_1, g13_2, g13_3, p13_3, o13, hl14, g15_0, g15_1, g15_2, g15_3, p15_3, o15, hl16, g17_0, g17_1, g17_2, g17_3, g17_4, p17_4, g17_5, p17_5, o17, g18_0, g18_1, p18_1, o18, hl19, g20_0, g20_1, p20_1, o20, hl21, g22_0, g22_1, g22_2, g22_3, o22, g23_0, g23_1, g23_2, g23_3, p23_3, o23, hl24, g25_0, g25_1, g25_2, g25_3, p25_3, o25, hl26, g27_0, g27_1, p27_1, o27, hl28, g29_0, g29_1, g29_2, g29_3, p29_3, o29, hl30, g31_0, g31_1, g31_2, g31_3, p31_3, o31, hl32, g33_0, g33_1, g33_2, g33_3, g33_4, p33_4, g33_5, p33_5, o33, g34_0, g34_1, p34_1, o34, hl35, g36_0, g36_1, p36_1, o36, hl37, g38_0, g38_1, g38_2, g38_3, o38, g39_0, g39_1, g39_2, g39_3, p39_3, o39, hl40, g41_0, g41_1, g41_2, g41_3, p41_3, o41, hl42, g43_0, g43_1, p43_1, o43, hl44, g45_0, g45_1, g45_2, g45_3, p45_3, o45, hl46, g47_0, g47_1, g47_2, g47_3, p47_3, o47, hl48, g49_0, g49_1, p49_1, g49_2, p49_2, g49_3, g49_4, g49_5, p49_5, g49_6, p49_6, g49_7, p49_7, g49_8, p49_8, g49_9, p49_9, g49_10, p49_10, g49_11, g49_12, p49_12, g49_13, p49_13, o49, g50_0, g50_1, g50_2, g50_3, o50, g51_0, g51_1, g51_2, g51_3, p51_3, o51, hl52, g53_0, g53_1, g53_2, g53_3, p53_3, o53, hl54, g55_0, g55_1, p55_1, o55, hl56, g57_0, g57_1, g57_2, g57_3, p57_3, o57, hl58, g59_0, p59_0, g59_1, p59_1, g59_2, p59_2, g59_3, p59_3, g59_4, p59_4, g59_5, p59_5, o59, g60_0, g60_1, g60_2, g60_3, p60_3, o60, hl61, g62_0, g62_1, p62_1, o62, hl63, g64_0, p64_0, g64_1, p64_1, g64_2, p64_2, g64_3, p64_3, g64_4, p64_4, g64_5, p64_5, o64, g65_0, g65_1, g65_2, g65_3, p65_3, g65_4, p65_4, g65_5, p65_5, g65_6, p65_6, g65_7, p65_7, g65_8, g65_9, g65_10, p65_10, g65_11, g65_12, p65_12, g65_13, p65_13, g65_14, g65_15, p65_15, g65_16, p65_16, g65_17, p65_17, g65_18, p65_18, g65_19, g65_20, p65_20, g65_21, p65_21, g65_22, p65_22, g65_23, p65_23, g65_24, g65_25, p65_25, o65, hl66, hl67, hl68, hl69, hl70, hl71, hl72, hl73, hl74, k66_3285, s66_3285, k66_3286, s66_3286, k66_3287, s66_3287, k66_3288, s66_3288, k66_3289, s66_3289, k66_3290, s66_3290, k66_3291, s66_3291, k66_3292, s66_3292, k66_2484, k69_0, s69_0, k69_1, s69_1, k69_2, s69_2, k69_3, s69_3, k69_4, s69_4, k69_5, s69_5, k68_0, k68_1, k71_0, oa_1, oa_2, oa_3, oa_4, oa_96, oa_768, oa_804, oa_852, oa_2388, oa_2436, oa_2484, oa_2517, ob_1, ob_2, ob_3, ob_4, ob_7, ob_11, ob_12, ob_13, ob_14, oa_0, ob_0, om_3, om_6, om_8, om_14, om_16, om_32, om_3293, oan, omn, inc_n, zne1, zne0, zeq0, zeq1, Bool.not_true, Bool.not_false, mFld_f s5 s1 hx]
  have hx := Classical.not_not.mp hx
  have hct := cFld_t (sa := sa) (a := a) s4 s1 hx
  have hmt := mFld_t (sa := sa) (a := a) s5 s1 hx
  obtain ⟨f, hf, rfl⟩ := inI hx.1 hx.2 (by omega)
  obtain ⟨b1, b2, b3, b4, b5, b6, b7, b8, ⟨p, hpf, b9⟩, b10⟩ := s9 f hf
  have b3 : V 8 (f * 17 + 14) = V 66 (96 + 14 * f + 12) := b3
  have b9 : V 8 (f * 17 + 12) = nI p := b9
  have b6' : V 8 (f * 17 + 6) = V 66 (96 + 14 * f + 6) := b1 6 (by omega)
  have c6 := @cF_6 sa a V nf f s4 s1 hf
  have m6 := @mF_6 sa a V f (by omega)
  rw [← b6'] at m6
  rcases b10 with ⟨c1, -⟩ | ⟨c1, c2, it, m, u0, d1, d2, d3, d4, d5, d6, d7, d8, d9, d10⟩
  · have c1 : V 8 (f * 17 + 6) = 0 := c1
    have c14 := @cF_14 sa a V nf f s4 s1 hf
    have m12 := @mF_12 sa a V f (by omega)
    rw [c1] at c6 m6
    rw [b3] at c14
    refine ⟨V 66 (96 + 14 * f + 12), V, V, ?_, ?_, hI⟩
    · rw [e_X7_last]; unfold b_X7_last; simp only [ev_vI0, ev_vJ0, ev_vA0, ev_st1_0, ev_st2_0, ev_vI1, ev_vJ1, ev_vA1, ev_st1_1, ev_st2_1, ev_vI2, ev_vJ2, ev_vA2, ev_st1_2, ev_st2_2, ev_vI3, ev_vJ3, ev_vA3, ev_st1_3, ev_st2_3, ev_vI4, ev_vJ4, ev_vA4, ev_st1_4, ev_st2_4, ev_vI5, ev_vJ5, ev_vA5, ev_st1_5, ev_st2_5, ev_vI6, ev_vJ6, ev_vA6, ev_st1_6, ev_st2_6, ev_vI7, ev_vJ7, ev_vA7, ev_st1_7, ev_st2_7, ev_vI8, ev_vJ8, ev_vA8, ev_st1_8, ev_st2_8, ev_vI9, ev_vJ9, ev_vA9, ev_st1_9, ev_st2_9, ev_vI10, ev_vJ10, ev_vA10, ev_st1_10, ev_st2_10, ev_vI11, ev_vJ11, ev_vA11, ev_st1_11, ev_st2_11, ev_vI12, ev_vJ12, ev_vA12, ev_st1_12, ev_st2_12, ev_kI, ev_kJ, ev_bI, ev_bI1, ev_bI2, ev_bQ, ev_bQ1, ev_bQ2, ev_bJ, ev_bJ1, ev_bJ2, ev_bQJ, ev_bQJ1, ev_bQJ2, ev_uIJ, ev_uIJ1, ev_uJI, ev_uJI1, ev_uJJ, ev_uJJ1, ev_fI, ev_fI1, ev_fI2, ev_fA, ev_fA1, ev_fA2, ev_aI, ev_aI1, ev_aI2, ev_aI3, ev_aN, ev_aN1, ev_aN2, ev_cI, ev_cIt, ev_cIf, ev_qI, ev_qI1, ev_qI2, ev_qJ, ev_qJ1, ev_qJ2, ev_qZ, ev_qZ1, ev_qAnd, ev_qAndt, ev_qAndf, ev_qOr, ev_qOrt, ev_qOrf, ev_qNot, ev_qNot1, ev_qIf, ev_qIft, ev_qIff, ev_aNil, ev_aC, ev_aC1, ev_aC2, ev_unI, ev_unJ, ev_unA, ev_unV, ev_mV, ev_mV1, ev_mV2, ev_mV3, ev_mS, ev_mS1, ev_skip, ev_seq, ev_seq0, ev_seq1, ev_seq2, ev_seqr, ev_sI, ev_sI1, ev_sA, ev_sA1, ev_sJ, ev_sJ1, ev_inc, ev_inc1, ev_kln, ev_kli, ev_klr, ev_klj, ev_G, ev_put, ev_put1, ev_put2, ev_putZ, ev_putZ1, ev_putZ2, ev_ast, ev_ast1, ev_ast2, ev_ast3, ev_astZ, ev_astZ1, ev_astZ2, ev_astZ3, ev_fop, ev_fop1, ev_fop2, ev_fop3, ev_aop, ev_aop1, ev_aop2, ev_aop3, ev_aop4, ev_sV, ev_sV1, ev_pop, ev_pop1, ev_rI, ev_rI1, ev_rJ, ev_rJ1, ev_rA, ev_rA1, ev_rV, ev_brk, ev_cont, ev_sIf, ev_sIft, ev_sIff, ev_sw, ev_sw1, ev_sw0, ev_sw1b, ev_sw2, ev_swr, ev_wh, ev_whf, ev_wht, ev_wh0, ev_wh1, ev_wh2, ev_whr, ev_wh3, ev_mr, ev_mrI, ev_mrJ, ev_mrV, ev_mrA, ev_mrZ1, ev_mrZ0, ev_bs, g0_0, g0_1, g0_2, g0_3, g0_4, g0_5, p0_5, o0, g1_0, g1_1, g1_2, g1_3, g1_4, p1_4, g1_5, p1_5, o1, g2_0, g2_1, p2_1, o2, hl3, g4_0, g4_1, p4_1, o4, hl5, g6_0, g6_1, g6_2, g6_3, o6, g7_0, g7_1, g7_2, g7_3, p7_3, o7, hl8, g9_0, g9_1, g9_2, g9_3, p9_3, o9, hl10, g11_0, g11_1, p11_1, o11, hl12, g13_0, g13_1, g13_2, g13_3, p13_3, o13, hl14, g15_0, g15_1, g15_2, g15_3, p15_3, o15, hl16, g17_0, g17_1, g17_2, g17_3, g17_4, p17_4, g17_5, p17_5, o17, g18_0, g18_1, p18_1, o18, hl19, g20_0, g20_1, p20_1, o20, hl21, g22_0, g22_1, g22_2, g22_3, o22, g23_0, g23_1, g23_2, g23_3, p23_3, o23, hl24, g25_0, g25_1, g25_2, g25_3, p25_3, o25, hl26, g27_0, g27_1, p27_1, o27, hl28, g29_0, g29_1, g29_2, g29_3, p29_3, o29, hl30, g31_0, g31_1, g31_2, g31_3, p31_3, o31, hl32, g33_0, g33_1, g33_2, g33_3, g33_4, p33_4, g33_5, p33_5, o33, g34_0, g34_1, p34_1, o34, hl35, g36_0, g36_1, p36_1, o36, hl37, g38_0, g38_1, g38_2, g38_3, o38, g39_0, g39_1, g39_2, g39_3, p39_3, o39, hl40, g41_0, g41_1, g41_2, g41_3, p41_3, o41, hl42, g43_0, g43_1, p43_1, o43, hl44, g45_0, g45_1, g45_2, g45_3, p45_3, o45, hl46, g47_0, g47_1, g47_2, g47_3, p47_3, o47, hl48, g49_0, g49_1, p49_1, g49_2, p49_2, g49_3, g49_4, g49_5, p49_5, g49_6, p49_6, g49_7, p49_7, g49_8, p49_8, g49_9, p49_9, g49_10, p49_10, g49_11, g49_12, p49_12, g49_13, p49_13, o49, g50_0, g50_1, g50_2, g50_3, o50, g51_0, g51_1, g51_2, g51_3, p51_3, o51, hl52, g53_0, g53_1, g53_2, g53_3, p53_3, o53, hl54, g55_0, g55_1, p55_1, o55, hl56, g57_0, g57_1, g57_2, g57_3, p57_3, o57, hl58, g59_0, p59_0, g59_1, p59_1, g59_2, p59_2, g59_3, p59_3, g59_4, p59_4, g59_5, p59_5, o59, g60_0, g60_1, g60_2, g60_3, p60_3, o60, hl61, g62_0, g62_1, p62_1, o62, hl63, g64_0, p64_0, g64_1, p64_1, g64_2, p64_2, g64_3, p64_3, g64_4, p64_4, g64_5, p64_5, o64, g65_0, g65_1, g65_2, g65_3, p65_3, g65_4, p65_4, g65_5, p65_5, g65_6, p65_6, g65_7, p65_7, g65_8, g65_9, g65_10, p65_10, g65_11, g65_12, p65_12, g65_13, p65_13, g65_14, g65_15, p65_15, g65_16, p65_16, g65_17, p65_17, g65_18, p65_18, g65_19, g65_20, p65_20, g65_21, p65_21, g65_22, p65_22, g65_23, p65_23, g65_24, g65_25, p65_25, o65, hl66, hl67, hl68, hl69, hl70, hl71, hl72, hl73, hl74, k66_3285, s66_3285, k66_3286, s66_3286, k66_3287, s66_3287, k66_3288, s66_3288, k66_3289, s66_3289, k66_3290, s66_3290, k66_3291, s66_3291, k66_3292, s66_3292, k66_2484, k69_0, s69_0, k69_1, s69_1, k69_2, s69_2, k69_3, s69_3, k69_4, s69_4, k69_5, s69_5, k68_0, k68_1, k71_0, oa_1, oa_2, oa_3, oa_4, oa_96, oa_768, oa_804, oa_852, oa_2388, oa_2436, oa_2484, oa_2517, ob_1, ob_2, ob_3, ob_4, ob_7, ob_11, ob_12, ob_13, ob_14, oa_0, ob_0, om_3, om_6, om_8, om_14, om_16, om_32, om_3293, oan, omn, inc_n, zne1, zne0, zeq0, zeq1, Bool.not_true, Bool.not_false, hct, c6, dF (show ¬ (0 : Int32) = 1 by decide), c14]
    · rw [e_X8_last]; unfold b_X8_last; simp only [ev_vI0, ev_vJ0, ev_vA0, ev_st1_0, ev_st2_0, ev_vI1, ev_vJ1, ev_vA1, ev_st1_1, ev_st2_1, ev_vI2, ev_vJ2, ev_vA2, ev_st1_2, ev_st2_2, ev_vI3, ev_vJ3, ev_vA3, ev_st1_3, ev_st2_3, ev_vI4, ev_vJ4, ev_vA4, ev_st1_4, ev_st2_4, ev_vI5, ev_vJ5, ev_vA5, ev_st1_5, ev_st2_5, ev_vI6, ev_vJ6, ev_vA6, ev_st1_6, ev_st2_6, ev_vI7, ev_vJ7, ev_vA7, ev_st1_7, ev_st2_7, ev_vI8, ev_vJ8, ev_vA8, ev_st1_8, ev_st2_8, ev_vI9, ev_vJ9, ev_vA9, ev_st1_9, ev_st2_9, ev_vI10, ev_vJ10, ev_vA10, ev_st1_10, ev_st2_10, ev_vI11, ev_vJ11, ev_vA11, ev_st1_11, ev_st2_11, ev_vI12, ev_vJ12, ev_vA12, ev_st1_12, ev_st2_12, ev_kI, ev_kJ, ev_bI, ev_bI1, ev_bI2, ev_bQ, ev_bQ1, ev_bQ2, ev_bJ, ev_bJ1, ev_bJ2, ev_bQJ, ev_bQJ1, ev_bQJ2, ev_uIJ, ev_uIJ1, ev_uJI, ev_uJI1, ev_uJJ, ev_uJJ1, ev_fI, ev_fI1, ev_fI2, ev_fA, ev_fA1, ev_fA2, ev_aI, ev_aI1, ev_aI2, ev_aI3, ev_aN, ev_aN1, ev_aN2, ev_cI, ev_cIt, ev_cIf, ev_qI, ev_qI1, ev_qI2, ev_qJ, ev_qJ1, ev_qJ2, ev_qZ, ev_qZ1, ev_qAnd, ev_qAndt, ev_qAndf, ev_qOr, ev_qOrt, ev_qOrf, ev_qNot, ev_qNot1, ev_qIf, ev_qIft, ev_qIff, ev_aNil, ev_aC, ev_aC1, ev_aC2, ev_unI, ev_unJ, ev_unA, ev_unV, ev_mV, ev_mV1, ev_mV2, ev_mV3, ev_mS, ev_mS1, ev_skip, ev_seq, ev_seq0, ev_seq1, ev_seq2, ev_seqr, ev_sI, ev_sI1, ev_sA, ev_sA1, ev_sJ, ev_sJ1, ev_inc, ev_inc1, ev_kln, ev_kli, ev_klr, ev_klj, ev_G, ev_put, ev_put1, ev_put2, ev_putZ, ev_putZ1, ev_putZ2, ev_ast, ev_ast1, ev_ast2, ev_ast3, ev_astZ, ev_astZ1, ev_astZ2, ev_astZ3, ev_fop, ev_fop1, ev_fop2, ev_fop3, ev_aop, ev_aop1, ev_aop2, ev_aop3, ev_aop4, ev_sV, ev_sV1, ev_pop, ev_pop1, ev_rI, ev_rI1, ev_rJ, ev_rJ1, ev_rA, ev_rA1, ev_rV, ev_brk, ev_cont, ev_sIf, ev_sIft, ev_sIff, ev_sw, ev_sw1, ev_sw0, ev_sw1b, ev_sw2, ev_swr, ev_wh, ev_whf, ev_wht, ev_wh0, ev_wh1, ev_wh2, ev_whr, ev_wh3, ev_mr, ev_mrI, ev_mrJ, ev_mrV, ev_mrA, ev_mrZ1, ev_mrZ0, ev_bs, g0_0, g0_1, g0_2, g0_3, g0_4, g0_5, p0_5, o0, g1_0, g1_1, g1_2, g1_3, g1_4, p1_4, g1_5, p1_5, o1, g2_0, g2_1, p2_1, o2, hl3, g4_0, g4_1, p4_1, o4, hl5, g6_0, g6_1, g6_2, g6_3, o6, g7_0, g7_1, g7_2, g7_3, p7_3, o7, hl8, g9_0, g9_1, g9_2, g9_3, p9_3, o9, hl10, g11_0, g11_1, p11_1, o11, hl12, g13_0, g13_1, g13_2, g13_3, p13_3, o13, hl14, g15_0, g15_1, g15_2, g15_3, p15_3, o15, hl16, g17_0, g17_1, g17_2, g17_3, g17_4, p17_4, g17_5, p17_5, o17, g18_0, g18_1, p18_1, o18, hl19, g20_0, g20_1, p20_1, o20, hl21, g22_0, g22_1, g22_2, g22_3, o22, g23_0, g23_1, g23_2, g23_3, p23_3, o23, hl24, g25_0, g25_1, g25_2, g25_3, p25_3, o25, hl26, g27_0, g27_1, p27_1, o27, hl28, g29_0, g29_1, g29_2, g29_3, p29_3, o29, hl30, g31_0, g31_1, g31_2, g31_3, p31_3, o31, hl32, g33_0, g33_1, g33_2, g33_3, g33_4, p33_4, g33_5, p33_5, o33, g34_0, g34_1, p34_1, o34, hl35, g36_0, g36_1, p36_1, o36, hl37, g38_0, g38_1, g38_2, g38_3, o38, g39_0, g39_1, g39_2, g39_3, p39_3, o39, hl40, g41_0, g41_1, g41_2, g41_3, p41_3, o41, hl42, g43_0, g43_1, p43_1, o43, hl44, g45_0, g45_1, g45_2, g45_3, p45_3, o45, hl46, g47_0, g47_1, g47_2, g47_3, p47_3, o47, hl48, g49_0, g49_1, p49_1, g49_2, p49_2, g49_3, g49_4, g49_5, p49_5, g49_6, p49_6, g49_7, p49_7, g49_8, p49_8, g49_9, p49_9, g49_10, p49_10, g49_11, g49_12, p49_12, g49_13, p49_13, o49, g50_0, g50_1, g50_2, g50_3, o50, g51_0, g51_1, g51_2, g51_3, p51_3, o51, hl52, g53_0, g53_1, g53_2, g53_3, p53_3, o53, hl54, g55_0, g55_1, p55_1, o55, hl56, g57_0, g57_1, g57_2, g57_3, p57_3, o57, hl58, g59_0, p59_0, g59_1, p59_1, g59_2, p59_2, g59_3, p59_3, g59_4, p59_4, g59_5, p59_5, o59, g60_0, g60_1, g60_2, g60_3, p60_3, o60, hl61, g62_0, g62_1, p62_1, o62, hl63, g64_0, p64_0, g64_1, p64_1, g64_2, p64_2, g64_3, p64_3, g64_4, p64_4, g64_5, p64_5, o64, g65_0, g65_1, g65_2, g65_3, p65_3, g65_4, p65_4, g65_5, p65_5, g65_6, p65_6, g65_7, p65_7, g65_8, g65_9, g65_10, p65_10, g65_11, g65_12, p65_12, g65_13, p65_13, g65_14, g65_15, p65_15, g65_16, p65_16, g65_17, p65_17, g65_18, p65_18, g65_19, g65_20, p65_20, g65_21, p65_21, g65_22, p65_22, g65_23, p65_23, g65_24, g65_25, p65_25, o65, hl66, hl67, hl68, hl69, hl70, hl71, hl72, hl73, hl74, k66_3285, s66_3285, k66_3286, s66_3286, k66_3287, s66_3287, k66_3288, s66_3288, k66_3289, s66_3289, k66_3290, s66_3290, k66_3291, s66_3291, k66_3292, s66_3292, k66_2484, k69_0, s69_0, k69_1, s69_1, k69_2, s69_2, k69_3, s69_3, k69_4, s69_4, k69_5, s69_5, k68_0, k68_1, k71_0, oa_1, oa_2, oa_3, oa_4, oa_96, oa_768, oa_804, oa_852, oa_2388, oa_2436, oa_2484, oa_2517, ob_1, ob_2, ob_3, ob_4, ob_7, ob_11, ob_12, ob_13, ob_14, oa_0, ob_0, om_3, om_6, om_8, om_14, om_16, om_32, om_3293, oan, omn, inc_n, zne1, zne0, zeq0, zeq1, Bool.not_true, Bool.not_false, hmt, m6, m12]
  · have c1 : V 8 (f * 17 + 6) = 1 := c1
    have c12 := @cF_12 sa a V nf f s4 s1 hf
    have c16 := @cF_16 sa a V nf p s4 s1 (by omega)
    have d10 : V 8 (p * 17 + 16) = V 66 (2436 + it) := d10 p hpf b9
    rw [c1] at c6 m6
    rw [b9] at c12
    rw [d10] at c16
    refine ⟨nI (sB (V 66 (2436 + it)).toBitVec.toNat 32), V, V, ?_, ?_, hI⟩
    · have cc := c_count (sa := sa) (V 66 (2436 + it)) (G := hp a V)
      rw [e_X7_last]; unfold b_X7_last; simp only [ev_vI0, ev_vJ0, ev_vA0, ev_st1_0, ev_st2_0, ev_vI1, ev_vJ1, ev_vA1, ev_st1_1, ev_st2_1, ev_vI2, ev_vJ2, ev_vA2, ev_st1_2, ev_st2_2, ev_vI3, ev_vJ3, ev_vA3, ev_st1_3, ev_st2_3, ev_vI4, ev_vJ4, ev_vA4, ev_st1_4, ev_st2_4, ev_vI5, ev_vJ5, ev_vA5, ev_st1_5, ev_st2_5, ev_vI6, ev_vJ6, ev_vA6, ev_st1_6, ev_st2_6, ev_vI7, ev_vJ7, ev_vA7, ev_st1_7, ev_st2_7, ev_vI8, ev_vJ8, ev_vA8, ev_st1_8, ev_st2_8, ev_vI9, ev_vJ9, ev_vA9, ev_st1_9, ev_st2_9, ev_vI10, ev_vJ10, ev_vA10, ev_st1_10, ev_st2_10, ev_vI11, ev_vJ11, ev_vA11, ev_st1_11, ev_st2_11, ev_vI12, ev_vJ12, ev_vA12, ev_st1_12, ev_st2_12, ev_kI, ev_kJ, ev_bI, ev_bI1, ev_bI2, ev_bQ, ev_bQ1, ev_bQ2, ev_bJ, ev_bJ1, ev_bJ2, ev_bQJ, ev_bQJ1, ev_bQJ2, ev_uIJ, ev_uIJ1, ev_uJI, ev_uJI1, ev_uJJ, ev_uJJ1, ev_fI, ev_fI1, ev_fI2, ev_fA, ev_fA1, ev_fA2, ev_aI, ev_aI1, ev_aI2, ev_aI3, ev_aN, ev_aN1, ev_aN2, ev_cI, ev_cIt, ev_cIf, ev_qI, ev_qI1, ev_qI2, ev_qJ, ev_qJ1, ev_qJ2, ev_qZ, ev_qZ1, ev_qAnd, ev_qAndt, ev_qAndf, ev_qOr, ev_qOrt, ev_qOrf, ev_qNot, ev_qNot1, ev_qIf, ev_qIft, ev_qIff, ev_aNil, ev_aC, ev_aC1, ev_aC2, ev_unI, ev_unJ, ev_unA, ev_unV, ev_mV, ev_mV1, ev_mV2, ev_mV3, ev_mS, ev_mS1, ev_skip, ev_seq, ev_seq0, ev_seq1, ev_seq2, ev_seqr, ev_sI, ev_sI1, ev_sA, ev_sA1, ev_sJ, ev_sJ1, ev_inc, ev_inc1, ev_kln, ev_kli, ev_klr, ev_klj, ev_G, ev_put, ev_put1, ev_put2, ev_putZ, ev_putZ1, ev_putZ2, ev_ast, ev_ast1, ev_ast2, ev_ast3, ev_astZ, ev_astZ1, ev_astZ2, ev_astZ3, ev_fop, ev_fop1, ev_fop2, ev_fop3, ev_aop, ev_aop1, ev_aop2, ev_aop3, ev_aop4, ev_sV, ev_sV1, ev_pop, ev_pop1, ev_rI, ev_rI1, ev_rJ, ev_rJ1, ev_rA, ev_rA1, ev_rV, ev_brk, ev_cont, ev_sIf, ev_sIft, ev_sIff, ev_sw, ev_sw1, ev_sw0, ev_sw1b, ev_sw2, ev_swr, ev_wh, ev_whf, ev_wht, ev_wh0, ev_wh1, ev_wh2, ev_whr, ev_wh3, ev_mr, ev_mrI, ev_mrJ, ev_mrV, ev_mrA, ev_mrZ1, ev_mrZ0, ev_bs, g0_0, g0_1, g0_2, g0_3, g0_4, g0_5, p0_5, o0, g1_0, g1_1, g1_2, g1_3, g1_4, p1_4, g1_5, p1_5, o1, g2_0, g2_1, p2_1, o2, hl3, g4_0, g4_1, p4_1, o4, hl5, g6_0, g6_1, g6_2, g6_3, o6, g7_0, g7_1, g7_2, g7_3, p7_3, o7, hl8, g9_0, g9_1, g9_2, g9_3, p9_3, o9, hl10, g11_0, g11_1, p11_1, o11, hl12, g13_0, g13_1, g13_2, g13_3, p13_3, o13, hl14, g15_0, g15_1, g15_2, g15_3, p15_3, o15, hl16, g17_0, g17_1, g17_2, g17_3, g17_4, p17_4, g17_5, p17_5, o17, g18_0, g18_1, p18_1, o18, hl19, g20_0, g20_1, p20_1, o20, hl21, g22_0, g22_1, g22_2, g22_3, o22, g23_0, g23_1, g23_2, g23_3, p23_3, o23, hl24, g25_0, g25_1, g25_2, g25_3, p25_3, o25, hl26, g27_0, g27_1, p27_1, o27, hl28, g29_0, g29_1, g29_2, g29_3, p29_3, o29, hl30, g31_0, g31_1, g31_2, g31_3, p31_3, o31, hl32, g33_0, g33_1, g33_2, g33_3, g33_4, p33_4, g33_5, p33_5, o33, g34_0, g34_1, p34_1, o34, hl35, g36_0, g36_1, p36_1, o36, hl37, g38_0, g38_1, g38_2, g38_3, o38, g39_0, g39_1, g39_2, g39_3, p39_3, o39, hl40, g41_0, g41_1, g41_2, g41_3, p41_3, o41, hl42, g43_0, g43_1, p43_1, o43, hl44, g45_0, g45_1, g45_2, g45_3, p45_3, o45, hl46, g47_0, g47_1, g47_2, g47_3, p47_3, o47, hl48, g49_0, g49_1, p49_1, g49_2, p49_2, g49_3, g49_4, g49_5, p49_5, g49_6, p49_6, g49_7, p49_7, g49_8, p49_8, g49_9, p49_9, g49_10, p49_10, g49_11, g49_12, p49_12, g49_13, p49_13, o49, g50_0, g50_1, g50_2, g50_3, o50, g51_0, g51_1, g51_2, g51_3, p51_3, o51, hl52, g53_0, g53_1, g53_2, g53_3, p53_3, o53, hl54, g55_0, g55_1, p55_1, o55, hl56, g57_0, g57_1, g57_2, g57_3, p57_3, o57, hl58, g59_0, p59_0, g59_1, p59_1, g59_2, p59_2, g59_3, p59_3, g59_4, p59_4, g59_5, p59_5, o59, g60_0, g60_1, g60_2, g60_3, p60_3, o60, hl61, g62_0, g62_1, p62_1, o62, hl63, g64_0, p64_0, g64_1, p64_1, g64_2, p64_2, g64_3, p64_3, g64_4, p64_4, g64_5, p64_5, o64, g65_0, g65_1, g65_2, g65_3, p65_3, g65_4, p65_4, g65_5, p65_5, g65_6, p65_6, g65_7, p65_7, g65_8, g65_9, g65_10, p65_10, g65_11, g65_12, p65_12, g65_13, p65_13, g65_14, g65_15, p65_15, g65_16, p65_16, g65_17, p65_17, g65_18, p65_18, g65_19, g65_20, p65_20, g65_21, p65_21, g65_22, p65_22, g65_23, p65_23, g65_24, g65_25, p65_25, o65, hl66, hl67, hl68, hl69, hl70, hl71, hl72, hl73, hl74, k66_3285, s66_3285, k66_3286, s66_3286, k66_3287, s66_3287, k66_3288, s66_3288, k66_3289, s66_3289, k66_3290, s66_3290, k66_3291, s66_3291, k66_3292, s66_3292, k66_2484, k69_0, s69_0, k69_1, s69_1, k69_2, s69_2, k69_3, s69_3, k69_4, s69_4, k69_5, s69_5, k68_0, k68_1, k71_0, oa_1, oa_2, oa_3, oa_4, oa_96, oa_768, oa_804, oa_852, oa_2388, oa_2436, oa_2484, oa_2517, ob_1, ob_2, ob_3, ob_4, ob_7, ob_11, ob_12, ob_13, ob_14, oa_0, ob_0, om_3, om_6, om_8, om_14, om_16, om_32, om_3293, oan, omn, inc_n, zne1, zne0, zeq0, zeq1, Bool.not_true, Bool.not_false, hct, c6, dT (show (1 : Int32) = 1 from rfl), c12, c16, cc]
    · have hl := ls_l (sa := sa) (a := a) (V := V) (f := f) (it := it) (by omega) d1 d4 FU 0 (by omega) (by unfold FU; omega)
      have hl : sWh _ _ _ FU [some (.ref (a + 65)), some (.int (nI f)), some (.int 0), some (.int 0)] (hp a V) = _ := hl
      rw [e_X8_last]; unfold b_X8_last; simp only [ev_vI0, ev_vJ0, ev_vA0, ev_st1_0, ev_st2_0, ev_vI1, ev_vJ1, ev_vA1, ev_st1_1, ev_st2_1, ev_vI2, ev_vJ2, ev_vA2, ev_st1_2, ev_st2_2, ev_vI3, ev_vJ3, ev_vA3, ev_st1_3, ev_st2_3, ev_vI4, ev_vJ4, ev_vA4, ev_st1_4, ev_st2_4, ev_vI5, ev_vJ5, ev_vA5, ev_st1_5, ev_st2_5, ev_vI6, ev_vJ6, ev_vA6, ev_st1_6, ev_st2_6, ev_vI7, ev_vJ7, ev_vA7, ev_st1_7, ev_st2_7, ev_vI8, ev_vJ8, ev_vA8, ev_st1_8, ev_st2_8, ev_vI9, ev_vJ9, ev_vA9, ev_st1_9, ev_st2_9, ev_vI10, ev_vJ10, ev_vA10, ev_st1_10, ev_st2_10, ev_vI11, ev_vJ11, ev_vA11, ev_st1_11, ev_st2_11, ev_vI12, ev_vJ12, ev_vA12, ev_st1_12, ev_st2_12, ev_kI, ev_kJ, ev_bI, ev_bI1, ev_bI2, ev_bQ, ev_bQ1, ev_bQ2, ev_bJ, ev_bJ1, ev_bJ2, ev_bQJ, ev_bQJ1, ev_bQJ2, ev_uIJ, ev_uIJ1, ev_uJI, ev_uJI1, ev_uJJ, ev_uJJ1, ev_fI, ev_fI1, ev_fI2, ev_fA, ev_fA1, ev_fA2, ev_aI, ev_aI1, ev_aI2, ev_aI3, ev_aN, ev_aN1, ev_aN2, ev_cI, ev_cIt, ev_cIf, ev_qI, ev_qI1, ev_qI2, ev_qJ, ev_qJ1, ev_qJ2, ev_qZ, ev_qZ1, ev_qAnd, ev_qAndt, ev_qAndf, ev_qOr, ev_qOrt, ev_qOrf, ev_qNot, ev_qNot1, ev_qIf, ev_qIft, ev_qIff, ev_aNil, ev_aC, ev_aC1, ev_aC2, ev_unI, ev_unJ, ev_unA, ev_unV, ev_mV, ev_mV1, ev_mV2, ev_mV3, ev_mS, ev_mS1, ev_skip, ev_seq, ev_seq0, ev_seq1, ev_seq2, ev_seqr, ev_sI, ev_sI1, ev_sA, ev_sA1, ev_sJ, ev_sJ1, ev_inc, ev_inc1, ev_kln, ev_kli, ev_klr, ev_klj, ev_G, ev_put, ev_put1, ev_put2, ev_putZ, ev_putZ1, ev_putZ2, ev_ast, ev_ast1, ev_ast2, ev_ast3, ev_astZ, ev_astZ1, ev_astZ2, ev_astZ3, ev_fop, ev_fop1, ev_fop2, ev_fop3, ev_aop, ev_aop1, ev_aop2, ev_aop3, ev_aop4, ev_sV, ev_sV1, ev_pop, ev_pop1, ev_rI, ev_rI1, ev_rJ, ev_rJ1, ev_rA, ev_rA1, ev_rV, ev_brk, ev_cont, ev_sIf, ev_sIft, ev_sIff, ev_sw, ev_sw1, ev_sw0, ev_sw1b, ev_sw2, ev_swr, ev_wh, ev_whf, ev_wht, ev_wh0, ev_wh1, ev_wh2, ev_whr, ev_wh3, ev_mr, ev_mrI, ev_mrJ, ev_mrV, ev_mrA, ev_mrZ1, ev_mrZ0, ev_bs, g0_0, g0_1, g0_2, g0_3, g0_4, g0_5, p0_5, o0, g1_0, g1_1, g1_2, g1_3, g1_4, p1_4, g1_5, p1_5, o1, g2_0, g2_1, p2_1, o2, hl3, g4_0, g4_1, p4_1, o4, hl5, g6_0, g6_1, g6_2, g6_3, o6, g7_0, g7_1, g7_2, g7_3, p7_3, o7, hl8, g9_0, g9_1, g9_2, g9_3, p9_3, o9, hl10, g11_0, g11_1, p11_1, o11, hl12, g13_0, g13_1, g13_2, g13_3, p13_3, o13, hl14, g15_0, g15_1, g15_2, g15_3, p15_3, o15, hl16, g17_0, g17_1, g17_2, g17_3, g17_4, p17_4, g17_5, p17_5, o17, g18_0, g18_1, p18_1, o18, hl19, g20_0, g20_1, p20_1, o20, hl21, g22_0, g22_1, g22_2, g22_3, o22, g23_0, g23_1, g23_2, g23_3, p23_3, o23, hl24, g25_0, g25_1, g25_2, g25_3, p25_3, o25, hl26, g27_0, g27_1, p27_1, o27, hl28, g29_0, g29_1, g29_2, g29_3, p29_3, o29, hl30, g31_0, g31_1, g31_2, g31_3, p31_3, o31, hl32, g33_0, g33_1, g33_2, g33_3, g33_4, p33_4, g33_5, p33_5, o33, g34_0, g34_1, p34_1, o34, hl35, g36_0, g36_1, p36_1, o36, hl37, g38_0, g38_1, g38_2, g38_3, o38, g39_0, g39_1, g39_2, g39_3, p39_3, o39, hl40, g41_0, g41_1, g41_2, g41_3, p41_3, o41, hl42, g43_0, g43_1, p43_1, o43, hl44, g45_0, g45_1, g45_2, g45_3, p45_3, o45, hl46, g47_0, g47_1, g47_2, g47_3, p47_3, o47, hl48, g49_0, g49_1, p49_1, g49_2, p49_2, g49_3, g49_4, g49_5, p49_5, g49_6, p49_6, g49_7, p49_7, g49_8, p49_8, g49_9, p49_9, g49_10, p49_10, g49_11, g49_12, p49_12, g49_13, p49_13, o49, g50_0, g50_1, g50_2, g50_3, o50, g51_0, g51_1, g51_2, g51_3, p51_3, o51, hl52, g53_0, g53_1, g53_2, g53_3, p53_3, o53, hl54, g55_0, g55_1, p55_1, o55, hl56, g57_0, g57_1, g57_2, g57_3, p57_3, o57, hl58, g59_0, p59_0, g59_1, p59_1, g59_2, p59_2, g59_3, p59_3, g59_4, p59_4, g59_5, p59_5, o59, g60_0, g60_1, g60_2, g60_3, p60_3, o60, hl61, g62_0, g62_1, p62_1, o62, hl63, g64_0, p64_0, g64_1, p64_1, g64_2, p64_2, g64_3, p64_3, g64_4, p64_4, g64_5, p64_5, o64, g65_0, g65_1, g65_2, g65_3, p65_3, g65_4, p65_4, g65_5, p65_5, g65_6, p65_6, g65_7, p65_7, g65_8, g65_9, g65_10, p65_10, g65_11, g65_12, p65_12, g65_13, p65_13, g65_14, g65_15, p65_15, g65_16, p65_16, g65_17, p65_17, g65_18, p65_18, g65_19, g65_20, p65_20, g65_21, p65_21, g65_22, p65_22, g65_23, p65_23, g65_24, g65_25, p65_25, o65, hl66, hl67, hl68, hl69, hl70, hl71, hl72, hl73, hl74, k66_3285, s66_3285, k66_3286, s66_3286, k66_3287, s66_3287, k66_3288, s66_3288, k66_3289, s66_3289, k66_3290, s66_3290, k66_3291, s66_3291, k66_3292, s66_3292, k66_2484, k69_0, s69_0, k69_1, s69_1, k69_2, s69_2, k69_3, s69_3, k69_4, s69_4, k69_5, s69_5, k68_0, k68_1, k71_0, oa_1, oa_2, oa_3, oa_4, oa_96, oa_768, oa_804, oa_852, oa_2388, oa_2436, oa_2484, oa_2517, ob_1, ob_2, ob_3, ob_4, ob_7, ob_11, ob_12, ob_13, ob_14, oa_0, ob_0, om_3, om_6, om_8, om_14, om_16, om_32, om_3293, oan, omn, inc_n, zne1, zne0, zeq0, zeq1, Bool.not_true, Bool.not_false, hmt, m6, hl]
end Last
