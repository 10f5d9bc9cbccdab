/-! PURE 5: help rows: constants, numbers. -/
theorem k66_3285 {a : Nat} {V : VV} : getA (hp a V) false (a + 66) 3285 = some (V 66 3285) := ga66n (m := 3285) (by decide)
theorem s66_3285 {a : Nat} {V : VV} {x : Int32} : setA (hp a V) false (a + 66) 3285 x = some (hp a (updR V 66 (upd (V 66) 3285 x))) := sa66n (m := 3285) (by decide)
theorem k66_3286 {a : Nat} {V : VV} : getA (hp a V) false (a + 66) 3286 = some (V 66 3286) := ga66n (m := 3286) (by decide)
theorem s66_3286 {a : Nat} {V : VV} {x : Int32} : setA (hp a V) false (a + 66) 3286 x = some (hp a (updR V 66 (upd (V 66) 3286 x))) := sa66n (m := 3286) (by decide)
theorem k66_3287 {a : Nat} {V : VV} : getA (hp a V) false (a + 66) 3287 = some (V 66 3287) := ga66n (m := 3287) (by decide)
theorem s66_3287 {a : Nat} {V : VV} {x : Int32} : setA (hp a V) false (a + 66) 3287 x = some (hp a (updR V 66 (upd (V 66) 3287 x))) := sa66n (m := 3287) (by decide)
theorem k66_3288 {a : Nat} {V : VV} : getA (hp a V) false (a + 66) 3288 = some (V 66 3288) := ga66n (m := 3288) (by decide)
theorem s66_3288 {a : Nat} {V : VV} {x : Int32} : setA (hp a V) false (a + 66) 3288 x = some (hp a (updR V 66 (upd (V 66) 3288 x))) := sa66n (m := 3288) (by decide)
theorem k66_3289 {a : Nat} {V : VV} : getA (hp a V) false (a + 66) 3289 = some (V 66 3289) := ga66n (m := 3289) (by decide)
theorem s66_3289 {a : Nat} {V : VV} {x : Int32} : setA (hp a V) false (a + 66) 3289 x = some (hp a (updR V 66 (upd (V 66) 3289 x))) := sa66n (m := 3289) (by decide)
theorem k66_3290 {a : Nat} {V : VV} : getA (hp a V) false (a + 66) 3290 = some (V 66 3290) := ga66n (m := 3290) (by decide)
theorem s66_3290 {a : Nat} {V : VV} {x : Int32} : setA (hp a V) false (a + 66) 3290 x = some (hp a (updR V 66 (upd (V 66) 3290 x))) := sa66n (m := 3290) (by decide)
theorem k66_3291 {a : Nat} {V : VV} : getA (hp a V) false (a + 66) 3291 = some (V 66 3291) := ga66n (m := 3291) (by decide)
theorem s66_3291 {a : Nat} {V : VV} {x : Int32} : setA (hp a V) false (a + 66) 3291 x = some (hp a (updR V 66 (upd (V 66) 3291 x))) := sa66n (m := 3291) (by decide)
theorem k66_3292 {a : Nat} {V : VV} : getA (hp a V) false (a + 66) 3292 = some (V 66 3292) := ga66n (m := 3292) (by decide)
theorem s66_3292 {a : Nat} {V : VV} {x : Int32} : setA (hp a V) false (a + 66) 3292 x = some (hp a (updR V 66 (upd (V 66) 3292 x))) := sa66n (m := 3292) (by decide)
theorem k66_2484 {a : Nat} {V : VV} : getA (hp a V) false (a + 66) 2484 = some (V 66 2484) := ga66n (m := 2484) (by decide)
theorem k69_0 {a : Nat} {V : VV} : getA (hp a V) false (a + 69) 0 = some (V 69 0) := ga69n (m := 0) (by decide)
theorem s69_0 {a : Nat} {V : VV} {x : Int32} : setA (hp a V) false (a + 69) 0 x = some (hp a (updR V 69 (upd (V 69) 0 x))) := sa69n (m := 0) (by decide)
theorem k69_1 {a : Nat} {V : VV} : getA (hp a V) false (a + 69) 1 = some (V 69 1) := ga69n (m := 1) (by decide)
theorem s69_1 {a : Nat} {V : VV} {x : Int32} : setA (hp a V) false (a + 69) 1 x = some (hp a (updR V 69 (upd (V 69) 1 x))) := sa69n (m := 1) (by decide)
theorem k69_2 {a : Nat} {V : VV} : getA (hp a V) false (a + 69) 2 = some (V 69 2) := ga69n (m := 2) (by decide)
theorem s69_2 {a : Nat} {V : VV} {x : Int32} : setA (hp a V) false (a + 69) 2 x = some (hp a (updR V 69 (upd (V 69) 2 x))) := sa69n (m := 2) (by decide)
theorem k69_3 {a : Nat} {V : VV} : getA (hp a V) false (a + 69) 3 = some (V 69 3) := ga69n (m := 3) (by decide)
theorem s69_3 {a : Nat} {V : VV} {x : Int32} : setA (hp a V) false (a + 69) 3 x = some (hp a (updR V 69 (upd (V 69) 3 x))) := sa69n (m := 3) (by decide)
theorem k69_4 {a : Nat} {V : VV} : getA (hp a V) false (a + 69) 4 = some (V 69 4) := ga69n (m := 4) (by decide)
theorem s69_4 {a : Nat} {V : VV} {x : Int32} : setA (hp a V) false (a + 69) 4 x = some (hp a (updR V 69 (upd (V 69) 4 x))) := sa69n (m := 4) (by decide)
theorem k69_5 {a : Nat} {V : VV} : getA (hp a V) false (a + 69) 5 = some (V 69 5) := ga69n (m := 5) (by decide)
theorem s69_5 {a : Nat} {V : VV} {x : Int32} : setA (hp a V) false (a + 69) 5 x = some (hp a (updR V 69 (upd (V 69) 5 x))) := sa69n (m := 5) (by decide)
theorem k68_0 {a : Nat} {V : VV} : getA (hp a V) true (a + 68) 0 = some (V 68 0) := ga68n (m := 0) (by decide)
theorem k68_1 {a : Nat} {V : VV} : getA (hp a V) true (a + 68) 1 = some (V 68 1) := ga68n (m := 1) (by decide)
theorem k71_0 {a : Nat} {V : VV} : getA (hp a V) false (a + 71) 0 = some (V 71 0) := ga71n (m := 0) (by decide)
theorem oa_1 {n : Nat} : o_add 1 (nI n) = nI (1 + n) := nI_add 1 n
theorem oa_2 {n : Nat} : o_add 2 (nI n) = nI (2 + n) := nI_add 2 n
theorem oa_3 {n : Nat} : o_add 3 (nI n) = nI (3 + n) := nI_add 3 n
theorem oa_4 {n : Nat} : o_add 4 (nI n) = nI (4 + n) := nI_add 4 n
theorem oa_96 {n : Nat} : o_add 96 (nI n) = nI (96 + n) := nI_add 96 n
theorem oa_768 {n : Nat} : o_add 768 (nI n) = nI (768 + n) := nI_add 768 n
theorem oa_804 {n : Nat} : o_add 804 (nI n) = nI (804 + n) := nI_add 804 n
theorem oa_852 {n : Nat} : o_add 852 (nI n) = nI (852 + n) := nI_add 852 n
theorem oa_2388 {n : Nat} : o_add 2388 (nI n) = nI (2388 + n) := nI_add 2388 n
theorem oa_2436 {n : Nat} : o_add 2436 (nI n) = nI (2436 + n) := nI_add 2436 n
theorem oa_2484 {n : Nat} : o_add 2484 (nI n) = nI (2484 + n) := nI_add 2484 n
theorem oa_2517 {n : Nat} : o_add 2517 (nI n) = nI (2517 + n) := nI_add 2517 n
theorem ob_1 {n : Nat} : o_add (nI n) 1 = nI (n + 1) := nI_add n 1
theorem ob_2 {n : Nat} : o_add (nI n) 2 = nI (n + 2) := nI_add n 2
theorem ob_3 {n : Nat} : o_add (nI n) 3 = nI (n + 3) := nI_add n 3
theorem ob_4 {n : Nat} : o_add (nI n) 4 = nI (n + 4) := nI_add n 4
theorem ob_7 {n : Nat} : o_add (nI n) 7 = nI (n + 7) := nI_add n 7
theorem ob_11 {n : Nat} : o_add (nI n) 11 = nI (n + 11) := nI_add n 11
theorem ob_12 {n : Nat} : o_add (nI n) 12 = nI (n + 12) := nI_add n 12
theorem ob_13 {n : Nat} : o_add (nI n) 13 = nI (n + 13) := nI_add n 13
theorem ob_14 {n : Nat} : o_add (nI n) 14 = nI (n + 14) := nI_add n 14
theorem oa_0 {x : Int32} : o_add 0 x = x := Int32.zero_add x
theorem ob_0 {x : Int32} : o_add x 0 = x := Int32.add_zero x
theorem om_3 {n : Nat} : o_mul 3 (nI n) = nI (3 * n) := pk_mul 3 n
theorem om_6 {n : Nat} : o_mul 6 (nI n) = nI (6 * n) := pk_mul 6 n
theorem om_8 {n : Nat} : o_mul 8 (nI n) = nI (8 * n) := pk_mul 8 n
theorem om_14 {n : Nat} : o_mul 14 (nI n) = nI (14 * n) := pk_mul 14 n
theorem om_16 {n : Nat} : o_mul 16 (nI n) = nI (16 * n) := pk_mul 16 n
theorem om_32 {n : Nat} : o_mul 32 (nI n) = nI (32 * n) := pk_mul 32 n
theorem om_3293 {n : Nat} : o_mul 3293 (nI n) = nI (3293 * n) := pk_mul 3293 n
theorem oan {m n : Nat} : o_add (nI m) (nI n) = nI (m + n) := nI_add m n
theorem omn {m n : Nat} : o_mul (nI m) (nI n) = nI (m * n) := pk_mul m n
theorem inc_n {n : Nat} : nI n + 1 = nI (n + 1) := nI_1 n
theorem zne1 : z_ne 1 = true := by decide
theorem zne0 : z_ne 0 = false := by decide
theorem zeq0 : z_eq 0 = true := by decide
theorem zeq1 : z_eq 1 = false := by decide
theorem isW_t {sa : Nat → Nat} {G : Hp} {n lo hi : Int32} (h : lo ≤ n ∧ n ≤ hi) : f_X7_isWithin sa [.int n, .int lo, .int hi] G = some (some (.int 1), G) := by
  rw [e_X7_isWithin]
  unfold b_X7_isWithin
  simp only [ev_vI0, ev_vJ0, ev_vA0, ev_st1_0, ev_st2_0, ev_vI1, ev_vJ1, ev_vA1, ev_st1_1, ev_st2_1, ev_vI2, ev_vJ2, ev_vA2, ev_st1_2, ev_st2_2, ev_vI3, ev_vJ3, ev_vA3, ev_st1_3, ev_st2_3, ev_vI4, ev_vJ4, ev_vA4, ev_st1_4, ev_st2_4, ev_vI5, ev_vJ5, ev_vA5, ev_st1_5, ev_st2_5, ev_vI6, ev_vJ6, ev_vA6, ev_st1_6, ev_st2_6, ev_vI7, ev_vJ7, ev_vA7, ev_st1_7, ev_st2_7, ev_vI8, ev_vJ8, ev_vA8, ev_st1_8, ev_st2_8, ev_vI9, ev_vJ9, ev_vA9, ev_st1_9, ev_st2_9, ev_vI10, ev_vJ10, ev_vA10, ev_st1_10, ev_st2_10, ev_vI11, ev_vJ11, ev_vA11, ev_st1_11, ev_st2_11, ev_vI12, ev_vJ12, ev_vA12, ev_st1_12, ev_st2_12, ev_kI, ev_kJ, ev_bI, ev_bI1, ev_bI2, ev_bQ, ev_bQ1, ev_bQ2, ev_bJ, ev_bJ1, ev_bJ2, ev_bQJ, ev_bQJ1, ev_bQJ2, ev_uIJ, ev_uIJ1, ev_uJI, ev_uJI1, ev_uJJ, ev_uJJ1, ev_fI, ev_fI1, ev_fI2, ev_fA, ev_fA1, ev_fA2, ev_aI, ev_aI1, ev_aI2, ev_aI3, ev_aN, ev_aN1, ev_aN2, ev_cI, ev_cIt, ev_cIf, ev_qI, ev_qI1, ev_qI2, ev_qJ, ev_qJ1, ev_qJ2, ev_qZ, ev_qZ1, ev_qAnd, ev_qAndt, ev_qAndf, ev_qOr, ev_qOrt, ev_qOrf, ev_qNot, ev_qNot1, ev_qIf, ev_qIft, ev_qIff, ev_aNil, ev_aC, ev_aC1, ev_aC2, ev_unI, ev_unJ, ev_unA, ev_unV, ev_mV, ev_mV1, ev_mV2, ev_mV3, ev_mS, ev_mS1, ev_skip, ev_seq, ev_seq0, ev_seq1, ev_seq2, ev_seqr, ev_sI, ev_sI1, ev_sA, ev_sA1, ev_sJ, ev_sJ1, ev_inc, ev_inc1, ev_kln, ev_kli, ev_klr, ev_klj, ev_G, ev_put, ev_put1, ev_put2, ev_putZ, ev_putZ1, ev_putZ2, ev_ast, ev_ast1, ev_ast2, ev_ast3, ev_astZ, ev_astZ1, ev_astZ2, ev_astZ3, ev_fop, ev_fop1, ev_fop2, ev_fop3, ev_aop, ev_aop1, ev_aop2, ev_aop3, ev_aop4, ev_sV, ev_sV1, ev_pop, ev_pop1, ev_rI, ev_rI1, ev_rJ, ev_rJ1, ev_rA, ev_rA1, ev_rV, ev_brk, ev_cont, ev_sIf, ev_sIft, ev_sIff, ev_sw, ev_sw1, ev_sw0, ev_sw1b, ev_sw2, ev_swr, ev_wh, ev_whf, ev_wht, ev_wh0, ev_wh1, ev_wh2, ev_whr, ev_wh3, ev_mr, ev_mrI, ev_mrJ, ev_mrV, ev_mrA, ev_mrZ1, ev_mrZ0, ev_bs, dT h.1, dT h.2]
theorem isW_f {sa : Nat → Nat} {G : Hp} {n lo hi : Int32} (h : ¬ (lo ≤ n ∧ n ≤ hi)) : f_X7_isWithin sa [.int n, .int lo, .int hi] G = some (some (.int 0), G) := by
  rw [e_X7_isWithin]
  unfold b_X7_isWithin
  by_cases h1 : lo ≤ n
  · simp only [ev_vI0, ev_vJ0, ev_vA0, ev_st1_0, ev_st2_0, ev_vI1, ev_vJ1, ev_vA1, ev_st1_1, ev_st2_1, ev_vI2, ev_vJ2, ev_vA2, ev_st1_2, ev_st2_2, ev_vI3, ev_vJ3, ev_vA3, ev_st1_3, ev_st2_3, ev_vI4, ev_vJ4, ev_vA4, ev_st1_4, ev_st2_4, ev_vI5, ev_vJ5, ev_vA5, ev_st1_5, ev_st2_5, ev_vI6, ev_vJ6, ev_vA6, ev_st1_6, ev_st2_6, ev_vI7, ev_vJ7, ev_vA7, ev_st1_7, ev_st2_7, ev_vI8, ev_vJ8, ev_vA8, ev_st1_8, ev_st2_8, ev_vI9, ev_vJ9, ev_vA9, ev_st1_9, ev_st2_9, ev_vI10, ev_vJ10, ev_vA10, ev_st1_10, ev_st2_10, ev_vI11, ev_vJ11, ev_vA11, ev_st1_11, ev_st2_11, ev_vI12, ev_vJ12, ev_vA12, ev_st1_12, ev_st2_12, ev_kI, ev_kJ, ev_bI, ev_bI1, ev_bI2, ev_bQ, ev_bQ1, ev_bQ2, ev_bJ, ev_bJ1, ev_bJ2, ev_bQJ, ev_bQJ1, ev_bQJ2, ev_uIJ, ev_uIJ1, ev_uJI, ev_uJI1, ev_uJJ, ev_uJJ1, ev_fI, ev_fI1, ev_fI2, ev_fA, ev_fA1, ev_fA2, ev_aI, ev_aI1, ev_aI2, ev_aI3, ev_aN, ev_aN1, ev_aN2, ev_cI, ev_cIt, ev_cIf, ev_qI, ev_qI1, ev_qI2, ev_qJ, ev_qJ1, ev_qJ2, ev_qZ, ev_qZ1, ev_qAnd, ev_qAndt, ev_qAndf, ev_qOr, ev_qOrt, ev_qOrf, ev_qNot, ev_qNot1, ev_qIf, ev_qIft, ev_qIff, ev_aNil, ev_aC, ev_aC1, ev_aC2, ev_unI, ev_unJ, ev_unA, ev_unV, ev_mV, ev_mV1, ev_mV2, ev_mV3, ev_mS, ev_mS1, ev_skip, ev_seq, ev_seq0, ev_seq1, ev_seq2, ev_seqr, ev_sI, ev_sI1, ev_sA, ev_sA1, ev_sJ, ev_sJ1, ev_inc, ev_inc1, ev_kln, ev_kli, ev_klr, ev_klj, ev_G, ev_put, ev_put1, ev_put2, ev_putZ, ev_putZ1, ev_putZ2, ev_ast, ev_ast1, ev_ast2, ev_ast3, ev_astZ, ev_astZ1, ev_astZ2, ev_astZ3, ev_fop, ev_fop1, ev_fop2, ev_fop3, ev_aop, ev_aop1, ev_aop2, ev_aop3, ev_aop4, ev_sV, ev_sV1, ev_pop, ev_pop1, ev_rI, ev_rI1, ev_rJ, ev_rJ1, ev_rA, ev_rA1, ev_rV, ev_brk, ev_cont, ev_sIf, ev_sIft, ev_sIff, ev_sw, ev_sw1, ev_sw0, ev_sw1b, ev_sw2, ev_swr, ev_wh, ev_whf, ev_wht, ev_wh0, ev_wh1, ev_wh2, ev_whr, ev_wh3, ev_mr, ev_mrI, ev_mrJ, ev_mrV, ev_mrA, ev_mrZ1, ev_mrZ0, ev_bs, dT h1, dF (fun q => h ⟨h1, q⟩)]
  · simp only [ev_vI0, ev_vJ0, ev_vA0, ev_st1_0, ev_st2_0, ev_vI1, ev_vJ1, ev_vA1, ev_st1_1, ev_st2_1, ev_vI2, ev_vJ2, ev_vA2, ev_st1_2, ev_st2_2, ev_vI3, ev_vJ3, ev_vA3, ev_st1_3, ev_st2_3, ev_vI4, ev_vJ4, ev_vA4, ev_st1_4, ev_st2_4, ev_vI5, ev_vJ5, ev_vA5, ev_st1_5, ev_st2_5, ev_vI6, ev_vJ6, ev_vA6, ev_st1_6, ev_st2_6, ev_vI7, ev_vJ7, ev_vA7, ev_st1_7, ev_st2_7, ev_vI8, ev_vJ8, ev_vA8, ev_st1_8, ev_st2_8, ev_vI9, ev_vJ9, ev_vA9, ev_st1_9, ev_st2_9, ev_vI10, ev_vJ10, ev_vA10, ev_st1_10, ev_st2_10, ev_vI11, ev_vJ11, ev_vA11, ev_st1_11, ev_st2_11, ev_vI12, ev_vJ12, ev_vA12, ev_st1_12, ev_st2_12, ev_kI, ev_kJ, ev_bI, ev_bI1, ev_bI2, ev_bQ, ev_bQ1, ev_bQ2, ev_bJ, ev_bJ1, ev_bJ2, ev_bQJ, ev_bQJ1, ev_bQJ2, ev_uIJ, ev_uIJ1, ev_uJI, ev_uJI1, ev_uJJ, ev_uJJ1, ev_fI, ev_fI1, ev_fI2, ev_fA, ev_fA1, ev_fA2, ev_aI, ev_aI1, ev_aI2, ev_aI3, ev_aN, ev_aN1, ev_aN2, ev_cI, ev_cIt, ev_cIf, ev_qI, ev_qI1, ev_qI2, ev_qJ, ev_qJ1, ev_qJ2, ev_qZ, ev_qZ1, ev_qAnd, ev_qAndt, ev_qAndf, ev_qOr, ev_qOrt, ev_qOrf, ev_qNot, ev_qNot1, ev_qIf, ev_qIft, ev_qIff, ev_aNil, ev_aC, ev_aC1, ev_aC2, ev_unI, ev_unJ, ev_unA, ev_unV, ev_mV, ev_mV1, ev_mV2, ev_mV3, ev_mS, ev_mS1, ev_skip, ev_seq, ev_seq0, ev_seq1, ev_seq2, ev_seqr, ev_sI, ev_sI1, ev_sA, ev_sA1, ev_sJ, ev_sJ1, ev_inc, ev_inc1, ev_kln, ev_kli, ev_klr, ev_klj, ev_G, ev_put, ev_put1, ev_put2, ev_putZ, ev_putZ1, ev_putZ2, ev_ast, ev_ast1, ev_ast2, ev_ast3, ev_astZ, ev_astZ1, ev_astZ2, ev_astZ3, ev_fop, ev_fop1, ev_fop2, ev_fop3, ev_aop, ev_aop1, ev_aop2, ev_aop3, ev_aop4, ev_sV, ev_sV1, ev_pop, ev_pop1, ev_rI, ev_rI1, ev_rJ, ev_rJ1, ev_rA, ev_rA1, ev_rV, ev_brk, ev_cont, ev_sIf, ev_sIft, ev_sIff, ev_sw, ev_sw1, ev_sw0, ev_sw1b, ev_sw2, ev_swr, ev_wh, ev_whf, ev_wht, ev_wh0, ev_wh1, ev_wh2, ev_whr, ev_wh3, ev_mr, ev_mrI, ev_mrJ, ev_mrV, ev_mrA, ev_mrZ1, ev_mrZ0, ev_bs, dF h1]
theorem in_t {sa : Nat → Nat} {G : Hp} {n lo hi : Int32} (h : lo ≤ n ∧ n ≤ hi) : f_X8_in sa [.int n, .int lo, .int hi] G = some (some (.int 1), G) := by
  rw [e_X8_in]
  unfold b_X8_in
  simp only [ev_vI0, ev_vJ0, ev_vA0, ev_st1_0, ev_st2_0, ev_vI1, ev_vJ1, ev_vA1, ev_st1_1, ev_st2_1, ev_vI2, ev_vJ2, ev_vA2, ev_st1_2, ev_st2_2, ev_vI3, ev_vJ3, ev_vA3, ev_st1_3, ev_st2_3, ev_vI4, ev_vJ4, ev_vA4, ev_st1_4, ev_st2_4, ev_vI5, ev_vJ5, ev_vA5, ev_st1_5, ev_st2_5, ev_vI6, ev_vJ6, ev_vA6, ev_st1_6, ev_st2_6, ev_vI7, ev_vJ7, ev_vA7, ev_st1_7, ev_st2_7, ev_vI8, ev_vJ8, ev_vA8, ev_st1_8, ev_st2_8, ev_vI9, ev_vJ9, ev_vA9, ev_st1_9, ev_st2_9, ev_vI10, ev_vJ10, ev_vA10, ev_st1_10, ev_st2_10, ev_vI11, ev_vJ11, ev_vA11, ev_st1_11, ev_st2_11, ev_vI12, ev_vJ12, ev_vA12, ev_st1_12, ev_st2_12, ev_kI, ev_kJ, ev_bI, ev_bI1, ev_bI2, ev_bQ, ev_bQ1, ev_bQ2, ev_bJ, ev_bJ1, ev_bJ2, ev_bQJ, ev_bQJ1, ev_bQJ2, ev_uIJ, ev_uIJ1, ev_uJI, ev_uJI1, ev_uJJ, ev_uJJ1, ev_fI, ev_fI1, ev_fI2, ev_fA, ev_fA1, ev_fA2, ev_aI, ev_aI1, ev_aI2, ev_aI3, ev_aN, ev_aN1, ev_aN2, ev_cI, ev_cIt, ev_cIf, ev_qI, ev_qI1, ev_qI2, ev_qJ, ev_qJ1, ev_qJ2, ev_qZ, ev_qZ1, ev_qAnd, ev_qAndt, ev_qAndf, ev_qOr, ev_qOrt, ev_qOrf, ev_qNot, ev_qNot1, ev_qIf, ev_qIft, ev_qIff, ev_aNil, ev_aC, ev_aC1, ev_aC2, ev_unI, ev_unJ, ev_unA, ev_unV, ev_mV, ev_mV1, ev_mV2, ev_mV3, ev_mS, ev_mS1, ev_skip, ev_seq, ev_seq0, ev_seq1, ev_seq2, ev_seqr, ev_sI, ev_sI1, ev_sA, ev_sA1, ev_sJ, ev_sJ1, ev_inc, ev_inc1, ev_kln, ev_kli, ev_klr, ev_klj, ev_G, ev_put, ev_put1, ev_put2, ev_putZ, ev_putZ1, ev_putZ2, ev_ast, ev_ast1, ev_ast2, ev_ast3, ev_astZ, ev_astZ1, ev_astZ2, ev_astZ3, ev_fop, ev_fop1, ev_fop2, ev_fop3, ev_aop, ev_aop1, ev_aop2, ev_aop3, ev_aop4, ev_sV, ev_sV1, ev_pop, ev_pop1, ev_rI, ev_rI1, ev_rJ, ev_rJ1, ev_rA, ev_rA1, ev_rV, ev_brk, ev_cont, ev_sIf, ev_sIft, ev_sIff, ev_sw, ev_sw1, ev_sw0, ev_sw1b, ev_sw2, ev_swr, ev_wh, ev_whf, ev_wht, ev_wh0, ev_wh1, ev_wh2, ev_whr, ev_wh3, ev_mr, ev_mrI, ev_mrJ, ev_mrV, ev_mrA, ev_mrZ1, ev_mrZ0, ev_bs, dT h.1, dT h.2]
theorem in_f {sa : Nat → Nat} {G : Hp} {n lo hi : Int32} (h : ¬ (lo ≤ n ∧ n ≤ hi)) : f_X8_in sa [.int n, .int lo, .int hi] G = some (some (.int 0), G) := by
  rw [e_X8_in]
  unfold b_X8_in
  by_cases h1 : lo ≤ n
  · simp only [ev_vI0, ev_vJ0, ev_vA0, ev_st1_0, ev_st2_0, ev_vI1, ev_vJ1, ev_vA1, ev_st1_1, ev_st2_1, ev_vI2, ev_vJ2, ev_vA2, ev_st1_2, ev_st2_2, ev_vI3, ev_vJ3, ev_vA3, ev_st1_3, ev_st2_3, ev_vI4, ev_vJ4, ev_vA4, ev_st1_4, ev_st2_4, ev_vI5, ev_vJ5, ev_vA5, ev_st1_5, ev_st2_5, ev_vI6, ev_vJ6, ev_vA6, ev_st1_6, ev_st2_6, ev_vI7, ev_vJ7, ev_vA7, ev_st1_7, ev_st2_7, ev_vI8, ev_vJ8, ev_vA8, ev_st1_8, ev_st2_8, ev_vI9, ev_vJ9, ev_vA9, ev_st1_9, ev_st2_9, ev_vI10, ev_vJ10, ev_vA10, ev_st1_10, ev_st2_10, ev_vI11, ev_vJ11, ev_vA11, ev_st1_11, ev_st2_11, ev_vI12, ev_vJ12, ev_vA12, ev_st1_12, ev_st2_12, ev_kI, ev_kJ, ev_bI, ev_bI1, ev_bI2, ev_bQ, ev_bQ1, ev_bQ2, ev_bJ, ev_bJ1, ev_bJ2, ev_bQJ, ev_bQJ1, ev_bQJ2, ev_uIJ, ev_uIJ1, ev_uJI, ev_uJI1, ev_uJJ, ev_uJJ1, ev_fI, ev_fI1, ev_fI2, ev_fA, ev_fA1, ev_fA2, ev_aI, ev_aI1, ev_aI2, ev_aI3, ev_aN, ev_aN1, ev_aN2, ev_cI, ev_cIt, ev_cIf, ev_qI, ev_qI1, ev_qI2, ev_qJ, ev_qJ1, ev_qJ2, ev_qZ, ev_qZ1, ev_qAnd, ev_qAndt, ev_qAndf, ev_qOr, ev_qOrt, ev_qOrf, ev_qNot, ev_qNot1, ev_qIf, ev_qIft, ev_qIff, ev_aNil, ev_aC, ev_aC1, ev_aC2, ev_unI, ev_unJ, ev_unA, ev_unV, ev_mV, ev_mV1, ev_mV2, ev_mV3, ev_mS, ev_mS1, ev_skip, ev_seq, ev_seq0, ev_seq1, ev_seq2, ev_seqr, ev_sI, ev_sI1, ev_sA, ev_sA1, ev_sJ, ev_sJ1, ev_inc, ev_inc1, ev_kln, ev_kli, ev_klr, ev_klj, ev_G, ev_put, ev_put1, ev_put2, ev_putZ, ev_putZ1, ev_putZ2, ev_ast, ev_ast1, ev_ast2, ev_ast3, ev_astZ, ev_astZ1, ev_astZ2, ev_astZ3, ev_fop, ev_fop1, ev_fop2, ev_fop3, ev_aop, ev_aop1, ev_aop2, ev_aop3, ev_aop4, ev_sV, ev_sV1, ev_pop, ev_pop1, ev_rI, ev_rI1, ev_rJ, ev_rJ1, ev_rA, ev_rA1, ev_rV, ev_brk, ev_cont, ev_sIf, ev_sIft, ev_sIff, ev_sw, ev_sw1, ev_sw0, ev_sw1b, ev_sw2, ev_swr, ev_wh, ev_whf, ev_wht, ev_wh0, ev_wh1, ev_wh2, ev_whr, ev_wh3, ev_mr, ev_mrI, ev_mrJ, ev_mrV, ev_mrA, ev_mrZ1, ev_mrZ0, ev_bs, dT h1, dF (fun q => h ⟨h1, q⟩)]
  · simp only [ev_vI0, ev_vJ0, ev_vA0, ev_st1_0, ev_st2_0, ev_vI1, ev_vJ1, ev_vA1, ev_st1_1, ev_st2_1, ev_vI2, ev_vJ2, ev_vA2, ev_st1_2, ev_st2_2, ev_vI3, ev_vJ3, ev_vA3, ev_st1_3, ev_st2_3, ev_vI4, ev_vJ4, ev_vA4, ev_st1_4, ev_st2_4, ev_vI5, ev_vJ5, ev_vA5, ev_st1_5, ev_st2_5, ev_vI6, ev_vJ6, ev_vA6, ev_st1_6, ev_st2_6, ev_vI7, ev_vJ7, ev_vA7, ev_st1_7, ev_st2_7, ev_vI8, ev_vJ8, ev_vA8, ev_st1_8, ev_st2_8, ev_vI9, ev_vJ9, ev_vA9, ev_st1_9, ev_st2_9, ev_vI10, ev_vJ10, ev_vA10, ev_st1_10, ev_st2_10, ev_vI11, ev_vJ11, ev_vA11, ev_st1_11, ev_st2_11, ev_vI12, ev_vJ12, ev_vA12, ev_st1_12, ev_st2_12, ev_kI, ev_kJ, ev_bI, ev_bI1, ev_bI2, ev_bQ, ev_bQ1, ev_bQ2, ev_bJ, ev_bJ1, ev_bJ2, ev_bQJ, ev_bQJ1, ev_bQJ2, ev_uIJ, ev_uIJ1, ev_uJI, ev_uJI1, ev_uJJ, ev_uJJ1, ev_fI, ev_fI1, ev_fI2, ev_fA, ev_fA1, ev_fA2, ev_aI, ev_aI1, ev_aI2, ev_aI3, ev_aN, ev_aN1, ev_aN2, ev_cI, ev_cIt, ev_cIf, ev_qI, ev_qI1, ev_qI2, ev_qJ, ev_qJ1, ev_qJ2, ev_qZ, ev_qZ1, ev_qAnd, ev_qAndt, ev_qAndf, ev_qOr, ev_qOrt, ev_qOrf, ev_qNot, ev_qNot1, ev_qIf, ev_qIft, ev_qIff, ev_aNil, ev_aC, ev_aC1, ev_aC2, ev_unI, ev_unJ, ev_unA, ev_unV, ev_mV, ev_mV1, ev_mV2, ev_mV3, ev_mS, ev_mS1, ev_skip, ev_seq, ev_seq0, ev_seq1, ev_seq2, ev_seqr, ev_sI, ev_sI1, ev_sA, ev_sA1, ev_sJ, ev_sJ1, ev_inc, ev_inc1, ev_kln, ev_kli, ev_klr, ev_klj, ev_G, ev_put, ev_put1, ev_put2, ev_putZ, ev_putZ1, ev_putZ2, ev_ast, ev_ast1, ev_ast2, ev_ast3, ev_astZ, ev_astZ1, ev_astZ2, ev_astZ3, ev_fop, ev_fop1, ev_fop2, ev_fop3, ev_aop, ev_aop1, ev_aop2, ev_aop3, ev_aop4, ev_sV, ev_sV1, ev_pop, ev_pop1, ev_rI, ev_rI1, ev_rJ, ev_rJ1, ev_rA, ev_rA1, ev_rV, ev_brk, ev_cont, ev_sIf, ev_sIft, ev_sIff, ev_sw, ev_sw1, ev_sw0, ev_sw1b, ev_sw2, ev_swr, ev_wh, ev_whf, ev_wht, ev_wh0, ev_wh1, ev_wh2, ev_whr, ev_wh3, ev_mr, ev_mrI, ev_mrJ, ev_mrV, ev_mrA, ev_mrZ1, ev_mrZ0, ev_bs, dF h1]
theorem wn_iff (x : Int32) {n : Nat} (hn : n < 2 ^ 31) : ((0 : Int32) ≤ x ∧ x ≤ nI n) ↔ (0 ≤ x.toInt ∧ x.toInt ≤ n) := by
  rw [le0I, Int32.le_iff_toInt_le, nI_toInt hn]
/-- a number from 0 to n -/
theorem wn_of {x : Int32} {n : Nat} (hn : n + 1 < 2 ^ 31) (h : (0 : Int32) ≤ x ∧ x ≤ nI n) : ∃ i : Nat, i ≤ n ∧ x = nI i := by
  rw [wn_iff x (by omega)] at h
  obtain ⟨i, hi, e⟩ := inI (x := x) (n := n + 1) h.1 (by omega) hn
  exact ⟨i, by omega, e⟩
theorem sw_cons_t {x : Int32} {ls : List Int32} {S : Sm} {t : List (List Int32 × Sm)} {d : Sm} (h : x ∈ ls) : swPick ((ls, S) :: t) d x = S := by
  rw [swPick, if_pos h]
theorem sw_cons_f {x : Int32} {ls : List Int32} {S : Sm} {t : List (List Int32 × Sm)} {d : Sm} (h : ¬ x ∈ ls) : swPick ((ls, S) :: t) d x = swPick t d x := by
  rw [swPick, if_neg h]
theorem sw_nil {x : Int32} {d : Sm} : swPick [] d x = d := rfl
theorem upd_s {f : Nat → Int32} {k : Nat} {x : Int32} : upd f k x k = x := pk_us
theorem upd_n {f : Nat → Int32} {k j : Nat} {x : Int32} (h : j ≠ k) : upd f k x j = f j := pk_un h
theorem nI_inj {m n : Nat} (hm : m < 2 ^ 31) (hn : n < 2 ^ 31) (h : nI m = nI n) : m = n := (nI_eq hm hn).mp h
theorem isT_7 {a : Nat} : IsTab a 7 48 17 := ⟨fun _ => rfl, fun _ => rfl, by decide, by decide, by decide, by decide⟩
theorem isT_9 {a : Nat} : IsTab a 9 12 3 := ⟨fun _ => rfl, fun _ => rfl, by decide, by decide, by decide, by decide⟩
theorem isT_13 {a : Nat} : IsTab a 13 3 16 := ⟨fun _ => rfl, fun _ => rfl, by decide, by decide, by decide, by decide⟩
theorem isT_15 {a : Nat} : IsTab a 15 196 3 := ⟨fun _ => rfl, fun _ => rfl, by decide, by decide, by decide, by decide⟩
theorem isT_23 {a : Nat} : IsTab a 23 48 17 := ⟨fun _ => rfl, fun _ => rfl, by decide, by decide, by decide, by decide⟩
theorem isT_25 {a : Nat} : IsTab a 25 12 3 := ⟨fun _ => rfl, fun _ => rfl, by decide, by decide, by decide, by decide⟩
theorem isT_29 {a : Nat} : IsTab a 29 3 16 := ⟨fun _ => rfl, fun _ => rfl, by decide, by decide, by decide, by decide⟩
theorem isT_31 {a : Nat} : IsTab a 31 196 3 := ⟨fun _ => rfl, fun _ => rfl, by decide, by decide, by decide, by decide⟩
theorem isT_39 {a : Nat} : IsTab a 39 48 17 := ⟨fun _ => rfl, fun _ => rfl, by decide, by decide, by decide, by decide⟩
theorem isT_41 {a : Nat} : IsTab a 41 12 3 := ⟨fun _ => rfl, fun _ => rfl, by decide, by decide, by decide, by decide⟩
theorem isT_45 {a : Nat} : IsTab a 45 3 16 := ⟨fun _ => rfl, fun _ => rfl, by decide, by decide, by decide, by decide⟩
theorem isT_47 {a : Nat} : IsTab a 47 196 3 := ⟨fun _ => rfl, fun _ => rfl, by decide, by decide, by decide, by decide⟩
theorem isT_51 {a : Nat} : IsTab a 51 48 17 := ⟨fun _ => rfl, fun _ => rfl, by decide, by decide, by decide, by decide⟩
theorem isT_53 {a : Nat} : IsTab a 53 12 3 := ⟨fun _ => rfl, fun _ => rfl, by decide, by decide, by decide, by decide⟩
theorem isT_57 {a : Nat} : IsTab a 57 3 16 := ⟨fun _ => rfl, fun _ => rfl, by decide, by decide, by decide, by decide⟩
theorem isT_60 {a : Nat} : IsTab a 60 4 6 := ⟨fun _ => rfl, fun _ => rfl, by decide, by decide, by decide, by decide⟩
theorem isR_2 {a : Nat} : IsRow a 2 96 := ⟨fun _ => rfl, fun _ => rfl, by decide, by decide⟩
theorem isR_4 {a : Nat} : IsRow a 4 33 := ⟨fun _ => rfl, fun _ => rfl, by decide, by decide⟩
theorem isR_11 {a : Nat} : IsRow a 11 1024 := ⟨fun _ => rfl, fun _ => rfl, by decide, by decide⟩
theorem isR_18 {a : Nat} : IsRow a 18 96 := ⟨fun _ => rfl, fun _ => rfl, by decide, by decide⟩
theorem isR_20 {a : Nat} : IsRow a 20 33 := ⟨fun _ => rfl, fun _ => rfl, by decide, by decide⟩
theorem isR_27 {a : Nat} : IsRow a 27 1024 := ⟨fun _ => rfl, fun _ => rfl, by decide, by decide⟩
theorem isR_34 {a : Nat} : IsRow a 34 96 := ⟨fun _ => rfl, fun _ => rfl, by decide, by decide⟩
theorem isR_36 {a : Nat} : IsRow a 36 33 := ⟨fun _ => rfl, fun _ => rfl, by decide, by decide⟩
theorem isR_43 {a : Nat} : IsRow a 43 1024 := ⟨fun _ => rfl, fun _ => rfl, by decide, by decide⟩
theorem isR_55 {a : Nat} : IsRow a 55 1024 := ⟨fun _ => rfl, fun _ => rfl, by decide, by decide⟩
theorem isR_62 {a : Nat} : IsRow a 62 32 := ⟨fun _ => rfl, fun _ => rfl, by decide, by decide⟩
