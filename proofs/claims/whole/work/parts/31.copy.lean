/-! PURE 11: copies of a device; image, restore. -/
theorem ShpR.k {D D' : VV} {M : Nat → Int32} {nf ng ns : Nat} (h : ShpR D M nf ng ns) (h6 : D' 6 3 = nI nf) (h8 : D' 8 3 = nI ng) (h10 : D' 10 1 = nI ns) (hF : ∀ i, i < nf * 17 → D' 7 i = D 7 i) (hG : ∀ i, i < ng * 3 → D' 9 i = D 9 i) (hU : ∀ i, i < ns → D' 11 i = D 11 i) : ShpR D' M nf ng ns := by
  obtain ⟨a1, a2, a3, a4, a5, a6, a7, a8, a9, a10, a11, a12, a13, a14⟩ := h
  have hF1 : ∀ f k, f < nf → k < 17 → D' 7 (f * 17 + k) = D 7 (f * 17 + k) := fun f k hf hk => hF _ (by omega)
  have hF0 : ∀ f, f < nf → D' 7 (f * 17) = D 7 (f * 17) := fun f hf => hF _ (by omega)
  refine ⟨a1, a2, a3, h6, a5, h8, a7, h10, ?_, ?_, ?_, ?_, ?_, ?_⟩
  · intro f hf
    obtain ⟨b1, b2, b3, b4, b5, b6, b7, b8, b9, b10⟩ := a9 f hf
    refine ⟨fun k hk => ?_, ?_, ?_, ?_, ?_, ?_, ?_, ?_, ?_, ?_⟩
    · rw [hF1 f k hf (by omega)]; exact b1 k hk
    · rw [hF1 f 11 hf (by omega)]; exact b2
    · rw [hF1 f 14 hf (by omega)]; exact b3
    · rw [hF1 f 15 hf (by omega)]; exact b4
    · rw [hF0 f hf]; exact b5
    · rw [hF1 f 1 hf (by omega)]; exact b6
    · rw [hF1 f 2 hf (by omega), hF1 f 3 hf (by omega)]; exact b7
    · rw [hF1 f 11 hf (by omega)]; exact b8
    · rw [hF1 f 12 hf (by omega)]; exact b9
    · rcases b10 with ⟨c1, c2, c3, c4, c5⟩ | ⟨c1, c2, it, m, u0, d1, d2, d3, d4, d5, d6, d7, d8, d9, d10⟩
      · refine Or.inl ⟨?_, ?_, ?_, ?_, c5⟩
        · rw [hF1 f 6 hf (by omega)]; exact c1
        · rw [hF1 f 9 hf (by omega)]; exact c2
        · rw [hF1 f 10 hf (by omega)]; exact c3
        · rw [hF1 f 7 hf (by omega)]; exact c4
      · refine Or.inr ⟨?_, ?_, it, m, u0, d1, d2, d3, d4, d5, ?_, ?_, fun k hk => ?_, ?_, fun p hp e => ?_⟩
        · rw [hF1 f 6 hf (by omega)]; exact c1
        · rw [hF1 f 7 hf (by omega)]; exact c2
        · rw [hF1 f 9 hf (by omega)]; exact d6
        · rw [hF1 f 13 hf (by omega)]; exact d7
        · rw [hU _ (by omega)]; exact d8 k hk
        · rw [hF1 f 10 hf (by omega), d9]
          by_cases hm : m = 0
          · rw [if_pos hm, if_pos hm]
          · rw [if_neg hm, if_neg hm, hU _ (by omega)]
        · rw [hF1 f 12 hf (by omega)] at e
          rw [hF1 p 16 (by omega) (by omega)]
          exact d10 p hp e
  · intro f hf
    refine ⟨fun h0 => by rw [hF1 f 12 hf (by omega)]; exact (a10 f hf).1 h0, fun g hg => ?_, fun g hg => by rw [hF1 f 12 hf (by omega), hF1 g 12 (by omega) (by omega), hF1 f 6 hf (by omega), hF1 g 6 (by omega) (by omega)]; exact (a10 f hf).2.2 g hg⟩
    rw [hF1 f 12 hf (by omega), hF1 g 12 (by omega) (by omega), hF1 f 6 hf (by omega), hF1 g 6 (by omega) (by omega), hF0 f hf, hF0 g (by omega), hF1 f 1 hf (by omega), hF1 g 1 (by omega) (by omega)]
    exact (a10 f hf).2.1 g hg
  · refine ⟨fun f g hfg hg e1 e2 => ?_, fun f hf w i hw hi e1 e2 => ?_⟩
    · rw [hF0 f (by omega), hF0 g hg] at e1
      rw [hF1 f 1 (by omega) (by omega), hF1 g 1 hg (by omega)] at e2
      rw [hF1 f 2 (by omega) (by omega), hF1 f 3 (by omega) (by omega), hF1 g 2 hg (by omega)]
      exact a11.1 f g hfg hg e1 e2
    · rw [hF0 f hf] at e1
      rw [hF1 f 1 hf (by omega)] at e2
      rw [hF1 f 2 hf (by omega), hF1 f 3 hf (by omega)]
      exact a11.2 f hf w i hw hi e1 e2
  · exact a12.c (fun f k hf hk => hF1 f k hf (by omega))
  · intro g hg
    refine ⟨fun k hk => ?_, ?_⟩
    · rw [hG _ (by omega)]
      exact (a13 g hg).1 k hk
    · rw [hG _ (by omega)]
      exact (a13 g hg).2
  · rcases a14 with ⟨e, f, hf, e2⟩ | ⟨e, e2⟩
    · exact Or.inl ⟨e, f, hf, by rw [hF1 f 1 hf (by omega)]; exact e2⟩
    · exact Or.inr ⟨e, fun f hf => by rw [hF1 f 1 hf (by omega)]; exact e2 f hf⟩
/-- a device whose used parts are another's -/
theorem DevR.k {D D' : VV} {M : Nat → Int32} (h : DevR D M) (h04 : D' 0 4 = D 0 4) (h05 : D' 0 5 = D 0 5) (hr : ∀ t n, t = 1 ∨ t = 3 ∨ t = 10 → D t 1 = nI n → (t = 1 → n ≤ 96) → (t = 3 → n ≤ 33) → n ≤ 1024 → D' t 1 = nI n ∧ ∀ i, i < n → D' (t + 1) i = D (t + 1) i) (ht : ∀ t c n, (t = 6 ∧ c = 17 ∧ n ≤ 48) ∨ (t = 8 ∧ c = 3 ∧ n ≤ 12) ∨ (t = 12 ∧ c = 16 ∧ n ≤ 3) ∨ (t = 14 ∧ c = 3 ∧ n ≤ 196) → D t 3 = nI n → D' t 3 = nI n ∧ ∀ i, i < n * c → D' (t + 1) i = D (t + 1) i) : DevR D' M := by
  obtain ⟨⟨n1, p1, p2, p3, p4⟩, ⟨n2, l1, l2, l3, l4⟩, ⟨n3, v1, v2, v3, v4⟩, ⟨n4, t1, t2, t3⟩, ⟨nf, ng, ns, hS⟩, c1, c2⟩ := h
  have hS0 := hS
  obtain ⟨a1, a2, a3, a4, a5, a6, a7, a8, -⟩ := hS0
  obtain ⟨q1, q2⟩ := hr 1 n1 (by omega) p2 (fun _ => p1) (fun h => by omega) (by omega)
  obtain ⟨q3, q4⟩ := hr 3 n2 (by omega) l2 (fun h => by omega) (fun _ => l1) (by omega)
  obtain ⟨q5, q6⟩ := hr 10 ns (by omega) a8 (fun h => by omega) (fun h => by omega) (by omega)
  obtain ⟨q7, q8⟩ := ht 6 17 nf (by omega) a4
  obtain ⟨q9, q10⟩ := ht 8 3 ng (by omega) a6
  obtain ⟨q11, q12⟩ := ht 12 16 n4 (by omega) t2
  obtain ⟨q13, q14⟩ := ht 14 3 n3 (by omega) v2
  refine ⟨⟨n1, p1, q1, p3, fun i hi => ?_⟩, ⟨n2, l1, q3, l3, fun i hi => ?_⟩, ⟨n3, v1, q13, v3, fun i hi => ?_⟩, ⟨n4, t1, q11, fun w i hw hi => ?_⟩, ⟨nf, ng, ns, hS.k q7 q9 q5 q8 q10 q6⟩, by rw [h04]; exact c1, by rw [h05]; exact c2⟩
  · rw [q2 i hi]; exact p4 i hi
  · rw [q4 i hi]; exact l4 i hi
  · rw [q14 i (by omega)]; exact v4 i hi
  · obtain ⟨b, e1, e2, e3, e4⟩ := t3 w i hw hi
    refine ⟨b, e1, e2, fun h => ?_, e4⟩
    rw [q12 _ (by omega)]
    exact e3 h
/-- what a device holds, in numbers -/
def Nums (D : VV) (np nl nf ng ns nb ne : Nat) : Prop := (D 1 1 = nI np ∧ np ≤ 96) ∧ (D 3 1 = nI nl ∧ nl ≤ 33) ∧ (D 6 3 = nI nf ∧ nf ≤ 48) ∧ (D 8 3 = nI ng ∧ ng ≤ 12) ∧ (D 10 1 = nI ns ∧ ns ≤ 1024) ∧ (D 12 3 = nI nb ∧ nb ≤ 3) ∧ (D 14 3 = nI ne ∧ ne ≤ 196)
theorem DevR.nums {D : VV} {M : Nat → Int32} (h : DevR D M) : ∃ np nl nf ng ns nb ne, Nums D np nl nf ng ns nb ne := by
  obtain ⟨⟨n1, p1, p2, p3, p4⟩, ⟨n2, l1, l2, l3, l4⟩, ⟨n3, v1, v2, v3, v4⟩, ⟨n4, t1, t2, t3⟩, ⟨nf, ng, ns, hS⟩, c1, c2⟩ := h
  obtain ⟨a1, a2, a3, a4, a5, a6, a7, a8, -⟩ := hS
  exact ⟨n1, n2, nf, ng, ns, n4, n3, ⟨p2, p1⟩, ⟨l2, l1⟩, ⟨a4, a1⟩, ⟨a6, a2⟩, ⟨a8, a3⟩, ⟨t2, by omega⟩, ⟨v2, by omega⟩⟩
section Copies
variable {sa : Nat → Nat} {a : Nat} {V : VV} {np nl nf ng ns nb ne : Nat}
def cS22_6 (V : VV) (nf ng ns nb : Nat) : VV := cpT (cpX (cpT (cpT V 23 7 17 nf) 25 9 3 ng) 27 11 ns) 29 13 16 nb
theorem S_copy22_6 (h1 : V 7 3 = nI nf) (k1 : nf ≤ 48) (h2 : V 9 3 = nI ng) (k2 : ng ≤ 12) (h3 : V 11 1 = nI ns) (k3 : ns ≤ 1024) (h4 : V 13 3 = nI nb) (k4 : nb ≤ 3) : f_X4_copyFrom sa [.ref (a + 22), .ref (a + 6)] (hp a V) = some (none, hp a (cS22_6 V nf ng ns nb)) := by
  have q1 := T_copy (sa := sa) (a := a) (t := 23) (t2 := 7) (V := V) isT_23 isT_7 (by decide) h1 k1
  have q2 := T_copy (sa := sa) (a := a) (t := 25) (t2 := 9) (V := (cpT V 23 7 17 nf)) isT_25 isT_9 (by decide) (show V 9 3 = nI ng from h2) k2
  have q3 := R_copy (sa := sa) (a := a) (t := 27) (t2 := 11) (V := (cpT (cpT V 23 7 17 nf) 25 9 3 ng)) isR_27 isR_11 (by decide) (show V 11 1 = nI ns from h3) k3
  have q4 := T_copy (sa := sa) (a := a) (t := 29) (t2 := 13) (V := (cpX (cpT (cpT V 23 7 17 nf) 25 9 3 ng) 27 11 ns)) isT_29 isT_13 (by decide) (show V 13 3 = nI nb from h4) k4
  rw [e_X4_copyFrom]
  unfold b_X4_copyFrom
  simp only [ev_vI0, ev_vJ0, ev_vA0, ev_st1_0, ev_st2_0, ev_vI1, ev_vJ1, ev_vA1, ev_st1_1, ev_st2_1, ev_vI2, ev_vJ2, ev_vA2, ev_st1_2, ev_st2_2, ev_vI3, ev_vJ3, ev_vA3, ev_st1_3, ev_st2_3, ev_vI4, ev_vJ4, ev_vA4, ev_st1_4, ev_st2_4, ev_vI5, ev_vJ5, ev_vA5, ev_st1_5, ev_st2_5, ev_vI6, ev_vJ6, ev_vA6, ev_st1_6, ev_st2_6, ev_vI7, ev_vJ7, ev_vA7, ev_st1_7, ev_st2_7, ev_vI8, ev_vJ8, ev_vA8, ev_st1_8, ev_st2_8, ev_vI9, ev_vJ9, ev_vA9, ev_st1_9, ev_st2_9, ev_vI10, ev_vJ10, ev_vA10, ev_st1_10, ev_st2_10, ev_vI11, ev_vJ11, ev_vA11, ev_st1_11, ev_st2_11, ev_vI12, ev_vJ12, ev_vA12, ev_st1_12, ev_st2_12, ev_kI, ev_kJ, ev_bI, ev_bI1, ev_bI2, ev_bQ, ev_bQ1, ev_bQ2, ev_bJ, ev_bJ1, ev_bJ2, ev_bQJ, ev_bQJ1, ev_bQJ2, ev_uIJ, ev_uIJ1, ev_uJI, ev_uJI1, ev_uJJ, ev_uJJ1, ev_fI, ev_fI1, ev_fI2, ev_fA, ev_fA1, ev_fA2, ev_aI, ev_aI1, ev_aI2, ev_aI3, ev_aN, ev_aN1, ev_aN2, ev_cI, ev_cIt, ev_cIf, ev_qI, ev_qI1, ev_qI2, ev_qJ, ev_qJ1, ev_qJ2, ev_qZ, ev_qZ1, ev_qAnd, ev_qAndt, ev_qAndf, ev_qOr, ev_qOrt, ev_qOrf, ev_qNot, ev_qNot1, ev_qIf, ev_qIft, ev_qIff, ev_aNil, ev_aC, ev_aC1, ev_aC2, ev_unI, ev_unJ, ev_unA, ev_unV, ev_mV, ev_mV1, ev_mV2, ev_mV3, ev_mS, ev_mS1, ev_skip, ev_seq, ev_seq0, ev_seq1, ev_seq2, ev_seqr, ev_sI, ev_sI1, ev_sA, ev_sA1, ev_sJ, ev_sJ1, ev_inc, ev_inc1, ev_kln, ev_kli, ev_klr, ev_klj, ev_G, ev_put, ev_put1, ev_put2, ev_putZ, ev_putZ1, ev_putZ2, ev_ast, ev_ast1, ev_ast2, ev_ast3, ev_astZ, ev_astZ1, ev_astZ2, ev_astZ3, ev_fop, ev_fop1, ev_fop2, ev_fop3, ev_aop, ev_aop1, ev_aop2, ev_aop3, ev_aop4, ev_sV, ev_sV1, ev_pop, ev_pop1, ev_rI, ev_rI1, ev_rJ, ev_rJ1, ev_rA, ev_rA1, ev_rV, ev_brk, ev_cont, ev_sIf, ev_sIft, ev_sIff, ev_sw, ev_sw1, ev_sw0, ev_sw1b, ev_sw2, ev_swr, ev_wh, ev_whf, ev_wht, ev_wh0, ev_wh1, ev_wh2, ev_whr, ev_wh3, ev_mr, ev_mrI, ev_mrJ, ev_mrV, ev_mrA, ev_mrZ1, ev_mrZ0, ev_bs, g0_0, g0_1, g0_2, g0_3, g0_4, g0_5, p0_5, o0, g1_0, g1_1, g1_2, g1_3, g1_4, p1_4, g1_5, p1_5, o1, g2_0, g2_1, p2_1, o2, hl3, g4_0, g4_1, p4_1, o4, hl5, g6_0, g6_1, g6_2, g6_3, o6, g7_0, g7_1, g7_2, g7_3, p7_3, o7, hl8, g9_0, g9_1, g9_2, g9_3, p9_3, o9, hl10, g11_0, g11_1, p11_1, o11, hl12, g13_0, g13_1, g13_2, g13_3, p13_3, o13, hl14, g15_0, g15_1, g15_2, g15_3, p15_3, o15, hl16, g17_0, g17_1, g17_2, g17_3, g17_4, p17_4, g17_5, p17_5, o17, g18_0, g18_1, p18_1, o18, hl19, g20_0, g20_1, p20_1, o20, hl21, g22_0, g22_1, g22_2, g22_3, o22, g23_0, g23_1, g23_2, g23_3, p23_3, o23, hl24, g25_0, g25_1, g25_2, g25_3, p25_3, o25, hl26, g27_0, g27_1, p27_1, o27, hl28, g29_0, g29_1, g29_2, g29_3, p29_3, o29, hl30, g31_0, g31_1, g31_2, g31_3, p31_3, o31, hl32, g33_0, g33_1, g33_2, g33_3, g33_4, p33_4, g33_5, p33_5, o33, g34_0, g34_1, p34_1, o34, hl35, g36_0, g36_1, p36_1, o36, hl37, g38_0, g38_1, g38_2, g38_3, o38, g39_0, g39_1, g39_2, g39_3, p39_3, o39, hl40, g41_0, g41_1, g41_2, g41_3, p41_3, o41, hl42, g43_0, g43_1, p43_1, o43, hl44, g45_0, g45_1, g45_2, g45_3, p45_3, o45, hl46, g47_0, g47_1, g47_2, g47_3, p47_3, o47, hl48, g49_0, g49_1, p49_1, g49_2, p49_2, g49_3, g49_4, g49_5, p49_5, g49_6, p49_6, g49_7, p49_7, g49_8, p49_8, g49_9, p49_9, g49_10, p49_10, g49_11, g49_12, p49_12, g49_13, p49_13, o49, g50_0, g50_1, g50_2, g50_3, o50, g51_0, g51_1, g51_2, g51_3, p51_3, o51, hl52, g53_0, g53_1, g53_2, g53_3, p53_3, o53, hl54, g55_0, g55_1, p55_1, o55, hl56, g57_0, g57_1, g57_2, g57_3, p57_3, o57, hl58, g59_0, p59_0, g59_1, p59_1, g59_2, p59_2, g59_3, p59_3, g59_4, p59_4, g59_5, p59_5, o59, g60_0, g60_1, g60_2, g60_3, p60_3, o60, hl61, g62_0, g62_1, p62_1, o62, hl63, g64_0, p64_0, g64_1, p64_1, g64_2, p64_2, g64_3, p64_3, g64_4, p64_4, g64_5, p64_5, o64, g65_0, g65_1, g65_2, g65_3, p65_3, g65_4, p65_4, g65_5, p65_5, g65_6, p65_6, g65_7, p65_7, g65_8, g65_9, g65_10, p65_10, g65_11, g65_12, p65_12, g65_13, p65_13, g65_14, g65_15, p65_15, g65_16, p65_16, g65_17, p65_17, g65_18, p65_18, g65_19, g65_20, p65_20, g65_21, p65_21, g65_22, p65_22, g65_23, p65_23, g65_24, g65_25, p65_25, o65, hl66, hl67, hl68, hl69, hl70, hl71, hl72, hl73, hl74, k66_3285, s66_3285, k66_3286, s66_3286, k66_3287, s66_3287, k66_3288, s66_3288, k66_3289, s66_3289, k66_3290, s66_3290, k66_3291, s66_3291, k66_3292, s66_3292, k66_2484, k69_0, s69_0, k69_1, s69_1, k69_2, s69_2, k69_3, s69_3, k69_4, s69_4, k69_5, s69_5, k68_0, k68_1, k71_0, oa_1, oa_2, oa_3, oa_4, oa_96, oa_768, oa_804, oa_852, oa_2388, oa_2436, oa_2484, oa_2517, ob_1, ob_2, ob_3, ob_4, ob_7, ob_11, ob_12, ob_13, ob_14, oa_0, ob_0, om_3, om_6, om_8, om_14, om_16, om_32, om_3293, oan, omn, inc_n, zne1, zne0, zeq0, zeq1, Bool.not_true, Bool.not_false, q1, q2, q3, q4]
  rfl
def cS38_6 (V : VV) (nf ng ns nb : Nat) : VV := cpT (cpX (cpT (cpT V 39 7 17 nf) 41 9 3 ng) 43 11 ns) 45 13 16 nb
theorem S_copy38_6 (h1 : V 7 3 = nI nf) (k1 : nf ≤ 48) (h2 : V 9 3 = nI ng) (k2 : ng ≤ 12) (h3 : V 11 1 = nI ns) (k3 : ns ≤ 1024) (h4 : V 13 3 = nI nb) (k4 : nb ≤ 3) : f_X4_copyFrom sa [.ref (a + 38), .ref (a + 6)] (hp a V) = some (none, hp a (cS38_6 V nf ng ns nb)) := by
  have q1 := T_copy (sa := sa) (a := a) (t := 39) (t2 := 7) (V := V) isT_39 isT_7 (by decide) h1 k1
  have q2 := T_copy (sa := sa) (a := a) (t := 41) (t2 := 9) (V := (cpT V 39 7 17 nf)) isT_41 isT_9 (by decide) (show V 9 3 = nI ng from h2) k2
  have q3 := R_copy (sa := sa) (a := a) (t := 43) (t2 := 11) (V := (cpT (cpT V 39 7 17 nf) 41 9 3 ng)) isR_43 isR_11 (by decide) (show V 11 1 = nI ns from h3) k3
  have q4 := T_copy (sa := sa) (a := a) (t := 45) (t2 := 13) (V := (cpX (cpT (cpT V 39 7 17 nf) 41 9 3 ng) 43 11 ns)) isT_45 isT_13 (by decide) (show V 13 3 = nI nb from h4) k4
  rw [e_X4_copyFrom]
  unfold b_X4_copyFrom
  simp only [ev_vI0, ev_vJ0, ev_vA0, ev_st1_0, ev_st2_0, ev_vI1, ev_vJ1, ev_vA1, ev_st1_1, ev_st2_1, ev_vI2, ev_vJ2, ev_vA2, ev_st1_2, ev_st2_2, ev_vI3, ev_vJ3, ev_vA3, ev_st1_3, ev_st2_3, ev_vI4, ev_vJ4, ev_vA4, ev_st1_4, ev_st2_4, ev_vI5, ev_vJ5, ev_vA5, ev_st1_5, ev_st2_5, ev_vI6, ev_vJ6, ev_vA6, ev_st1_6, ev_st2_6, ev_vI7, ev_vJ7, ev_vA7, ev_st1_7, ev_st2_7, ev_vI8, ev_vJ8, ev_vA8, ev_st1_8, ev_st2_8, ev_vI9, ev_vJ9, ev_vA9, ev_st1_9, ev_st2_9, ev_vI10, ev_vJ10, ev_vA10, ev_st1_10, ev_st2_10, ev_vI11, ev_vJ11, ev_vA11, ev_st1_11, ev_st2_11, ev_vI12, ev_vJ12, ev_vA12, ev_st1_12, ev_st2_12, ev_kI, ev_kJ, ev_bI, ev_bI1, ev_bI2, ev_bQ, ev_bQ1, ev_bQ2, ev_bJ, ev_bJ1, ev_bJ2, ev_bQJ, ev_bQJ1, ev_bQJ2, ev_uIJ, ev_uIJ1, ev_uJI, ev_uJI1, ev_uJJ, ev_uJJ1, ev_fI, ev_fI1, ev_fI2, ev_fA, ev_fA1, ev_fA2, ev_aI, ev_aI1, ev_aI2, ev_aI3, ev_aN, ev_aN1, ev_aN2, ev_cI, ev_cIt, ev_cIf, ev_qI, ev_qI1, ev_qI2, ev_qJ, ev_qJ1, ev_qJ2, ev_qZ, ev_qZ1, ev_qAnd, ev_qAndt, ev_qAndf, ev_qOr, ev_qOrt, ev_qOrf, ev_qNot, ev_qNot1, ev_qIf, ev_qIft, ev_qIff, ev_aNil, ev_aC, ev_aC1, ev_aC2, ev_unI, ev_unJ, ev_unA, ev_unV, ev_mV, ev_mV1, ev_mV2, ev_mV3, ev_mS, ev_mS1, ev_skip, ev_seq, ev_seq0, ev_seq1, ev_seq2, ev_seqr, ev_sI, ev_sI1, ev_sA, ev_sA1, ev_sJ, ev_sJ1, ev_inc, ev_inc1, ev_kln, ev_kli, ev_klr, ev_klj, ev_G, ev_put, ev_put1, ev_put2, ev_putZ, ev_putZ1, ev_putZ2, ev_ast, ev_ast1, ev_ast2, ev_ast3, ev_astZ, ev_astZ1, ev_astZ2, ev_astZ3, ev_fop, ev_fop1, ev_fop2, ev_fop3, ev_aop, ev_aop1, ev_aop2, ev_aop3, ev_aop4, ev_sV, ev_sV1, ev_pop, ev_pop1, ev_rI, ev_rI1, ev_rJ, ev_rJ1, ev_rA, ev_rA1, ev_rV, ev_brk, ev_cont, ev_sIf, ev_sIft, ev_sIff, ev_sw, ev_sw1, ev_sw0, ev_sw1b, ev_sw2, ev_swr, ev_wh, ev_whf, ev_wht, ev_wh0, ev_wh1, ev_wh2, ev_whr, ev_wh3, ev_mr, ev_mrI, ev_mrJ, ev_mrV, ev_mrA, ev_mrZ1, ev_mrZ0, ev_bs, g0_0, g0_1, g0_2, g0_3, g0_4, g0_5, p0_5, o0, g1_0, g1_1, g1_2, g1_3, g1_4, p1_4, g1_5, p1_5, o1, g2_0, g2_1, p2_1, o2, hl3, g4_0, g4_1, p4_1, o4, hl5, g6_0, g6_1, g6_2, g6_3, o6, g7_0, g7_1, g7_2, g7_3, p7_3, o7, hl8, g9_0, g9_1, g9_2, g9_3, p9_3, o9, hl10, g11_0, g11_1, p11_1, o11, hl12, g13_0, g13_1, g13_2, g13_3, p13_3, o13, hl14, g15_0, g15_1, g15_2, g15_3, p15_3, o15, hl16, g17_0, g17_1, g17_2, g17_3, g17_4, p17_4, g17_5, p17_5, o17, g18_0, g18_1, p18_1, o18, hl19, g20_0, g20_1, p20_1, o20, hl21, g22_0, g22_1, g22_2, g22_3, o22, g23_0, g23_1, g23_2, g23_3, p23_3, o23, hl24, g25_0, g25_1, g25_2, g25_3, p25_3, o25, hl26, g27_0, g27_1, p27_1, o27, hl28, g29_0, g29_1, g29_2, g29_3, p29_3, o29, hl30, g31_0, g31_1, g31_2, g31_3, p31_3, o31, hl32, g33_0, g33_1, g33_2, g33_3, g33_4, p33_4, g33_5, p33_5, o33, g34_0, g34_1, p34_1, o34, hl35, g36_0, g36_1, p36_1, o36, hl37, g38_0, g38_1, g38_2, g38_3, o38, g39_0, g39_1, g39_2, g39_3, p39_3, o39, hl40, g41_0, g41_1, g41_2, g41_3, p41_3, o41, hl42, g43_0, g43_1, p43_1, o43, hl44, g45_0, g45_1, g45_2, g45_3, p45_3, o45, hl46, g47_0, g47_1, g47_2, g47_3, p47_3, o47, hl48, g49_0, g49_1, p49_1, g49_2, p49_2, g49_3, g49_4, g49_5, p49_5, g49_6, p49_6, g49_7, p49_7, g49_8, p49_8, g49_9, p49_9, g49_10, p49_10, g49_11, g49_12, p49_12, g49_13, p49_13, o49, g50_0, g50_1, g50_2, g50_3, o50, g51_0, g51_1, g51_2, g51_3, p51_3, o51, hl52, g53_0, g53_1, g53_2, g53_3, p53_3, o53, hl54, g55_0, g55_1, p55_1, o55, hl56, g57_0, g57_1, g57_2, g57_3, p57_3, o57, hl58, g59_0, p59_0, g59_1, p59_1, g59_2, p59_2, g59_3, p59_3, g59_4, p59_4, g59_5, p59_5, o59, g60_0, g60_1, g60_2, g60_3, p60_3, o60, hl61, g62_0, g62_1, p62_1, o62, hl63, g64_0, p64_0, g64_1, p64_1, g64_2, p64_2, g64_3, p64_3, g64_4, p64_4, g64_5, p64_5, o64, g65_0, g65_1, g65_2, g65_3, p65_3, g65_4, p65_4, g65_5, p65_5, g65_6, p65_6, g65_7, p65_7, g65_8, g65_9, g65_10, p65_10, g65_11, g65_12, p65_12, g65_13, p65_13, g65_14, g65_15, p65_15, g65_16, p65_16, g65_17, p65_17, g65_18, p65_18, g65_19, g65_20, p65_20, g65_21, p65_21, g65_22, p65_22, g65_23, p65_23, g65_24, g65_25, p65_25, o65, hl66, hl67, hl68, hl69, hl70, hl71, hl72, hl73, hl74, k66_3285, s66_3285, k66_3286, s66_3286, k66_3287, s66_3287, k66_3288, s66_3288, k66_3289, s66_3289, k66_3290, s66_3290, k66_3291, s66_3291, k66_3292, s66_3292, k66_2484, k69_0, s69_0, k69_1, s69_1, k69_2, s69_2, k69_3, s69_3, k69_4, s69_4, k69_5, s69_5, k68_0, k68_1, k71_0, oa_1, oa_2, oa_3, oa_4, oa_96, oa_768, oa_804, oa_852, oa_2388, oa_2436, oa_2484, oa_2517, ob_1, ob_2, ob_3, ob_4, ob_7, ob_11, ob_12, ob_13, ob_14, oa_0, ob_0, om_3, om_6, om_8, om_14, om_16, om_32, om_3293, oan, omn, inc_n, zne1, zne0, zeq0, zeq1, Bool.not_true, Bool.not_false, q1, q2, q3, q4]
  rfl
def cS6_22 (V : VV) (nf ng ns nb : Nat) : VV := cpT (cpX (cpT (cpT V 7 23 17 nf) 9 25 3 ng) 11 27 ns) 13 29 16 nb
theorem S_copy6_22 (h1 : V 23 3 = nI nf) (k1 : nf ≤ 48) (h2 : V 25 3 = nI ng) (k2 : ng ≤ 12) (h3 : V 27 1 = nI ns) (k3 : ns ≤ 1024) (h4 : V 29 3 = nI nb) (k4 : nb ≤ 3) : f_X4_copyFrom sa [.ref (a + 6), .ref (a + 22)] (hp a V) = some (none, hp a (cS6_22 V nf ng ns nb)) := by
  have q1 := T_copy (sa := sa) (a := a) (t := 7) (t2 := 23) (V := V) isT_7 isT_23 (by decide) h1 k1
  have q2 := T_copy (sa := sa) (a := a) (t := 9) (t2 := 25) (V := (cpT V 7 23 17 nf)) isT_9 isT_25 (by decide) (show V 25 3 = nI ng from h2) k2
  have q3 := R_copy (sa := sa) (a := a) (t := 11) (t2 := 27) (V := (cpT (cpT V 7 23 17 nf) 9 25 3 ng)) isR_11 isR_27 (by decide) (show V 27 1 = nI ns from h3) k3
  have q4 := T_copy (sa := sa) (a := a) (t := 13) (t2 := 29) (V := (cpX (cpT (cpT V 7 23 17 nf) 9 25 3 ng) 11 27 ns)) isT_13 isT_29 (by decide) (show V 29 3 = nI nb from h4) k4
  rw [e_X4_copyFrom]
  unfold b_X4_copyFrom
  simp only [ev_vI0, ev_vJ0, ev_vA0, ev_st1_0, ev_st2_0, ev_vI1, ev_vJ1, ev_vA1, ev_st1_1, ev_st2_1, ev_vI2, ev_vJ2, ev_vA2, ev_st1_2, ev_st2_2, ev_vI3, ev_vJ3, ev_vA3, ev_st1_3, ev_st2_3, ev_vI4, ev_vJ4, ev_vA4, ev_st1_4, ev_st2_4, ev_vI5, ev_vJ5, ev_vA5, ev_st1_5, ev_st2_5, ev_vI6, ev_vJ6, ev_vA6, ev_st1_6, ev_st2_6, ev_vI7, ev_vJ7, ev_vA7, ev_st1_7, ev_st2_7, ev_vI8, ev_vJ8, ev_vA8, ev_st1_8, ev_st2_8, ev_vI9, ev_vJ9, ev_vA9, ev_st1_9, ev_st2_9, ev_vI10, ev_vJ10, ev_vA10, ev_st1_10, ev_st2_10, ev_vI11, ev_vJ11, ev_vA11, ev_st1_11, ev_st2_11, ev_vI12, ev_vJ12, ev_vA12, ev_st1_12, ev_st2_12, ev_kI, ev_kJ, ev_bI, ev_bI1, ev_bI2, ev_bQ, ev_bQ1, ev_bQ2, ev_bJ, ev_bJ1, ev_bJ2, ev_bQJ, ev_bQJ1, ev_bQJ2, ev_uIJ, ev_uIJ1, ev_uJI, ev_uJI1, ev_uJJ, ev_uJJ1, ev_fI, ev_fI1, ev_fI2, ev_fA, ev_fA1, ev_fA2, ev_aI, ev_aI1, ev_aI2, ev_aI3, ev_aN, ev_aN1, ev_aN2, ev_cI, ev_cIt, ev_cIf, ev_qI, ev_qI1, ev_qI2, ev_qJ, ev_qJ1, ev_qJ2, ev_qZ, ev_qZ1, ev_qAnd, ev_qAndt, ev_qAndf, ev_qOr, ev_qOrt, ev_qOrf, ev_qNot, ev_qNot1, ev_qIf, ev_qIft, ev_qIff, ev_aNil, ev_aC, ev_aC1, ev_aC2, ev_unI, ev_unJ, ev_unA, ev_unV, ev_mV, ev_mV1, ev_mV2, ev_mV3, ev_mS, ev_mS1, ev_skip, ev_seq, ev_seq0, ev_seq1, ev_seq2, ev_seqr, ev_sI, ev_sI1, ev_sA, ev_sA1, ev_sJ, ev_sJ1, ev_inc, ev_inc1, ev_kln, ev_kli, ev_klr, ev_klj, ev_G, ev_put, ev_put1, ev_put2, ev_putZ, ev_putZ1, ev_putZ2, ev_ast, ev_ast1, ev_ast2, ev_ast3, ev_astZ, ev_astZ1, ev_astZ2, ev_astZ3, ev_fop, ev_fop1, ev_fop2, ev_fop3, ev_aop, ev_aop1, ev_aop2, ev_aop3, ev_aop4, ev_sV, ev_sV1, ev_pop, ev_pop1, ev_rI, ev_rI1, ev_rJ, ev_rJ1, ev_rA, ev_rA1, ev_rV, ev_brk, ev_cont, ev_sIf, ev_sIft, ev_sIff, ev_sw, ev_sw1, ev_sw0, ev_sw1b, ev_sw2, ev_swr, ev_wh, ev_whf, ev_wht, ev_wh0, ev_wh1, ev_wh2, ev_whr, ev_wh3, ev_mr, ev_mrI, ev_mrJ, ev_mrV, ev_mrA, ev_mrZ1, ev_mrZ0, ev_bs, g0_0, g0_1, g0_2, g0_3, g0_4, g0_5, p0_5, o0, g1_0, g1_1, g1_2, g1_3, g1_4, p1_4, g1_5, p1_5, o1, g2_0, g2_1, p2_1, o2, hl3, g4_0, g4_1, p4_1, o4, hl5, g6_0, g6_1, g6_2, g6_3, o6, g7_0, g7_1, g7_2, g7_3, p7_3, o7, hl8, g9_0, g9_1, g9_2, g9_3, p9_3, o9, hl10, g11_0, g11_1, p11_1, o11, hl12, g13_0, g13_1, g13_2, g13_3, p13_3, o13, hl14, g15_0, g15_1, g15_2, g15_3, p15_3, o15, hl16, g17_0, g17_1, g17_2, g17_3, g17_4, p17_4, g17_5, p17_5, o17, g18_0, g18_1, p18_1, o18, hl19, g20_0, g20_1, p20_1, o20, hl21, g22_0, g22_1, g22_2, g22_3, o22, g23_0, g23_1, g23_2, g23_3, p23_3, o23, hl24, g25_0, g25_1, g25_2, g25_3, p25_3, o25, hl26, g27_0, g27_1, p27_1, o27, hl28, g29_0, g29_1, g29_2, g29_3, p29_3, o29, hl30, g31_0, g31_1, g31_2, g31_3, p31_3, o31, hl32, g33_0, g33_1, g33_2, g33_3, g33_4, p33_4, g33_5, p33_5, o33, g34_0, g34_1, p34_1, o34, hl35, g36_0, g36_1, p36_1, o36, hl37, g38_0, g38_1, g38_2, g38_3, o38, g39_0, g39_1, g39_2, g39_3, p39_3, o39, hl40, g41_0, g41_1, g41_2, g41_3, p41_3, o41, hl42, g43_0, g43_1, p43_1, o43, hl44, g45_0, g45_1, g45_2, g45_3, p45_3, o45, hl46, g47_0, g47_1, g47_2, g47_3, p47_3, o47, hl48, g49_0, g49_1, p49_1, g49_2, p49_2, g49_3, g49_4, g49_5, p49_5, g49_6, p49_6, g49_7, p49_7, g49_8, p49_8, g49_9, p49_9, g49_10, p49_10, g49_11, g49_12, p49_12, g49_13, p49_13, o49, g50_0, g50_1, g50_2, g50_3, o50, g51_0, g51_1, g51_2, g51_3, p51_3, o51, hl52, g53_0, g53_1, g53_2, g53_3, p53_3, o53, hl54, g55_0, g55_1, p55_1, o55, hl56, g57_0, g57_1, g57_2, g57_3, p57_3, o57, hl58, g59_0, p59_0, g59_1, p59_1, g59_2, p59_2, g59_3, p59_3, g59_4, p59_4, g59_5, p59_5, o59, g60_0, g60_1, g60_2, g60_3, p60_3, o60, hl61, g62_0, g62_1, p62_1, o62, hl63, g64_0, p64_0, g64_1, p64_1, g64_2, p64_2, g64_3, p64_3, g64_4, p64_4, g64_5, p64_5, o64, g65_0, g65_1, g65_2, g65_3, p65_3, g65_4, p65_4, g65_5, p65_5, g65_6, p65_6, g65_7, p65_7, g65_8, g65_9, g65_10, p65_10, g65_11, g65_12, p65_12, g65_13, p65_13, g65_14, g65_15, p65_15, g65_16, p65_16, g65_17, p65_17, g65_18, p65_18, g65_19, g65_20, p65_20, g65_21, p65_21, g65_22, p65_22, g65_23, p65_23, g65_24, g65_25, p65_25, o65, hl66, hl67, hl68, hl69, hl70, hl71, hl72, hl73, hl74, k66_3285, s66_3285, k66_3286, s66_3286, k66_3287, s66_3287, k66_3288, s66_3288, k66_3289, s66_3289, k66_3290, s66_3290, k66_3291, s66_3291, k66_3292, s66_3292, k66_2484, k69_0, s69_0, k69_1, s69_1, k69_2, s69_2, k69_3, s69_3, k69_4, s69_4, k69_5, s69_5, k68_0, k68_1, k71_0, oa_1, oa_2, oa_3, oa_4, oa_96, oa_768, oa_804, oa_852, oa_2388, oa_2436, oa_2484, oa_2517, ob_1, ob_2, ob_3, ob_4, ob_7, ob_11, ob_12, ob_13, ob_14, oa_0, ob_0, om_3, om_6, om_8, om_14, om_16, om_32, om_3293, oan, omn, inc_n, zne1, zne0, zeq0, zeq1, Bool.not_true, Bool.not_false, q1, q2, q3, q4]
  rfl
def cS6_38 (V : VV) (nf ng ns nb : Nat) : VV := cpT (cpX (cpT (cpT V 7 39 17 nf) 9 41 3 ng) 11 43 ns) 13 45 16 nb
theorem S_copy6_38 (h1 : V 39 3 = nI nf) (k1 : nf ≤ 48) (h2 : V 41 3 = nI ng) (k2 : ng ≤ 12) (h3 : V 43 1 = nI ns) (k3 : ns ≤ 1024) (h4 : V 45 3 = nI nb) (k4 : nb ≤ 3) : f_X4_copyFrom sa [.ref (a + 6), .ref (a + 38)] (hp a V) = some (none, hp a (cS6_38 V nf ng ns nb)) := by
  have q1 := T_copy (sa := sa) (a := a) (t := 7) (t2 := 39) (V := V) isT_7 isT_39 (by decide) h1 k1
  have q2 := T_copy (sa := sa) (a := a) (t := 9) (t2 := 41) (V := (cpT V 7 39 17 nf)) isT_9 isT_41 (by decide) (show V 41 3 = nI ng from h2) k2
  have q3 := R_copy (sa := sa) (a := a) (t := 11) (t2 := 43) (V := (cpT (cpT V 7 39 17 nf) 9 41 3 ng)) isR_11 isR_43 (by decide) (show V 43 1 = nI ns from h3) k3
  have q4 := T_copy (sa := sa) (a := a) (t := 13) (t2 := 45) (V := (cpX (cpT (cpT V 7 39 17 nf) 9 41 3 ng) 11 43 ns)) isT_13 isT_45 (by decide) (show V 45 3 = nI nb from h4) k4
  rw [e_X4_copyFrom]
  unfold b_X4_copyFrom
  simp only [ev_vI0, ev_vJ0, ev_vA0, ev_st1_0, ev_st2_0, ev_vI1, ev_vJ1, ev_vA1, ev_st1_1, ev_st2_1, ev_vI2, ev_vJ2, ev_vA2, ev_st1_2, ev_st2_2, ev_vI3, ev_vJ3, ev_vA3, ev_st1_3, ev_st2_3, ev_vI4, ev_vJ4, ev_vA4, ev_st1_4, ev_st2_4, ev_vI5, ev_vJ5, ev_vA5, ev_st1_5, ev_st2_5, ev_vI6, ev_vJ6, ev_vA6, ev_st1_6, ev_st2_6, ev_vI7, ev_vJ7, ev_vA7, ev_st1_7, ev_st2_7, ev_vI8, ev_vJ8, ev_vA8, ev_st1_8, ev_st2_8, ev_vI9, ev_vJ9, ev_vA9, ev_st1_9, ev_st2_9, ev_vI10, ev_vJ10, ev_vA10, ev_st1_10, ev_st2_10, ev_vI11, ev_vJ11, ev_vA11, ev_st1_11, ev_st2_11, ev_vI12, ev_vJ12, ev_vA12, ev_st1_12, ev_st2_12, ev_kI, ev_kJ, ev_bI, ev_bI1, ev_bI2, ev_bQ, ev_bQ1, ev_bQ2, ev_bJ, ev_bJ1, ev_bJ2, ev_bQJ, ev_bQJ1, ev_bQJ2, ev_uIJ, ev_uIJ1, ev_uJI, ev_uJI1, ev_uJJ, ev_uJJ1, ev_fI, ev_fI1, ev_fI2, ev_fA, ev_fA1, ev_fA2, ev_aI, ev_aI1, ev_aI2, ev_aI3, ev_aN, ev_aN1, ev_aN2, ev_cI, ev_cIt, ev_cIf, ev_qI, ev_qI1, ev_qI2, ev_qJ, ev_qJ1, ev_qJ2, ev_qZ, ev_qZ1, ev_qAnd, ev_qAndt, ev_qAndf, ev_qOr, ev_qOrt, ev_qOrf, ev_qNot, ev_qNot1, ev_qIf, ev_qIft, ev_qIff, ev_aNil, ev_aC, ev_aC1, ev_aC2, ev_unI, ev_unJ, ev_unA, ev_unV, ev_mV, ev_mV1, ev_mV2, ev_mV3, ev_mS, ev_mS1, ev_skip, ev_seq, ev_seq0, ev_seq1, ev_seq2, ev_seqr, ev_sI, ev_sI1, ev_sA, ev_sA1, ev_sJ, ev_sJ1, ev_inc, ev_inc1, ev_kln, ev_kli, ev_klr, ev_klj, ev_G, ev_put, ev_put1, ev_put2, ev_putZ, ev_putZ1, ev_putZ2, ev_ast, ev_ast1, ev_ast2, ev_ast3, ev_astZ, ev_astZ1, ev_astZ2, ev_astZ3, ev_fop, ev_fop1, ev_fop2, ev_fop3, ev_aop, ev_aop1, ev_aop2, ev_aop3, ev_aop4, ev_sV, ev_sV1, ev_pop, ev_pop1, ev_rI, ev_rI1, ev_rJ, ev_rJ1, ev_rA, ev_rA1, ev_rV, ev_brk, ev_cont, ev_sIf, ev_sIft, ev_sIff, ev_sw, ev_sw1, ev_sw0, ev_sw1b, ev_sw2, ev_swr, ev_wh, ev_whf, ev_wht, ev_wh0, ev_wh1, ev_wh2, ev_whr, ev_wh3, ev_mr, ev_mrI, ev_mrJ, ev_mrV, ev_mrA, ev_mrZ1, ev_mrZ0, ev_bs, g0_0, g0_1, g0_2, g0_3, g0_4, g0_5, p0_5, o0, g1_0, g1_1, g1_2, g1_3, g1_4, p1_4, g1_5, p1_5, o1, g2_0, g2_1, p2_1, o2, hl3, g4_0, g4_1, p4_1, o4, hl5, g6_0, g6_1, g6_2, g6_3, o6, g7_0, g7_1, g7_2, g7_3, p7_3, o7, hl8, g9_0, g9_1, g9_2, g9_3, p9_3, o9, hl10, g11_0, g11_1, p11_1, o11, hl12, g13_0, g13_1, g13_2, g13_3, p13_3, o13, hl14, g15_0, g15_1, g15_2, g15_3, p15_3, o15, hl16, g17_0, g17_1, g17_2, g17_3, g17_4, p17_4, g17_5, p17_5, o17, g18_0, g18_1, p18_1, o18, hl19, g20_0, g20_1, p20_1, o20, hl21, g22_0, g22_1, g22_2, g22_3, o22, g23_0, g23_1, g23_2, g23_3, p23_3, o23, hl24, g25_0, g25_1, g25_2, g25_3, p25_3, o25, hl26, g27_0, g27_1, p27_1, o27, hl28, g29_0, g29_1, g29_2, g29_3, p29_3, o29, hl30, g31_0, g31_1, g31_2, g31_3, p31_3, o31, hl32, g33_0, g33_1, g33_2, g33_3, g33_4, p33_4, g33_5, p33_5, o33, g34_0, g34_1, p34_1, o34, hl35, g36_0, g36_1, p36_1, o36, hl37, g38_0, g38_1, g38_2, g38_3, o38, g39_0, g39_1, g39_2, g39_3, p39_3, o39, hl40, g41_0, g41_1, g41_2, g41_3, p41_3, o41, hl42, g43_0, g43_1, p43_1, o43, hl44, g45_0, g45_1, g45_2, g45_3, p45_3, o45, hl46, g47_0, g47_1, g47_2, g47_3, p47_3, o47, hl48, g49_0, g49_1, p49_1, g49_2, p49_2, g49_3, g49_4, g49_5, p49_5, g49_6, p49_6, g49_7, p49_7, g49_8, p49_8, g49_9, p49_9, g49_10, p49_10, g49_11, g49_12, p49_12, g49_13, p49_13, o49, g50_0, g50_1, g50_2, g50_3, o50, g51_0, g51_1, g51_2, g51_3, p51_3, o51, hl52, g53_0, g53_1, g53_2, g53_3, p53_3, o53, hl54, g55_0, g55_1, p55_1, o55, hl56, g57_0, g57_1, g57_2, g57_3, p57_3, o57, hl58, g59_0, p59_0, g59_1, p59_1, g59_2, p59_2, g59_3, p59_3, g59_4, p59_4, g59_5, p59_5, o59, g60_0, g60_1, g60_2, g60_3, p60_3, o60, hl61, g62_0, g62_1, p62_1, o62, hl63, g64_0, p64_0, g64_1, p64_1, g64_2, p64_2, g64_3, p64_3, g64_4, p64_4, g64_5, p64_5, o64, g65_0, g65_1, g65_2, g65_3, p65_3, g65_4, p65_4, g65_5, p65_5, g65_6, p65_6, g65_7, p65_7, g65_8, g65_9, g65_10, p65_10, g65_11, g65_12, p65_12, g65_13, p65_13, g65_14, g65_15, p65_15, g65_16, p65_16, g65_17, p65_17, g65_18, p65_18, g65_19, g65_20, p65_20, g65_21, p65_21, g65_22, p65_22, g65_23, p65_23, g65_24, g65_25, p65_25, o65, hl66, hl67, hl68, hl69, hl70, hl71, hl72, hl73, hl74, k66_3285, s66_3285, k66_3286, s66_3286, k66_3287, s66_3287, k66_3288, s66_3288, k66_3289, s66_3289, k66_3290, s66_3290, k66_3291, s66_3291, k66_3292, s66_3292, k66_2484, k69_0, s69_0, k69_1, s69_1, k69_2, s69_2, k69_3, s69_3, k69_4, s69_4, k69_5, s69_5, k68_0, k68_1, k71_0, oa_1, oa_2, oa_3, oa_4, oa_96, oa_768, oa_804, oa_852, oa_2388, oa_2436, oa_2484, oa_2517, ob_1, ob_2, ob_3, ob_4, ob_7, ob_11, ob_12, ob_13, ob_14, oa_0, ob_0, om_3, om_6, om_8, om_14, om_16, om_32, om_3293, oan, omn, inc_n, zne1, zne0, zeq0, zeq1, Bool.not_true, Bool.not_false, q1, q2, q3, q4]
  rfl
def cS6_50 (V : VV) (nf ng ns nb : Nat) : VV := cpT (cpX (cpT (cpT V 7 51 17 nf) 9 53 3 ng) 11 55 ns) 13 57 16 nb
theorem S_copy6_50 (h1 : V 51 3 = nI nf) (k1 : nf ≤ 48) (h2 : V 53 3 = nI ng) (k2 : ng ≤ 12) (h3 : V 55 1 = nI ns) (k3 : ns ≤ 1024) (h4 : V 57 3 = nI nb) (k4 : nb ≤ 3) : f_X4_copyFrom sa [.ref (a + 6), .ref (a + 50)] (hp a V) = some (none, hp a (cS6_50 V nf ng ns nb)) := by
  have q1 := T_copy (sa := sa) (a := a) (t := 7) (t2 := 51) (V := V) isT_7 isT_51 (by decide) h1 k1
  have q2 := T_copy (sa := sa) (a := a) (t := 9) (t2 := 53) (V := (cpT V 7 51 17 nf)) isT_9 isT_53 (by decide) (show V 53 3 = nI ng from h2) k2
  have q3 := R_copy (sa := sa) (a := a) (t := 11) (t2 := 55) (V := (cpT (cpT V 7 51 17 nf) 9 53 3 ng)) isR_11 isR_55 (by decide) (show V 55 1 = nI ns from h3) k3
  have q4 := T_copy (sa := sa) (a := a) (t := 13) (t2 := 57) (V := (cpX (cpT (cpT V 7 51 17 nf) 9 53 3 ng) 11 55 ns)) isT_13 isT_57 (by decide) (show V 57 3 = nI nb from h4) k4
  rw [e_X4_copyFrom]
  unfold b_X4_copyFrom
  simp only [ev_vI0, ev_vJ0, ev_vA0, ev_st1_0, ev_st2_0, ev_vI1, ev_vJ1, ev_vA1, ev_st1_1, ev_st2_1, ev_vI2, ev_vJ2, ev_vA2, ev_st1_2, ev_st2_2, ev_vI3, ev_vJ3, ev_vA3, ev_st1_3, ev_st2_3, ev_vI4, ev_vJ4, ev_vA4, ev_st1_4, ev_st2_4, ev_vI5, ev_vJ5, ev_vA5, ev_st1_5, ev_st2_5, ev_vI6, ev_vJ6, ev_vA6, ev_st1_6, ev_st2_6, ev_vI7, ev_vJ7, ev_vA7, ev_st1_7, ev_st2_7, ev_vI8, ev_vJ8, ev_vA8, ev_st1_8, ev_st2_8, ev_vI9, ev_vJ9, ev_vA9, ev_st1_9, ev_st2_9, ev_vI10, ev_vJ10, ev_vA10, ev_st1_10, ev_st2_10, ev_vI11, ev_vJ11, ev_vA11, ev_st1_11, ev_st2_11, ev_vI12, ev_vJ12, ev_vA12, ev_st1_12, ev_st2_12, ev_kI, ev_kJ, ev_bI, ev_bI1, ev_bI2, ev_bQ, ev_bQ1, ev_bQ2, ev_bJ, ev_bJ1, ev_bJ2, ev_bQJ, ev_bQJ1, ev_bQJ2, ev_uIJ, ev_uIJ1, ev_uJI, ev_uJI1, ev_uJJ, ev_uJJ1, ev_fI, ev_fI1, ev_fI2, ev_fA, ev_fA1, ev_fA2, ev_aI, ev_aI1, ev_aI2, ev_aI3, ev_aN, ev_aN1, ev_aN2, ev_cI, ev_cIt, ev_cIf, ev_qI, ev_qI1, ev_qI2, ev_qJ, ev_qJ1, ev_qJ2, ev_qZ, ev_qZ1, ev_qAnd, ev_qAndt, ev_qAndf, ev_qOr, ev_qOrt, ev_qOrf, ev_qNot, ev_qNot1, ev_qIf, ev_qIft, ev_qIff, ev_aNil, ev_aC, ev_aC1, ev_aC2, ev_unI, ev_unJ, ev_unA, ev_unV, ev_mV, ev_mV1, ev_mV2, ev_mV3, ev_mS, ev_mS1, ev_skip, ev_seq, ev_seq0, ev_seq1, ev_seq2, ev_seqr, ev_sI, ev_sI1, ev_sA, ev_sA1, ev_sJ, ev_sJ1, ev_inc, ev_inc1, ev_kln, ev_kli, ev_klr, ev_klj, ev_G, ev_put, ev_put1, ev_put2, ev_putZ, ev_putZ1, ev_putZ2, ev_ast, ev_ast1, ev_ast2, ev_ast3, ev_astZ, ev_astZ1, ev_astZ2, ev_astZ3, ev_fop, ev_fop1, ev_fop2, ev_fop3, ev_aop, ev_aop1, ev_aop2, ev_aop3, ev_aop4, ev_sV, ev_sV1, ev_pop, ev_pop1, ev_rI, ev_rI1, ev_rJ, ev_rJ1, ev_rA, ev_rA1, ev_rV, ev_brk, ev_cont, ev_sIf, ev_sIft, ev_sIff, ev_sw, ev_sw1, ev_sw0, ev_sw1b, ev_sw2, ev_swr, ev_wh, ev_whf, ev_wht, ev_wh0, ev_wh1, ev_wh2, ev_whr, ev_wh3, ev_mr, ev_mrI, ev_mrJ, ev_mrV, ev_mrA, ev_mrZ1, ev_mrZ0, ev_bs, g0_0, g0_1, g0_2, g0_3, g0_4, g0_5, p0_5, o0, g1_0, g1_1, g1_2, g1_3, g1_4, p1_4, g1_5, p1_5, o1, g2_0, g2_1, p2_1, o2, hl3, g4_0, g4_1, p4_1, o4, hl5, g6_0, g6_1, g6_2, g6_3, o6, g7_0, g7_1, g7_2, g7_3, p7_3, o7, hl8, g9_0, g9_1, g9_2, g9_3, p9_3, o9, hl10, g11_0, g11_1, p11_1, o11, hl12, g13_0, g13_1, g13_2, g13_3, p13_3, o13, hl14, g15_0, g15_1, g15_2, g15_3, p15_3, o15, hl16, g17_0, g17_1, g17_2, g17_3, g17_4, p17_4, g17_5, p17_5, o17, g18_0, g18_1, p18_1, o18, hl19, g20_0, g20_1, p20_1, o20, hl21, g22_0, g22_1, g22_2, g22_3, o22, g23_0, g23_1, g23_2, g23_3, p23_3, o23, hl24, g25_0, g25_1, g25_2, g25_3, p25_3, o25, hl26, g27_0, g27_1, p27_1, o27, hl28, g29_0, g29_1, g29_2, g29_3, p29_3, o29, hl30, g31_0, g31_1, g31_2, g31_3, p31_3, o31, hl32, g33_0, g33_1, g33_2, g33_3, g33_4, p33_4, g33_5, p33_5, o33, g34_0, g34_1, p34_1, o34, hl35, g36_0, g36_1, p36_1, o36, hl37, g38_0, g38_1, g38_2, g38_3, o38, g39_0, g39_1, g39_2, g39_3, p39_3, o39, hl40, g41_0, g41_1, g41_2, g41_3, p41_3, o41, hl42, g43_0, g43_1, p43_1, o43, hl44, g45_0, g45_1, g45_2, g45_3, p45_3, o45, hl46, g47_0, g47_1, g47_2, g47_3, p47_3, o47, hl48, g49_0, g49_1, p49_1, g49_2, p49_2, g49_3, g49_4, g49_5, p49_5, g49_6, p49_6, g49_7, p49_7, g49_8, p49_8, g49_9, p49_9, g49_10, p49_10, g49_11, g49_12, p49_12, g49_13, p49_13, o49, g50_0, g50_1, g50_2, g50_3, o50, g51_0, g51_1, g51_2, g51_3, p51_3, o51, hl52, g53_0, g53_1, g53_2, g53_3, p53_3, o53, hl54, g55_0, g55_1, p55_1, o55, hl56, g57_0, g57_1, g57_2, g57_3, p57_3, o57, hl58, g59_0, p59_0, g59_1, p59_1, g59_2, p59_2, g59_3, p59_3, g59_4, p59_4, g59_5, p59_5, o59, g60_0, g60_1, g60_2, g60_3, p60_3, o60, hl61, g62_0, g62_1, p62_1, o62, hl63, g64_0, p64_0, g64_1, p64_1, g64_2, p64_2, g64_3, p64_3, g64_4, p64_4, g64_5, p64_5, o64, g65_0, g65_1, g65_2, g65_3, p65_3, g65_4, p65_4, g65_5, p65_5, g65_6, p65_6, g65_7, p65_7, g65_8, g65_9, g65_10, p65_10, g65_11, g65_12, p65_12, g65_13, p65_13, g65_14, g65_15, p65_15, g65_16, p65_16, g65_17, p65_17, g65_18, p65_18, g65_19, g65_20, p65_20, g65_21, p65_21, g65_22, p65_22, g65_23, p65_23, g65_24, g65_25, p65_25, o65, hl66, hl67, hl68, hl69, hl70, hl71, hl72, hl73, hl74, k66_3285, s66_3285, k66_3286, s66_3286, k66_3287, s66_3287, k66_3288, s66_3288, k66_3289, s66_3289, k66_3290, s66_3290, k66_3291, s66_3291, k66_3292, s66_3292, k66_2484, k69_0, s69_0, k69_1, s69_1, k69_2, s69_2, k69_3, s69_3, k69_4, s69_4, k69_5, s69_5, k68_0, k68_1, k71_0, oa_1, oa_2, oa_3, oa_4, oa_96, oa_768, oa_804, oa_852, oa_2388, oa_2436, oa_2484, oa_2517, ob_1, ob_2, ob_3, ob_4, ob_7, ob_11, ob_12, ob_13, ob_14, oa_0, ob_0, om_3, om_6, om_8, om_14, om_16, om_32, om_3293, oan, omn, inc_n, zne1, zne0, zeq0, zeq1, Bool.not_true, Bool.not_false, q1, q2, q3, q4]
  rfl
def cD17_1 (V : VV) (np nl nf ng ns nb ne : Nat) : VV := updR (cpT (cS22_6 (cpX (cpX V 18 2 np) 20 4 nl) nf ng ns nb) 31 15 3 ne) 17 (upd (upd (V 17) 4 (V 1 4)) 5 (V 1 5))
theorem D_copy17_1 (h : Nums (Dv V 1) np nl nf ng ns nb ne) : f_X0_copyFrom sa [.ref (a + 17), .ref (a + 1)] (hp a V) = some (none, hp a (cD17_1 V np nl nf ng ns nb ne)) := by
  obtain ⟨⟨h1, k1⟩, ⟨h2, k2⟩, ⟨h3, k3⟩, ⟨h4, k4⟩, ⟨h5, k5⟩, ⟨h6, k6⟩, ⟨h7, k7⟩⟩ := h
  have q1 := R_copy (sa := sa) (a := a) (t := 18) (t2 := 2) (V := V) isR_18 isR_2 (by decide) (show V 2 1 = nI np from h1) k1
  have q2 := R_copy (sa := sa) (a := a) (t := 20) (t2 := 4) (V := (cpX V 18 2 np)) isR_20 isR_4 (by decide) (show V 4 1 = nI nl from h2) k2
  have q3 := S_copy22_6 (sa := sa) (a := a) (V := (cpX (cpX V 18 2 np) 20 4 nl)) (show V 7 3 = nI nf from h3) k3 (show V 9 3 = nI ng from h4) k4 (show V 11 1 = nI ns from h5) k5 (show V 13 3 = nI nb from h6) k6
  have q4 := T_copy (sa := sa) (a := a) (t := 31) (t2 := 15) (V := (cS22_6 (cpX (cpX V 18 2 np) 20 4 nl) nf ng ns nb)) isT_31 isT_15 (by decide) (show V 15 3 = nI ne from h7) k7
  have g4 : (cpT (cS22_6 (cpX (cpX V 18 2 np) 20 4 nl) nf ng ns nb) 31 15 3 ne) 1 4 = V 1 4 := rfl
  have g5 : (updR (cpT (cS22_6 (cpX (cpX V 18 2 np) 20 4 nl) nf ng ns nb) 31 15 3 ne) 17 (upd (V 17) 4 (V 1 4))) 1 5 = V 1 5 := rfl
  have u4 : (cpT (cS22_6 (cpX (cpX V 18 2 np) 20 4 nl) nf ng ns nb) 31 15 3 ne) 17 = V 17 := rfl
  rw [e_X0_copyFrom]
  unfold b_X0_copyFrom
  simp only [ev_vI0, ev_vJ0, ev_vA0, ev_st1_0, ev_st2_0, ev_vI1, ev_vJ1, ev_vA1, ev_st1_1, ev_st2_1, ev_vI2, ev_vJ2, ev_vA2, ev_st1_2, ev_st2_2, ev_vI3, ev_vJ3, ev_vA3, ev_st1_3, ev_st2_3, ev_vI4, ev_vJ4, ev_vA4, ev_st1_4, ev_st2_4, ev_vI5, ev_vJ5, ev_vA5, ev_st1_5, ev_st2_5, ev_vI6, ev_vJ6, ev_vA6, ev_st1_6, ev_st2_6, ev_vI7, ev_vJ7, ev_vA7, ev_st1_7, ev_st2_7, ev_vI8, ev_vJ8, ev_vA8, ev_st1_8, ev_st2_8, ev_vI9, ev_vJ9, ev_vA9, ev_st1_9, ev_st2_9, ev_vI10, ev_vJ10, ev_vA10, ev_st1_10, ev_st2_10, ev_vI11, ev_vJ11, ev_vA11, ev_st1_11, ev_st2_11, ev_vI12, ev_vJ12, ev_vA12, ev_st1_12, ev_st2_12, ev_kI, ev_kJ, ev_bI, ev_bI1, ev_bI2, ev_bQ, ev_bQ1, ev_bQ2, ev_bJ, ev_bJ1, ev_bJ2, ev_bQJ, ev_bQJ1, ev_bQJ2, ev_uIJ, ev_uIJ1, ev_uJI, ev_uJI1, ev_uJJ, ev_uJJ1, ev_fI, ev_fI1, ev_fI2, ev_fA, ev_fA1, ev_fA2, ev_aI, ev_aI1, ev_aI2, ev_aI3, ev_aN, ev_aN1, ev_aN2, ev_cI, ev_cIt, ev_cIf, ev_qI, ev_qI1, ev_qI2, ev_qJ, ev_qJ1, ev_qJ2, ev_qZ, ev_qZ1, ev_qAnd, ev_qAndt, ev_qAndf, ev_qOr, ev_qOrt, ev_qOrf, ev_qNot, ev_qNot1, ev_qIf, ev_qIft, ev_qIff, ev_aNil, ev_aC, ev_aC1, ev_aC2, ev_unI, ev_unJ, ev_unA, ev_unV, ev_mV, ev_mV1, ev_mV2, ev_mV3, ev_mS, ev_mS1, ev_skip, ev_seq, ev_seq0, ev_seq1, ev_seq2, ev_seqr, ev_sI, ev_sI1, ev_sA, ev_sA1, ev_sJ, ev_sJ1, ev_inc, ev_inc1, ev_kln, ev_kli, ev_klr, ev_klj, ev_G, ev_put, ev_put1, ev_put2, ev_putZ, ev_putZ1, ev_putZ2, ev_ast, ev_ast1, ev_ast2, ev_ast3, ev_astZ, ev_astZ1, ev_astZ2, ev_astZ3, ev_fop, ev_fop1, ev_fop2, ev_fop3, ev_aop, ev_aop1, ev_aop2, ev_aop3, ev_aop4, ev_sV, ev_sV1, ev_pop, ev_pop1, ev_rI, ev_rI1, ev_rJ, ev_rJ1, ev_rA, ev_rA1, ev_rV, ev_brk, ev_cont, ev_sIf, ev_sIft, ev_sIff, ev_sw, ev_sw1, ev_sw0, ev_sw1b, ev_sw2, ev_swr, ev_wh, ev_whf, ev_wht, ev_wh0, ev_wh1, ev_wh2, ev_whr, ev_wh3, ev_mr, ev_mrI, ev_mrJ, ev_mrV, ev_mrA, ev_mrZ1, ev_mrZ0, ev_bs, g0_0, g0_1, g0_2, g0_3, g0_4, g0_5, p0_5, o0, g1_0, g1_1, g1_2, g1_3, g1_4, p1_4, g1_5, p1_5, o1, g2_0, g2_1, p2_1, o2, hl3, g4_0, g4_1, p4_1, o4, hl5, g6_0, g6_1, g6_2, g6_3, o6, g7_0, g7_1, g7_2, g7_3, p7_3, o7, hl8, g9_0, g9_1, g9_2, g9_3, p9_3, o9, hl10, g11_0, g11_1, p11_1, o11, hl12, g13_0, g13_1, g13_2, g13_3, p13_3, o13, hl14, g15_0, g15_1, g15_2, g15_3, p15_3, o15, hl16, g17_0, g17_1, g17_2, g17_3, g17_4, p17_4, g17_5, p17_5, o17, g18_0, g18_1, p18_1, o18, hl19, g20_0, g20_1, p20_1, o20, hl21, g22_0, g22_1, g22_2, g22_3, o22, g23_0, g23_1, g23_2, g23_3, p23_3, o23, hl24, g25_0, g25_1, g25_2, g25_3, p25_3, o25, hl26, g27_0, g27_1, p27_1, o27, hl28, g29_0, g29_1, g29_2, g29_3, p29_3, o29, hl30, g31_0, g31_1, g31_2, g31_3, p31_3, o31, hl32, g33_0, g33_1, g33_2, g33_3, g33_4, p33_4, g33_5, p33_5, o33, g34_0, g34_1, p34_1, o34, hl35, g36_0, g36_1, p36_1, o36, hl37, g38_0, g38_1, g38_2, g38_3, o38, g39_0, g39_1, g39_2, g39_3, p39_3, o39, hl40, g41_0, g41_1, g41_2, g41_3, p41_3, o41, hl42, g43_0, g43_1, p43_1, o43, hl44, g45_0, g45_1, g45_2, g45_3, p45_3, o45, hl46, g47_0, g47_1, g47_2, g47_3, p47_3, o47, hl48, g49_0, g49_1, p49_1, g49_2, p49_2, g49_3, g49_4, g49_5, p49_5, g49_6, p49_6, g49_7, p49_7, g49_8, p49_8, g49_9, p49_9, g49_10, p49_10, g49_11, g49_12, p49_12, g49_13, p49_13, o49, g50_0, g50_1, g50_2, g50_3, o50, g51_0, g51_1, g51_2, g51_3, p51_3, o51, hl52, g53_0, g53_1, g53_2, g53_3, p53_3, o53, hl54, g55_0, g55_1, p55_1, o55, hl56, g57_0, g57_1, g57_2, g57_3, p57_3, o57, hl58, g59_0, p59_0, g59_1, p59_1, g59_2, p59_2, g59_3, p59_3, g59_4, p59_4, g59_5, p59_5, o59, g60_0, g60_1, g60_2, g60_3, p60_3, o60, hl61, g62_0, g62_1, p62_1, o62, hl63, g64_0, p64_0, g64_1, p64_1, g64_2, p64_2, g64_3, p64_3, g64_4, p64_4, g64_5, p64_5, o64, g65_0, g65_1, g65_2, g65_3, p65_3, g65_4, p65_4, g65_5, p65_5, g65_6, p65_6, g65_7, p65_7, g65_8, g65_9, g65_10, p65_10, g65_11, g65_12, p65_12, g65_13, p65_13, g65_14, g65_15, p65_15, g65_16, p65_16, g65_17, p65_17, g65_18, p65_18, g65_19, g65_20, p65_20, g65_21, p65_21, g65_22, p65_22, g65_23, p65_23, g65_24, g65_25, p65_25, o65, hl66, hl67, hl68, hl69, hl70, hl71, hl72, hl73, hl74, k66_3285, s66_3285, k66_3286, s66_3286, k66_3287, s66_3287, k66_3288, s66_3288, k66_3289, s66_3289, k66_3290, s66_3290, k66_3291, s66_3291, k66_3292, s66_3292, k66_2484, k69_0, s69_0, k69_1, s69_1, k69_2, s69_2, k69_3, s69_3, k69_4, s69_4, k69_5, s69_5, k68_0, k68_1, k71_0, oa_1, oa_2, oa_3, oa_4, oa_96, oa_768, oa_804, oa_852, oa_2388, oa_2436, oa_2484, oa_2517, ob_1, ob_2, ob_3, ob_4, ob_7, ob_11, ob_12, ob_13, ob_14, oa_0, ob_0, om_3, om_6, om_8, om_14, om_16, om_32, om_3293, oan, omn, inc_n, zne1, zne0, zeq0, zeq1, Bool.not_true, Bool.not_false, q1, q2, q3, q4, g4, u4, g5, updR_s, updR_updR]
  rfl
theorem D_rel17_1 {M : Nat → Int32} (hn : Nums (Dv V 1) np nl nf ng ns nb ne) (h : DevR (Dv V 1) M) : DevR (Dv (cD17_1 V np nl nf ng ns nb ne) 17) M := by
  obtain ⟨⟨h1, k1⟩, ⟨h2, k2⟩, ⟨h3, k3⟩, ⟨h4, k4⟩, ⟨h5, k5⟩, ⟨h6, k6⟩, ⟨h7, k7⟩⟩ := hn
  refine h.k rfl rfl (fun t n ht e b1 b2 b3 => ?_) (fun t c n ht e => ?_)
  · rcases ht with rfl | rfl | rfl
    · rw [h1] at e
      have := nI_inj (by omega) (by omega) e
      subst this
      refine ⟨rfl, fun i hi => ?_⟩
      show va_cpy (V 3) (V 19) 0 0 np i = V 3 i
      rw [pk_cpy_in (by omega) (by omega), Nat.zero_add, Nat.sub_zero]
    · rw [h2] at e
      have := nI_inj (by omega) (by omega) e
      subst this
      refine ⟨rfl, fun i hi => ?_⟩
      show va_cpy (V 5) (V 21) 0 0 nl i = V 5 i
      rw [pk_cpy_in (by omega) (by omega), Nat.zero_add, Nat.sub_zero]
    · rw [h5] at e
      have := nI_inj (by omega) (by omega) e
      subst this
      refine ⟨rfl, fun i hi => ?_⟩
      show va_cpy (V 12) (V 28) 0 0 ns i = V 12 i
      rw [pk_cpy_in (by omega) (by omega), Nat.zero_add, Nat.sub_zero]
  · rcases ht with ⟨rfl, rfl, hb⟩ | ⟨rfl, rfl, hb⟩ | ⟨rfl, rfl, hb⟩ | ⟨rfl, rfl, hb⟩
    · rw [h3] at e
      have := nI_inj (by omega) (by omega) e
      subst this
      refine ⟨rfl, fun i hi => ?_⟩
      show va_cpy (V 8) (V 24) 0 0 (nf * 17) i = V 8 i
      rw [pk_cpy_in (by omega) (by omega), Nat.zero_add, Nat.sub_zero]
    · rw [h4] at e
      have := nI_inj (by omega) (by omega) e
      subst this
      refine ⟨rfl, fun i hi => ?_⟩
      show va_cpy (V 10) (V 26) 0 0 (ng * 3) i = V 10 i
      rw [pk_cpy_in (by omega) (by omega), Nat.zero_add, Nat.sub_zero]
    · rw [h6] at e
      have := nI_inj (by omega) (by omega) e
      subst this
      refine ⟨rfl, fun i hi => ?_⟩
      show va_cpy (V 14) (V 30) 0 0 (nb * 16) i = V 14 i
      rw [pk_cpy_in (by omega) (by omega), Nat.zero_add, Nat.sub_zero]
    · rw [h7] at e
      have := nI_inj (by omega) (by omega) e
      subst this
      refine ⟨rfl, fun i hi => ?_⟩
      show va_cpy (V 16) (V 32) 0 0 (ne * 3) i = V 16 i
      rw [pk_cpy_in (by omega) (by omega), Nat.zero_add, Nat.sub_zero]
theorem D_out17_1 {j : Nat} (h : j < 17 ∨ 33 ≤ j) : cD17_1 V np nl nf ng ns nb ne j = V j := by
  unfold cD17_1 cS22_6 cpT cpX
  simp only [updR]
  repeat rw [if_neg (by omega)]
def cD33_1 (V : VV) (np nl nf ng ns nb ne : Nat) : VV := updR (cpT (cS38_6 (cpX (cpX V 34 2 np) 36 4 nl) nf ng ns nb) 47 15 3 ne) 33 (upd (upd (V 33) 4 (V 1 4)) 5 (V 1 5))
theorem D_copy33_1 (h : Nums (Dv V 1) np nl nf ng ns nb ne) : f_X0_copyFrom sa [.ref (a + 33), .ref (a + 1)] (hp a V) = some (none, hp a (cD33_1 V np nl nf ng ns nb ne)) := by
  obtain ⟨⟨h1, k1⟩, ⟨h2, k2⟩, ⟨h3, k3⟩, ⟨h4, k4⟩, ⟨h5, k5⟩, ⟨h6, k6⟩, ⟨h7, k7⟩⟩ := h
  have q1 := R_copy (sa := sa) (a := a) (t := 34) (t2 := 2) (V := V) isR_34 isR_2 (by decide) (show V 2 1 = nI np from h1) k1
  have q2 := R_copy (sa := sa) (a := a) (t := 36) (t2 := 4) (V := (cpX V 34 2 np)) isR_36 isR_4 (by decide) (show V 4 1 = nI nl from h2) k2
  have q3 := S_copy38_6 (sa := sa) (a := a) (V := (cpX (cpX V 34 2 np) 36 4 nl)) (show V 7 3 = nI nf from h3) k3 (show V 9 3 = nI ng from h4) k4 (show V 11 1 = nI ns from h5) k5 (show V 13 3 = nI nb from h6) k6
  have q4 := T_copy (sa := sa) (a := a) (t := 47) (t2 := 15) (V := (cS38_6 (cpX (cpX V 34 2 np) 36 4 nl) nf ng ns nb)) isT_47 isT_15 (by decide) (show V 15 3 = nI ne from h7) k7
  have g4 : (cpT (cS38_6 (cpX (cpX V 34 2 np) 36 4 nl) nf ng ns nb) 47 15 3 ne) 1 4 = V 1 4 := rfl
  have g5 : (updR (cpT (cS38_6 (cpX (cpX V 34 2 np) 36 4 nl) nf ng ns nb) 47 15 3 ne) 33 (upd (V 33) 4 (V 1 4))) 1 5 = V 1 5 := rfl
  have u4 : (cpT (cS38_6 (cpX (cpX V 34 2 np) 36 4 nl) nf ng ns nb) 47 15 3 ne) 33 = V 33 := rfl
  rw [e_X0_copyFrom]
  unfold b_X0_copyFrom
  simp only [ev_vI0, ev_vJ0, ev_vA0, ev_st1_0, ev_st2_0, ev_vI1, ev_vJ1, ev_vA1, ev_st1_1, ev_st2_1, ev_vI2, ev_vJ2, ev_vA2, ev_st1_2, ev_st2_2, ev_vI3, ev_vJ3, ev_vA3, ev_st1_3, ev_st2_3, ev_vI4, ev_vJ4, ev_vA4, ev_st1_4, ev_st2_4, ev_vI5, ev_vJ5, ev_vA5, ev_st1_5, ev_st2_5, ev_vI6, ev_vJ6, ev_vA6, ev_st1_6, ev_st2_6, ev_vI7, ev_vJ7, ev_vA7, ev_st1_7, ev_st2_7, ev_vI8, ev_vJ8, ev_vA8, ev_st1_8, ev_st2_8, ev_vI9, ev_vJ9, ev_vA9, ev_st1_9, ev_st2_9, ev_vI10, ev_vJ10, ev_vA10, ev_st1_10, ev_st2_10, ev_vI11, ev_vJ11, ev_vA11, ev_st1_11, ev_st2_11, ev_vI12, ev_vJ12, ev_vA12, ev_st1_12, ev_st2_12, ev_kI, ev_kJ, ev_bI, ev_bI1, ev_bI2, ev_bQ, ev_bQ1, ev_bQ2, ev_bJ, ev_bJ1, ev_bJ2, ev_bQJ, ev_bQJ1, ev_bQJ2, ev_uIJ, ev_uIJ1, ev_uJI, ev_uJI1, ev_uJJ, ev_uJJ1, ev_fI, ev_fI1, ev_fI2, ev_fA, ev_fA1, ev_fA2, ev_aI, ev_aI1, ev_aI2, ev_aI3, ev_aN, ev_aN1, ev_aN2, ev_cI, ev_cIt, ev_cIf, ev_qI, ev_qI1, ev_qI2, ev_qJ, ev_qJ1, ev_qJ2, ev_qZ, ev_qZ1, ev_qAnd, ev_qAndt, ev_qAndf, ev_qOr, ev_qOrt, ev_qOrf, ev_qNot, ev_qNot1, ev_qIf, ev_qIft, ev_qIff, ev_aNil, ev_aC, ev_aC1, ev_aC2, ev_unI, ev_unJ, ev_unA, ev_unV, ev_mV, ev_mV1, ev_mV2, ev_mV3, ev_mS, ev_mS1, ev_skip, ev_seq, ev_seq0, ev_seq1, ev_seq2, ev_seqr, ev_sI, ev_sI1, ev_sA, ev_sA1, ev_sJ, ev_sJ1, ev_inc, ev_inc1, ev_kln, ev_kli, ev_klr, ev_klj, ev_G, ev_put, ev_put1, ev_put2, ev_putZ, ev_putZ1, ev_putZ2, ev_ast, ev_ast1, ev_ast2, ev_ast3, ev_astZ, ev_astZ1, ev_astZ2, ev_astZ3, ev_fop, ev_fop1, ev_fop2, ev_fop3, ev_aop, ev_aop1, ev_aop2, ev_aop3, ev_aop4, ev_sV, ev_sV1, ev_pop, ev_pop1, ev_rI, ev_rI1, ev_rJ, ev_rJ1, ev_rA, ev_rA1, ev_rV, ev_brk, ev_cont, ev_sIf, ev_sIft, ev_sIff, ev_sw, ev_sw1, ev_sw0, ev_sw1b, ev_sw2, ev_swr, ev_wh, ev_whf, ev_wht, ev_wh0, ev_wh1, ev_wh2, ev_whr, ev_wh3, ev_mr, ev_mrI, ev_mrJ, ev_mrV, ev_mrA, ev_mrZ1, ev_mrZ0, ev_bs, g0_0, g0_1, g0_2, g0_3, g0_4, g0_5, p0_5, o0, g1_0, g1_1, g1_2, g1_3, g1_4, p1_4, g1_5, p1_5, o1, g2_0, g2_1, p2_1, o2, hl3, g4_0, g4_1, p4_1, o4, hl5, g6_0, g6_1, g6_2, g6_3, o6, g7_0, g7_1, g7_2, g7_3, p7_3, o7, hl8, g9_0, g9_1, g9_2, g9_3, p9_3, o9, hl10, g11_0, g11_1, p11_1, o11, hl12, g13_0, g13_1, g13_2, g13_3, p13_3, o13, hl14, g15_0, g15_1, g15_2, g15_3, p15_3, o15, hl16, g17_0, g17_1, g17_2, g17_3, g17_4, p17_4, g17_5, p17_5, o17, g18_0, g18_1, p18_1, o18, hl19, g20_0, g20_1, p20_1, o20, hl21, g22_0, g22_1, g22_2, g22_3, o22, g23_0, g23_1, g23_2, g23_3, p23_3, o23, hl24, g25_0, g25_1, g25_2, g25_3, p25_3, o25, hl26, g27_0, g27_1, p27_1, o27, hl28, g29_0, g29_1, g29_2, g29_3, p29_3, o29, hl30, g31_0, g31_1, g31_2, g31_3, p31_3, o31, hl32, g33_0, g33_1, g33_2, g33_3, g33_4, p33_4, g33_5, p33_5, o33, g34_0, g34_1, p34_1, o34, hl35, g36_0, g36_1, p36_1, o36, hl37, g38_0, g38_1, g38_2, g38_3, o38, g39_0, g39_1, g39_2, g39_3, p39_3, o39, hl40, g41_0, g41_1, g41_2, g41_3, p41_3, o41, hl42, g43_0, g43_1, p43_1, o43, hl44, g45_0, g45_1, g45_2, g45_3, p45_3, o45, hl46, g47_0, g47_1, g47_2, g47_3, p47_3, o47, hl48, g49_0, g49_1, p49_1, g49_2, p49_2, g49_3, g49_4, g49_5, p49_5, g49_6, p49_6, g49_7, p49_7, g49_8, p49_8, g49_9, p49_9, g49_10, p49_10, g49_11, g49_12, p49_12, g49_13, p49_13, o49, g50_0, g50_1, g50_2, g50_3, o50, g51_0, g51_1, g51_2, g51_3, p51_3, o51, hl52, g53_0, g53_1, g53_2, g53_3, p53_3, o53, hl54, g55_0, g55_1, p55_1, o55, hl56, g57_0, g57_1, g57_2, g57_3, p57_3, o57, hl58, g59_0, p59_0, g59_1, p59_1, g59_2, p59_2, g59_3, p59_3, g59_4, p59_4, g59_5, p59_5, o59, g60_0, g60_1, g60_2, g60_3, p60_3, o60, hl61, g62_0, g62_1, p62_1, o62, hl63, g64_0, p64_0, g64_1, p64_1, g64_2, p64_2, g64_3, p64_3, g64_4, p64_4, g64_5, p64_5, o64, g65_0, g65_1, g65_2, g65_3, p65_3, g65_4, p65_4, g65_5, p65_5, g65_6, p65_6, g65_7, p65_7, g65_8, g65_9, g65_10, p65_10, g65_11, g65_12, p65_12, g65_13, p65_13, g65_14, g65_15, p65_15, g65_16, p65_16, g65_17, p65_17, g65_18, p65_18, g65_19, g65_20, p65_20, g65_21, p65_21, g65_22, p65_22, g65_23, p65_23, g65_24, g65_25, p65_25, o65, hl66, hl67, hl68, hl69, hl70, hl71, hl72, hl73, hl74, k66_3285, s66_3285, k66_3286, s66_3286, k66_3287, s66_3287, k66_3288, s66_3288, k66_3289, s66_3289, k66_3290, s66_3290, k66_3291, s66_3291, k66_3292, s66_3292, k66_2484, k69_0, s69_0, k69_1, s69_1, k69_2, s69_2, k69_3, s69_3, k69_4, s69_4, k69_5, s69_5, k68_0, k68_1, k71_0, oa_1, oa_2, oa_3, oa_4, oa_96, oa_768, oa_804, oa_852, oa_2388, oa_2436, oa_2484, oa_2517, ob_1, ob_2, ob_3, ob_4, ob_7, ob_11, ob_12, ob_13, ob_14, oa_0, ob_0, om_3, om_6, om_8, om_14, om_16, om_32, om_3293, oan, omn, inc_n, zne1, zne0, zeq0, zeq1, Bool.not_true, Bool.not_false, q1, q2, q3, q4, g4, u4, g5, updR_s, updR_updR]
  rfl
theorem D_rel33_1 {M : Nat → Int32} (hn : Nums (Dv V 1) np nl nf ng ns nb ne) (h : DevR (Dv V 1) M) : DevR (Dv (cD33_1 V np nl nf ng ns nb ne) 33) M := by
  obtain ⟨⟨h1, k1⟩, ⟨h2, k2⟩, ⟨h3, k3⟩, ⟨h4, k4⟩, ⟨h5, k5⟩, ⟨h6, k6⟩, ⟨h7, k7⟩⟩ := hn
  refine h.k rfl rfl (fun t n ht e b1 b2 b3 => ?_) (fun t c n ht e => ?_)
  · rcases ht with rfl | rfl | rfl
    · rw [h1] at e
      have := nI_inj (by omega) (by omega) e
      subst this
      refine ⟨rfl, fun i hi => ?_⟩
      show va_cpy (V 3) (V 35) 0 0 np i = V 3 i
      rw [pk_cpy_in (by omega) (by omega), Nat.zero_add, Nat.sub_zero]
    · rw [h2] at e
      have := nI_inj (by omega) (by omega) e
      subst this
      refine ⟨rfl, fun i hi => ?_⟩
      show va_cpy (V 5) (V 37) 0 0 nl i = V 5 i
      rw [pk_cpy_in (by omega) (by omega), Nat.zero_add, Nat.sub_zero]
    · rw [h5] at e
      have := nI_inj (by omega) (by omega) e
      subst this
      refine ⟨rfl, fun i hi => ?_⟩
      show va_cpy (V 12) (V 44) 0 0 ns i = V 12 i
      rw [pk_cpy_in (by omega) (by omega), Nat.zero_add, Nat.sub_zero]
  · rcases ht with ⟨rfl, rfl, hb⟩ | ⟨rfl, rfl, hb⟩ | ⟨rfl, rfl, hb⟩ | ⟨rfl, rfl, hb⟩
    · rw [h3] at e
      have := nI_inj (by omega) (by omega) e
      subst this
      refine ⟨rfl, fun i hi => ?_⟩
      show va_cpy (V 8) (V 40) 0 0 (nf * 17) i = V 8 i
      rw [pk_cpy_in (by omega) (by omega), Nat.zero_add, Nat.sub_zero]
    · rw [h4] at e
      have := nI_inj (by omega) (by omega) e
      subst this
      refine ⟨rfl, fun i hi => ?_⟩
      show va_cpy (V 10) (V 42) 0 0 (ng * 3) i = V 10 i
      rw [pk_cpy_in (by omega) (by omega), Nat.zero_add, Nat.sub_zero]
    · rw [h6] at e
      have := nI_inj (by omega) (by omega) e
      subst this
      refine ⟨rfl, fun i hi => ?_⟩
      show va_cpy (V 14) (V 46) 0 0 (nb * 16) i = V 14 i
      rw [pk_cpy_in (by omega) (by omega), Nat.zero_add, Nat.sub_zero]
    · rw [h7] at e
      have := nI_inj (by omega) (by omega) e
      subst this
      refine ⟨rfl, fun i hi => ?_⟩
      show va_cpy (V 16) (V 48) 0 0 (ne * 3) i = V 16 i
      rw [pk_cpy_in (by omega) (by omega), Nat.zero_add, Nat.sub_zero]
theorem D_out33_1 {j : Nat} (h : j < 33 ∨ 49 ≤ j) : cD33_1 V np nl nf ng ns nb ne j = V j := by
  unfold cD33_1 cS38_6 cpT cpX
  simp only [updR]
  repeat rw [if_neg (by omega)]
def cD1_17 (V : VV) (np nl nf ng ns nb ne : Nat) : VV := updR (cpT (cS6_22 (cpX (cpX V 2 18 np) 4 20 nl) nf ng ns nb) 15 31 3 ne) 1 (upd (upd (V 1) 4 (V 17 4)) 5 (V 17 5))
theorem D_copy1_17 (h : Nums (Dv V 17) np nl nf ng ns nb ne) : f_X0_copyFrom sa [.ref (a + 1), .ref (a + 17)] (hp a V) = some (none, hp a (cD1_17 V np nl nf ng ns nb ne)) := by
  obtain ⟨⟨h1, k1⟩, ⟨h2, k2⟩, ⟨h3, k3⟩, ⟨h4, k4⟩, ⟨h5, k5⟩, ⟨h6, k6⟩, ⟨h7, k7⟩⟩ := h
  have q1 := R_copy (sa := sa) (a := a) (t := 2) (t2 := 18) (V := V) isR_2 isR_18 (by decide) (show V 18 1 = nI np from h1) k1
  have q2 := R_copy (sa := sa) (a := a) (t := 4) (t2 := 20) (V := (cpX V 2 18 np)) isR_4 isR_20 (by decide) (show V 20 1 = nI nl from h2) k2
  have q3 := S_copy6_22 (sa := sa) (a := a) (V := (cpX (cpX V 2 18 np) 4 20 nl)) (show V 23 3 = nI nf from h3) k3 (show V 25 3 = nI ng from h4) k4 (show V 27 1 = nI ns from h5) k5 (show V 29 3 = nI nb from h6) k6
  have q4 := T_copy (sa := sa) (a := a) (t := 15) (t2 := 31) (V := (cS6_22 (cpX (cpX V 2 18 np) 4 20 nl) nf ng ns nb)) isT_15 isT_31 (by decide) (show V 31 3 = nI ne from h7) k7
  have g4 : (cpT (cS6_22 (cpX (cpX V 2 18 np) 4 20 nl) nf ng ns nb) 15 31 3 ne) 17 4 = V 17 4 := rfl
  have g5 : (updR (cpT (cS6_22 (cpX (cpX V 2 18 np) 4 20 nl) nf ng ns nb) 15 31 3 ne) 1 (upd (V 1) 4 (V 17 4))) 17 5 = V 17 5 := rfl
  have u4 : (cpT (cS6_22 (cpX (cpX V 2 18 np) 4 20 nl) nf ng ns nb) 15 31 3 ne) 1 = V 1 := rfl
  rw [e_X0_copyFrom]
  unfold b_X0_copyFrom
  simp only [ev_vI0, ev_vJ0, ev_vA0, ev_st1_0, ev_st2_0, ev_vI1, ev_vJ1, ev_vA1, ev_st1_1, ev_st2_1, ev_vI2, ev_vJ2, ev_vA2, ev_st1_2, ev_st2_2, ev_vI3, ev_vJ3, ev_vA3, ev_st1_3, ev_st2_3, ev_vI4, ev_vJ4, ev_vA4, ev_st1_4, ev_st2_4, ev_vI5, ev_vJ5, ev_vA5, ev_st1_5, ev_st2_5, ev_vI6, ev_vJ6, ev_vA6, ev_st1_6, ev_st2_6, ev_vI7, ev_vJ7, ev_vA7, ev_st1_7, ev_st2_7, ev_vI8, ev_vJ8, ev_vA8, ev_st1_8, ev_st2_8, ev_vI9, ev_vJ9, ev_vA9, ev_st1_9, ev_st2_9, ev_vI10, ev_vJ10, ev_vA10, ev_st1_10, ev_st2_10, ev_vI11, ev_vJ11, ev_vA11, ev_st1_11, ev_st2_11, ev_vI12, ev_vJ12, ev_vA12, ev_st1_12, ev_st2_12, ev_kI, ev_kJ, ev_bI, ev_bI1, ev_bI2, ev_bQ, ev_bQ1, ev_bQ2, ev_bJ, ev_bJ1, ev_bJ2, ev_bQJ, ev_bQJ1, ev_bQJ2, ev_uIJ, ev_uIJ1, ev_uJI, ev_uJI1, ev_uJJ, ev_uJJ1, ev_fI, ev_fI1, ev_fI2, ev_fA, ev_fA1, ev_fA2, ev_aI, ev_aI1, ev_aI2, ev_aI3, ev_aN, ev_aN1, ev_aN2, ev_cI, ev_cIt, ev_cIf, ev_qI, ev_qI1, ev_qI2, ev_qJ, ev_qJ1, ev_qJ2, ev_qZ, ev_qZ1, ev_qAnd, ev_qAndt, ev_qAndf, ev_qOr, ev_qOrt, ev_qOrf, ev_qNot, ev_qNot1, ev_qIf, ev_qIft, ev_qIff, ev_aNil, ev_aC, ev_aC1, ev_aC2, ev_unI, ev_unJ, ev_unA, ev_unV, ev_mV, ev_mV1, ev_mV2, ev_mV3, ev_mS, ev_mS1, ev_skip, ev_seq, ev_seq0, ev_seq1, ev_seq2, ev_seqr, ev_sI, ev_sI1, ev_sA, ev_sA1, ev_sJ, ev_sJ1, ev_inc, ev_inc1, ev_kln, ev_kli, ev_klr, ev_klj, ev_G, ev_put, ev_put1, ev_put2, ev_putZ, ev_putZ1, ev_putZ2, ev_ast, ev_ast1, ev_ast2, ev_ast3, ev_astZ, ev_astZ1, ev_astZ2, ev_astZ3, ev_fop, ev_fop1, ev_fop2, ev_fop3, ev_aop, ev_aop1, ev_aop2, ev_aop3, ev_aop4, ev_sV, ev_sV1, ev_pop, ev_pop1, ev_rI, ev_rI1, ev_rJ, ev_rJ1, ev_rA, ev_rA1, ev_rV, ev_brk, ev_cont, ev_sIf, ev_sIft, ev_sIff, ev_sw, ev_sw1, ev_sw0, ev_sw1b, ev_sw2, ev_swr, ev_wh, ev_whf, ev_wht, ev_wh0, ev_wh1, ev_wh2, ev_whr, ev_wh3, ev_mr, ev_mrI, ev_mrJ, ev_mrV, ev_mrA, ev_mrZ1, ev_mrZ0, ev_bs, g0_0, g0_1, g0_2, g0_3, g0_4, g0_5, p0_5, o0, g1_0, g1_1, g1_2, g1_3, g1_4, p1_4, g1_5, p1_5, o1, g2_0, g2_1, p2_1, o2, hl3, g4_0, g4_1, p4_1, o4, hl5, g6_0, g6_1, g6_2, g6_3, o6, g7_0, g7_1, g7_2, g7_3, p7_3, o7, hl8, g9_0, g9_1, g9_2, g9_3, p9_3, o9, hl10, g11_0, g11_1, p11_1, o11, hl12, g13_0, g13_1, g13_2, g13_3, p13_3, o13, hl14, g15_0, g15_1, g15_2, g15_3, p15_3, o15, hl16, g17_0, g17_1, g17_2, g17_3, g17_4, p17_4, g17_5, p17_5, o17, g18_0, g18_1, p18_1, o18, hl19, g20_0, g20_1, p20_1, o20, hl21, g22_0, g22_1, g22_2, g22_3, o22, g23_0, g23_1, g23_2, g23_3, p23_3, o23, hl24, g25_0, g25_1, g25_2, g25_3, p25_3, o25, hl26, g27_0, g27_1, p27_1, o27, hl28, g29_0, g29_1, g29_2, g29_3, p29_3, o29, hl30, g31_0, g31_1, g31_2, g31_3, p31_3, o31, hl32, g33_0, g33_1, g33_2, g33_3, g33_4, p33_4, g33_5, p33_5, o33, g34_0, g34_1, p34_1, o34, hl35, g36_0, g36_1, p36_1, o36, hl37, g38_0, g38_1, g38_2, g38_3, o38, g39_0, g39_1, g39_2, g39_3, p39_3, o39, hl40, g41_0, g41_1, g41_2, g41_3, p41_3, o41, hl42, g43_0, g43_1, p43_1, o43, hl44, g45_0, g45_1, g45_2, g45_3, p45_3, o45, hl46, g47_0, g47_1, g47_2, g47_3, p47_3, o47, hl48, g49_0, g49_1, p49_1, g49_2, p49_2, g49_3, g49_4, g49_5, p49_5, g49_6, p49_6, g49_7, p49_7, g49_8, p49_8, g49_9, p49_9, g49_10, p49_10, g49_11, g49_12, p49_12, g49_13, p49_13, o49, g50_0, g50_1, g50_2, g50_3, o50, g51_0, g51_1, g51_2, g51_3, p51_3, o51, hl52, g53_0, g53_1, g53_2, g53_3, p53_3, o53, hl54, g55_0, g55_1, p55_1, o55, hl56, g57_0, g57_1, g57_2, g57_3, p57_3, o57, hl58, g59_0, p59_0, g59_1, p59_1, g59_2, p59_2, g59_3, p59_3, g59_4, p59_4, g59_5, p59_5, o59, g60_0, g60_1, g60_2, g60_3, p60_3, o60, hl61, g62_0, g62_1, p62_1, o62, hl63, g64_0, p64_0, g64_1, p64_1, g64_2, p64_2, g64_3, p64_3, g64_4, p64_4, g64_5, p64_5, o64, g65_0, g65_1, g65_2, g65_3, p65_3, g65_4, p65_4, g65_5, p65_5, g65_6, p65_6, g65_7, p65_7, g65_8, g65_9, g65_10, p65_10, g65_11, g65_12, p65_12, g65_13, p65_13, g65_14, g65_15, p65_15, g65_16, p65_16, g65_17, p65_17, g65_18, p65_18, g65_19, g65_20, p65_20, g65_21, p65_21, g65_22, p65_22, g65_23, p65_23, g65_24, g65_25, p65_25, o65, hl66, hl67, hl68, hl69, hl70, hl71, hl72, hl73, hl74, k66_3285, s66_3285, k66_3286, s66_3286, k66_3287, s66_3287, k66_3288, s66_3288, k66_3289, s66_3289, k66_3290, s66_3290, k66_3291, s66_3291, k66_3292, s66_3292, k66_2484, k69_0, s69_0, k69_1, s69_1, k69_2, s69_2, k69_3, s69_3, k69_4, s69_4, k69_5, s69_5, k68_0, k68_1, k71_0, oa_1, oa_2, oa_3, oa_4, oa_96, oa_768, oa_804, oa_852, oa_2388, oa_2436, oa_2484, oa_2517, ob_1, ob_2, ob_3, ob_4, ob_7, ob_11, ob_12, ob_13, ob_14, oa_0, ob_0, om_3, om_6, om_8, om_14, om_16, om_32, om_3293, oan, omn, inc_n, zne1, zne0, zeq0, zeq1, Bool.not_true, Bool.not_false, q1, q2, q3, q4, g4, u4, g5, updR_s, updR_updR]
  rfl
theorem D_rel1_17 {M : Nat → Int32} (hn : Nums (Dv V 17) np nl nf ng ns nb ne) (h : DevR (Dv V 17) M) : DevR (Dv (cD1_17 V np nl nf ng ns nb ne) 1) M := by
  obtain ⟨⟨h1, k1⟩, ⟨h2, k2⟩, ⟨h3, k3⟩, ⟨h4, k4⟩, ⟨h5, k5⟩, ⟨h6, k6⟩, ⟨h7, k7⟩⟩ := hn
  refine h.k rfl rfl (fun t n ht e b1 b2 b3 => ?_) (fun t c n ht e => ?_)
  · rcases ht with rfl | rfl | rfl
    · rw [h1] at e
      have := nI_inj (by omega) (by omega) e
      subst this
      refine ⟨rfl, fun i hi => ?_⟩
      show va_cpy (V 19) (V 3) 0 0 np i = V 19 i
      rw [pk_cpy_in (by omega) (by omega), Nat.zero_add, Nat.sub_zero]
    · rw [h2] at e
      have := nI_inj (by omega) (by omega) e
      subst this
      refine ⟨rfl, fun i hi => ?_⟩
      show va_cpy (V 21) (V 5) 0 0 nl i = V 21 i
      rw [pk_cpy_in (by omega) (by omega), Nat.zero_add, Nat.sub_zero]
    · rw [h5] at e
      have := nI_inj (by omega) (by omega) e
      subst this
      refine ⟨rfl, fun i hi => ?_⟩
      show va_cpy (V 28) (V 12) 0 0 ns i = V 28 i
      rw [pk_cpy_in (by omega) (by omega), Nat.zero_add, Nat.sub_zero]
  · rcases ht with ⟨rfl, rfl, hb⟩ | ⟨rfl, rfl, hb⟩ | ⟨rfl, rfl, hb⟩ | ⟨rfl, rfl, hb⟩
    · rw [h3] at e
      have := nI_inj (by omega) (by omega) e
      subst this
      refine ⟨rfl, fun i hi => ?_⟩
      show va_cpy (V 24) (V 8) 0 0 (nf * 17) i = V 24 i
      rw [pk_cpy_in (by omega) (by omega), Nat.zero_add, Nat.sub_zero]
    · rw [h4] at e
      have := nI_inj (by omega) (by omega) e
      subst this
      refine ⟨rfl, fun i hi => ?_⟩
      show va_cpy (V 26) (V 10) 0 0 (ng * 3) i = V 26 i
      rw [pk_cpy_in (by omega) (by omega), Nat.zero_add, Nat.sub_zero]
    · rw [h6] at e
      have := nI_inj (by omega) (by omega) e
      subst this
      refine ⟨rfl, fun i hi => ?_⟩
      show va_cpy (V 30) (V 14) 0 0 (nb * 16) i = V 30 i
      rw [pk_cpy_in (by omega) (by omega), Nat.zero_add, Nat.sub_zero]
    · rw [h7] at e
      have := nI_inj (by omega) (by omega) e
      subst this
      refine ⟨rfl, fun i hi => ?_⟩
      show va_cpy (V 32) (V 16) 0 0 (ne * 3) i = V 32 i
      rw [pk_cpy_in (by omega) (by omega), Nat.zero_add, Nat.sub_zero]
theorem D_out1_17 {j : Nat} (h : j < 1 ∨ 17 ≤ j) : cD1_17 V np nl nf ng ns nb ne j = V j := by
  unfold cD1_17 cS6_22 cpT cpX
  simp only [updR]
  repeat rw [if_neg (by omega)]
def cD1_33 (V : VV) (np nl nf ng ns nb ne : Nat) : VV := updR (cpT (cS6_38 (cpX (cpX V 2 34 np) 4 36 nl) nf ng ns nb) 15 47 3 ne) 1 (upd (upd (V 1) 4 (V 33 4)) 5 (V 33 5))
theorem D_copy1_33 (h : Nums (Dv V 33) np nl nf ng ns nb ne) : f_X0_copyFrom sa [.ref (a + 1), .ref (a + 33)] (hp a V) = some (none, hp a (cD1_33 V np nl nf ng ns nb ne)) := by
  obtain ⟨⟨h1, k1⟩, ⟨h2, k2⟩, ⟨h3, k3⟩, ⟨h4, k4⟩, ⟨h5, k5⟩, ⟨h6, k6⟩, ⟨h7, k7⟩⟩ := h
  have q1 := R_copy (sa := sa) (a := a) (t := 2) (t2 := 34) (V := V) isR_2 isR_34 (by decide) (show V 34 1 = nI np from h1) k1
  have q2 := R_copy (sa := sa) (a := a) (t := 4) (t2 := 36) (V := (cpX V 2 34 np)) isR_4 isR_36 (by decide) (show V 36 1 = nI nl from h2) k2
  have q3 := S_copy6_38 (sa := sa) (a := a) (V := (cpX (cpX V 2 34 np) 4 36 nl)) (show V 39 3 = nI nf from h3) k3 (show V 41 3 = nI ng from h4) k4 (show V 43 1 = nI ns from h5) k5 (show V 45 3 = nI nb from h6) k6
  have q4 := T_copy (sa := sa) (a := a) (t := 15) (t2 := 47) (V := (cS6_38 (cpX (cpX V 2 34 np) 4 36 nl) nf ng ns nb)) isT_15 isT_47 (by decide) (show V 47 3 = nI ne from h7) k7
  have g4 : (cpT (cS6_38 (cpX (cpX V 2 34 np) 4 36 nl) nf ng ns nb) 15 47 3 ne) 33 4 = V 33 4 := rfl
  have g5 : (updR (cpT (cS6_38 (cpX (cpX V 2 34 np) 4 36 nl) nf ng ns nb) 15 47 3 ne) 1 (upd (V 1) 4 (V 33 4))) 33 5 = V 33 5 := rfl
  have u4 : (cpT (cS6_38 (cpX (cpX V 2 34 np) 4 36 nl) nf ng ns nb) 15 47 3 ne) 1 = V 1 := rfl
  rw [e_X0_copyFrom]
  unfold b_X0_copyFrom
  simp only [ev_vI0, ev_vJ0, ev_vA0, ev_st1_0, ev_st2_0, ev_vI1, ev_vJ1, ev_vA1, ev_st1_1, ev_st2_1, ev_vI2, ev_vJ2, ev_vA2, ev_st1_2, ev_st2_2, ev_vI3, ev_vJ3, ev_vA3, ev_st1_3, ev_st2_3, ev_vI4, ev_vJ4, ev_vA4, ev_st1_4, ev_st2_4, ev_vI5, ev_vJ5, ev_vA5, ev_st1_5, ev_st2_5, ev_vI6, ev_vJ6, ev_vA6, ev_st1_6, ev_st2_6, ev_vI7, ev_vJ7, ev_vA7, ev_st1_7, ev_st2_7, ev_vI8, ev_vJ8, ev_vA8, ev_st1_8, ev_st2_8, ev_vI9, ev_vJ9, ev_vA9, ev_st1_9, ev_st2_9, ev_vI10, ev_vJ10, ev_vA10, ev_st1_10, ev_st2_10, ev_vI11, ev_vJ11, ev_vA11, ev_st1_11, ev_st2_11, ev_vI12, ev_vJ12, ev_vA12, ev_st1_12, ev_st2_12, ev_kI, ev_kJ, ev_bI, ev_bI1, ev_bI2, ev_bQ, ev_bQ1, ev_bQ2, ev_bJ, ev_bJ1, ev_bJ2, ev_bQJ, ev_bQJ1, ev_bQJ2, ev_uIJ, ev_uIJ1, ev_uJI, ev_uJI1, ev_uJJ, ev_uJJ1, ev_fI, ev_fI1, ev_fI2, ev_fA, ev_fA1, ev_fA2, ev_aI, ev_aI1, ev_aI2, ev_aI3, ev_aN, ev_aN1, ev_aN2, ev_cI, ev_cIt, ev_cIf, ev_qI, ev_qI1, ev_qI2, ev_qJ, ev_qJ1, ev_qJ2, ev_qZ, ev_qZ1, ev_qAnd, ev_qAndt, ev_qAndf, ev_qOr, ev_qOrt, ev_qOrf, ev_qNot, ev_qNot1, ev_qIf, ev_qIft, ev_qIff, ev_aNil, ev_aC, ev_aC1, ev_aC2, ev_unI, ev_unJ, ev_unA, ev_unV, ev_mV, ev_mV1, ev_mV2, ev_mV3, ev_mS, ev_mS1, ev_skip, ev_seq, ev_seq0, ev_seq1, ev_seq2, ev_seqr, ev_sI, ev_sI1, ev_sA, ev_sA1, ev_sJ, ev_sJ1, ev_inc, ev_inc1, ev_kln, ev_kli, ev_klr, ev_klj, ev_G, ev_put, ev_put1, ev_put2, ev_putZ, ev_putZ1, ev_putZ2, ev_ast, ev_ast1, ev_ast2, ev_ast3, ev_astZ, ev_astZ1, ev_astZ2, ev_astZ3, ev_fop, ev_fop1, ev_fop2, ev_fop3, ev_aop, ev_aop1, ev_aop2, ev_aop3, ev_aop4, ev_sV, ev_sV1, ev_pop, ev_pop1, ev_rI, ev_rI1, ev_rJ, ev_rJ1, ev_rA, ev_rA1, ev_rV, ev_brk, ev_cont, ev_sIf, ev_sIft, ev_sIff, ev_sw, ev_sw1, ev_sw0, ev_sw1b, ev_sw2, ev_swr, ev_wh, ev_whf, ev_wht, ev_wh0, ev_wh1, ev_wh2, ev_whr, ev_wh3, ev_mr, ev_mrI, ev_mrJ, ev_mrV, ev_mrA, ev_mrZ1, ev_mrZ0, ev_bs, g0_0, g0_1, g0_2, g0_3, g0_4, g0_5, p0_5, o0, g1_0, g1_1, g1_2, g1_3, g1_4, p1_4, g1_5, p1_5, o1, g2_0, g2_1, p2_1, o2, hl3, g4_0, g4_1, p4_1, o4, hl5, g6_0, g6_1, g6_2, g6_3, o6, g7_0, g7_1, g7_2, g7_3, p7_3, o7, hl8, g9_0, g9_1, g9_2, g9_3, p9_3, o9, hl10, g11_0, g11_1, p11_1, o11, hl12, g13_0, g13_1, g13_2, g13_3, p13_3, o13, hl14, g15_0, g15_1, g15_2, g15_3, p15_3, o15, hl16, g17_0, g17_1, g17_2, g17_3, g17_4, p17_4, g17_5, p17_5, o17, g18_0, g18_1, p18_1, o18, hl19, g20_0, g20_1, p20_1, o20, hl21, g22_0, g22_1, g22_2, g22_3, o22, g23_0, g23_1, g23_2, g23_3, p23_3, o23, hl24, g25_0, g25_1, g25_2, g25_3, p25_3, o25, hl26, g27_0, g27_1, p27_1, o27, hl28, g29_0, g29_1, g29_2, g29_3, p29_3, o29, hl30, g31_0, g31_1, g31_2, g31_3, p31_3, o31, hl32, g33_0, g33_1, g33_2, g33_3, g33_4, p33_4, g33_5, p33_5, o33, g34_0, g34_1, p34_1, o34, hl35, g36_0, g36_1, p36_1, o36, hl37, g38_0, g38_1, g38_2, g38_3, o38, g39_0, g39_1, g39_2, g39_3, p39_3, o39, hl40, g41_0, g41_1, g41_2, g41_3, p41_3, o41, hl42, g43_0, g43_1, p43_1, o43, hl44, g45_0, g45_1, g45_2, g45_3, p45_3, o45, hl46, g47_0, g47_1, g47_2, g47_3, p47_3, o47, hl48, g49_0, g49_1, p49_1, g49_2, p49_2, g49_3, g49_4, g49_5, p49_5, g49_6, p49_6, g49_7, p49_7, g49_8, p49_8, g49_9, p49_9, g49_10, p49_10, g49_11, g49_12, p49_12, g49_13, p49_13, o49, g50_0, g50_1, g50_2, g50_3, o50, g51_0, g51_1, g51_2, g51_3, p51_3, o51, hl52, g53_0, g53_1, g53_2, g53_3, p53_3, o53, hl54, g55_0, g55_1, p55_1, o55, hl56, g57_0, g57_1, g57_2, g57_3, p57_3, o57, hl58, g59_0, p59_0, g59_1, p59_1, g59_2, p59_2, g59_3, p59_3, g59_4, p59_4, g59_5, p59_5, o59, g60_0, g60_1, g60_2, g60_3, p60_3, o60, hl61, g62_0, g62_1, p62_1, o62, hl63, g64_0, p64_0, g64_1, p64_1, g64_2, p64_2, g64_3, p64_3, g64_4, p64_4, g64_5, p64_5, o64, g65_0, g65_1, g65_2, g65_3, p65_3, g65_4, p65_4, g65_5, p65_5, g65_6, p65_6, g65_7, p65_7, g65_8, g65_9, g65_10, p65_10, g65_11, g65_12, p65_12, g65_13, p65_13, g65_14, g65_15, p65_15, g65_16, p65_16, g65_17, p65_17, g65_18, p65_18, g65_19, g65_20, p65_20, g65_21, p65_21, g65_22, p65_22, g65_23, p65_23, g65_24, g65_25, p65_25, o65, hl66, hl67, hl68, hl69, hl70, hl71, hl72, hl73, hl74, k66_3285, s66_3285, k66_3286, s66_3286, k66_3287, s66_3287, k66_3288, s66_3288, k66_3289, s66_3289, k66_3290, s66_3290, k66_3291, s66_3291, k66_3292, s66_3292, k66_2484, k69_0, s69_0, k69_1, s69_1, k69_2, s69_2, k69_3, s69_3, k69_4, s69_4, k69_5, s69_5, k68_0, k68_1, k71_0, oa_1, oa_2, oa_3, oa_4, oa_96, oa_768, oa_804, oa_852, oa_2388, oa_2436, oa_2484, oa_2517, ob_1, ob_2, ob_3, ob_4, ob_7, ob_11, ob_12, ob_13, ob_14, oa_0, ob_0, om_3, om_6, om_8, om_14, om_16, om_32, om_3293, oan, omn, inc_n, zne1, zne0, zeq0, zeq1, Bool.not_true, Bool.not_false, q1, q2, q3, q4, g4, u4, g5, updR_s, updR_updR]
  rfl
theorem D_rel1_33 {M : Nat → Int32} (hn : Nums (Dv V 33) np nl nf ng ns nb ne) (h : DevR (Dv V 33) M) : DevR (Dv (cD1_33 V np nl nf ng ns nb ne) 1) M := by
  obtain ⟨⟨h1, k1⟩, ⟨h2, k2⟩, ⟨h3, k3⟩, ⟨h4, k4⟩, ⟨h5, k5⟩, ⟨h6, k6⟩, ⟨h7, k7⟩⟩ := hn
  refine h.k rfl rfl (fun t n ht e b1 b2 b3 => ?_) (fun t c n ht e => ?_)
  · rcases ht with rfl | rfl | rfl
    · rw [h1] at e
      have := nI_inj (by omega) (by omega) e
      subst this
      refine ⟨rfl, fun i hi => ?_⟩
      show va_cpy (V 35) (V 3) 0 0 np i = V 35 i
      rw [pk_cpy_in (by omega) (by omega), Nat.zero_add, Nat.sub_zero]
    · rw [h2] at e
      have := nI_inj (by omega) (by omega) e
      subst this
      refine ⟨rfl, fun i hi => ?_⟩
      show va_cpy (V 37) (V 5) 0 0 nl i = V 37 i
      rw [pk_cpy_in (by omega) (by omega), Nat.zero_add, Nat.sub_zero]
    · rw [h5] at e
      have := nI_inj (by omega) (by omega) e
      subst this
      refine ⟨rfl, fun i hi => ?_⟩
      show va_cpy (V 44) (V 12) 0 0 ns i = V 44 i
      rw [pk_cpy_in (by omega) (by omega), Nat.zero_add, Nat.sub_zero]
  · rcases ht with ⟨rfl, rfl, hb⟩ | ⟨rfl, rfl, hb⟩ | ⟨rfl, rfl, hb⟩ | ⟨rfl, rfl, hb⟩
    · rw [h3] at e
      have := nI_inj (by omega) (by omega) e
      subst this
      refine ⟨rfl, fun i hi => ?_⟩
      show va_cpy (V 40) (V 8) 0 0 (nf * 17) i = V 40 i
      rw [pk_cpy_in (by omega) (by omega), Nat.zero_add, Nat.sub_zero]
    · rw [h4] at e
      have := nI_inj (by omega) (by omega) e
      subst this
      refine ⟨rfl, fun i hi => ?_⟩
      show va_cpy (V 42) (V 10) 0 0 (ng * 3) i = V 42 i
      rw [pk_cpy_in (by omega) (by omega), Nat.zero_add, Nat.sub_zero]
    · rw [h6] at e
      have := nI_inj (by omega) (by omega) e
      subst this
      refine ⟨rfl, fun i hi => ?_⟩
      show va_cpy (V 46) (V 14) 0 0 (nb * 16) i = V 46 i
      rw [pk_cpy_in (by omega) (by omega), Nat.zero_add, Nat.sub_zero]
    · rw [h7] at e
      have := nI_inj (by omega) (by omega) e
      subst this
      refine ⟨rfl, fun i hi => ?_⟩
      show va_cpy (V 48) (V 16) 0 0 (ne * 3) i = V 48 i
      rw [pk_cpy_in (by omega) (by omega), Nat.zero_add, Nat.sub_zero]
theorem D_out1_33 {j : Nat} (h : j < 1 ∨ 17 ≤ j) : cD1_33 V np nl nf ng ns nb ne j = V j := by
  unfold cD1_33 cS6_38 cpT cpX
  simp only [updR]
  repeat rw [if_neg (by omega)]
end Copies
