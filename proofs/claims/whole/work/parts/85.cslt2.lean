/-! PURE 65: slots that come, whole. -/
section Cs2
variable {sa : Nat → Nat} {a : Nat}
theorem cs_j {V : VV} {M : Nat → Int32} {nf ng ns nl h f0 ne : Nat} (hS : ShpR (Dv V 1) M nf ng ns) (h4 : V 4 1 = nI nl) (hnl : nl ≤ 33) (hl : ∀ j, j < nl → V 5 j = M (2484 + j)) (hh : h ≤ 1) (h92 : M 3292 = nI h) (hf : f0 < nf) (e6 : V 8 (f0 * 17 + 6) = 1) (e12 : V 8 (f0 * 17 + 12) = nI f0) (hr : ∀ k, k < nf → V 8 (k * 17) = V 8 (f0 * 17) → V 8 (k * 17 + 1) = V 8 (f0 * 17 + 1) → ∀ b s, V 8 (k * 17 + 2) = nI b → V 8 (k * 17 + 3) = nI s → b + s ≤ 256 → ∀ i, i < s → h + (b + i) / 8 < nl) (hE : EvR V M ne) (hne : ne + 2 * (nf - f0) ≤ 196) : ∃ (V' : VV) (M' : Nat → Int32) (ne' k' : Nat), f0 < k' ∧ k' ≤ nf ∧ f_X0_cutSlots sa [.ref (a + 1), .int (nI f0), .int (nI h)] (hp a V) = some (none, hp a V') ∧ (∀ W : VV, W 66 = M → f_X8_comeSlots sa [.ref (a + 65), .int (nI f0)] (hp a W) = some (none, hp a (updR W 66 M'))) ∧ EvR V' M' ne' ∧ ne ≤ ne' ∧ ne' ≤ ne + 2 * (k' - f0) ∧ (∀ j, f0 ≤ j → j < k' → V 8 (j * 17 + 12) = nI f0 ∧ V 8 (j * 17 + 6) = 1) ∧ (∀ j, j ≠ 8 → j ≠ 15 → j ≠ 16 → V' j = V j) ∧ ShpR (Dv V' 1) M' nf ng ns ∧ (∀ i, i ≠ f0 * 17 + 16 → V' 8 i = V 8 i) ∧ ∀ i, ¬ (2436 ≤ i ∧ i < 2484) → (i < 2517 ∨ (3285 ≤ i ∧ i ≠ 3289)) → M' i = M i := by
  have hS' := hS
  obtain ⟨s1, s2, s3, s4, s5, s6, s7, s8, s9, s10, s11, s12, s13, s14⟩ := hS'
  have s4 : V 7 3 = nI nf := s4
  have s8 : V 11 1 = nI ns := s8
  have hFd : FldR (V 8) (V 12) M ng ns f0 := s9 f0 hf
  obtain ⟨b1, -, -, -, -, -, -, -, -, b10⟩ := hFd
  rcases b10 with ⟨c1, -⟩ | ⟨-, -, it, m, u0, d1, d2, d3, d4, d5, d6, d7, d8, d9, d10⟩
  · rw [e6] at c1
    exact absurd c1 (by decide)
  have hbf : V 8 (f0 * 17 + 16) = M (2436 + it) := d10 f0 (Nat.le_refl _) e12
  have hI0 : InIt (V 8) M f0 it f0 := ⟨e12, e6, d4, rfl, rfl⟩
  obtain ⟨now, k', x5, x6, x7, y5, y6, y7, r1, r2, r3, r4, r5, r6, r7, r8⟩ := pj_l (sa := sa) (a := a) hS h4 hnl hl hh h92 d1 d2 d5 hr FU f0 0 none none none none none none (Nat.le_refl _) (by omega) (by unfold FU; omega) (fun _ => Or.inl ⟨rfl, hI0⟩) (by rw [pcq_0]; omega) (fun j hj e => by rw [bq_0] at e; cases e)
  have hk' : f0 < k' := by
    by_cases e : f0 < k'
    · exact e
    · have : k' = f0 := by omega
      subst this
      exact absurd e12 (r4 hf)
  obtain ⟨pr1, pr2⟩ := s12 f0 hf e6 e12
  have pr1 : pcn (V 8 (f0 * 17 + 16)) 32 ≤ cnt (V 8) f0 nf := pr1
  have pr2 : ∀ k, k < 32 → (V 8 (f0 * 17 + 16) >>> nI k) &&& 1 = 1 → nI k < V 8 (f0 * 17 + 9) := pr2
  have hcnt : cnt (V 8) f0 nf = k' - f0 := by
    rw [cnt_e (k := k') (by omega) (fun j h1 h2 => (r3 j h1 h2).1) nf (fun j hj hc => ?_)]
    · omega
    · rcases hc with hc | hc
      · obtain ⟨-, -, -, -, -, -, -, -, ⟨p, hp1, hp2⟩, -⟩ := s9 j hj
        have hp2 : V 8 (j * 17 + 12) = nI p := hp2
        rw [hp2]
        exact fun e => by
          have := nI_inj (by omega) (by omega) e
          omega
      · have := itm_no (F := V 8) (M := M) (nf := nf) (p := f0) (k := k') s10 s1 hk' r4 (j - k') (by omega)
        rw [show k' + (j - k') = j by omega] at this
        exact this
  rw [hcnt, pcq_e _ 32 (by omega)] at pr1
  have hbb : ∀ j, j < 32 → bq (V 8 (f0 * 17 + 16)) j = true → j < m := fun j hj e => by
    have := pr2 j hj ((bqP _ hj).mpr e)
    have d6 : V 8 (f0 * 17 + 9) = nI m := d6
    rw [d6, ltnI _ (by omega), nI_toInt (by omega)] at this
    omega
  have hand : ∀ (x y : Int32) (j : Nat), j < 32 → bq (o_and x (o_xor y (-1))) j = true → bq x j = true := fun x y j hj e => by
    rw [bq_and] at e
    cases hx : bq x j with
    | true => rfl
    | false =>
      rw [hx, Bool.false_and] at e
      cases e
  have hc1 := pcq_mono (x := o_and (V 8 (f0 * 17 + 16)) (o_xor now (-1))) (y := V 8 (f0 * 17 + 16)) 32 (fun j hj => hand _ _ j hj)
  have hc2 := pcq_mono (x := o_and now (o_xor (V 8 (f0 * 17 + 16)) (-1))) (y := now) 32 (fun j hj => hand _ _ j hj)
  obtain ⟨V1, M1, t1, t2, t3, t4, t5⟩ := ue_j (sa := sa) (a := a) (V := V) (M := M) (n := 0) (x := o_and (V 8 (f0 * 17 + 16)) (o_xor now (-1))) s1 hf s3 d1 d2 d3 s4 d7 s8 d8 d5 (fun j hj e => hbb j hj (hand _ _ j hj e)) hE (by omega)
  obtain ⟨V2, M2, v1, v2, v3, v4, v5⟩ := ue_j (sa := sa) (a := a) (V := V1) (M := M1) (n := 1) (x := o_and now (o_xor (V 8 (f0 * 17 + 16)) (-1))) s1 hf s3 d1 d2 d3 (by rw [t4 7 (by omega) (by omega)]; exact s4) (by rw [t4 8 (by omega) (by omega)]; exact d7) (by rw [t4 11 (by omega) (by omega)]; exact s8) (fun j hj => by rw [t4 12 (by omega) (by omega), t5 _ (by omega)]; exact d8 j hj) (by rw [t5 _ (by omega)]; exact d5) (fun j hj e => r6 j hj (hand _ _ j hj e)) t3 (by omega)
  have w7 : V2 7 3 = nI nf := by rw [v4 7 (by omega) (by omega), t4 7 (by omega) (by omega)]; exact s4
  have w8 : V2 8 = V 8 := by rw [v4 8 (by omega) (by omega), t4 8 (by omega) (by omega)]
  have hV3 : ∀ j, j ≠ 8 → j ≠ 15 → j ≠ 16 → updR V2 8 (upd (V 8) (f0 * 17 + 16) now) j = V j := fun j h1 h2 h3 => by
    rw [updR_n h1, v4 j h2 h3, t4 j h2 h3]
  have hM3 : ∀ i, i ≠ 2436 + it → (i < 2517 ∨ (3285 ≤ i ∧ i ≠ 3289)) → upd M2 (2436 + it) now i = M i := fun i h1 h2 => by
    rw [upd_n h1, v5 i h2, t5 i h2]
  have h83 : ∀ i, i ≠ f0 * 17 + 16 → updR V2 8 (upd (V 8) (f0 * 17 + 16) now) 8 i = V 8 i := fun i hi => by
    rw [updR_s, upd_n hi]
  refine ⟨updR V2 8 (upd (V 8) (f0 * 17 + 16) now), upd M2 (2436 + it) now, ne + pcq (o_and (V 8 (f0 * 17 + 16)) (o_xor now (-1))) 32 + pcq (o_and now (o_xor (V 8 (f0 * 17 + 16)) (-1))) 32, k', hk', r2, ?_, fun W hW => ?_, ?_, by omega, by omega, fun j h1 h2 => ⟨(r3 j h1 h2).1, (r3 j h1 h2).2.1⟩, hV3, ?_, h83, fun i h1 h2 => hM3 i (by omega) h2⟩
  · have hpl : f_X0_pressedInLetter sa [.ref (a + 1), .int (nI f0), .int (nI h)] (hp a V) = some (some (.int now), hp a V) := by
      rw [e_X0_pressedInLetter]; unfold b_X0_pressedInLetter
      simp only [ev_vI0, ev_vJ0, ev_vA0, ev_st1_0, ev_st2_0, ev_vI1, ev_vJ1, ev_vA1, ev_st1_1, ev_st2_1, ev_vI2, ev_vJ2, ev_vA2, ev_st1_2, ev_st2_2, ev_vI3, ev_vJ3, ev_vA3, ev_st1_3, ev_st2_3, ev_vI4, ev_vJ4, ev_vA4, ev_st1_4, ev_st2_4, ev_vI5, ev_vJ5, ev_vA5, ev_st1_5, ev_st2_5, ev_vI6, ev_vJ6, ev_vA6, ev_st1_6, ev_st2_6, ev_vI7, ev_vJ7, ev_vA7, ev_st1_7, ev_st2_7, ev_vI8, ev_vJ8, ev_vA8, ev_st1_8, ev_st2_8, ev_vI9, ev_vJ9, ev_vA9, ev_st1_9, ev_st2_9, ev_vI10, ev_vJ10, ev_vA10, ev_st1_10, ev_st2_10, ev_vI11, ev_vJ11, ev_vA11, ev_st1_11, ev_st2_11, ev_vI12, ev_vJ12, ev_vA12, ev_st1_12, ev_st2_12, ev_kI, ev_kJ, ev_bI, ev_bI1, ev_bI2, ev_bQ, ev_bQ1, ev_bQ2, ev_bJ, ev_bJ1, ev_bJ2, ev_bQJ, ev_bQJ1, ev_bQJ2, ev_uIJ, ev_uIJ1, ev_uJI, ev_uJI1, ev_uJJ, ev_uJJ1, ev_fI, ev_fI1, ev_fI2, ev_fA, ev_fA1, ev_fA2, ev_aI, ev_aI1, ev_aI2, ev_aI3, ev_aN, ev_aN1, ev_aN2, ev_cI, ev_cIt, ev_cIf, ev_qI, ev_qI1, ev_qI2, ev_qJ, ev_qJ1, ev_qJ2, ev_qZ, ev_qZ1, ev_qAnd, ev_qAndt, ev_qAndf, ev_qOr, ev_qOrt, ev_qOrf, ev_qNot, ev_qNot1, ev_qIf, ev_qIft, ev_qIff, ev_aNil, ev_aC, ev_aC1, ev_aC2, ev_unI, ev_unJ, ev_unA, ev_unV, ev_mV, ev_mV1, ev_mV2, ev_mV3, ev_mS, ev_mS1, ev_skip, ev_seq, ev_seq0, ev_seq1, ev_seq2, ev_seqr, ev_sI, ev_sI1, ev_sA, ev_sA1, ev_sJ, ev_sJ1, ev_inc, ev_inc1, ev_kln, ev_kli, ev_klr, ev_klj, ev_G, ev_put, ev_put1, ev_put2, ev_putZ, ev_putZ1, ev_putZ2, ev_ast, ev_ast1, ev_ast2, ev_ast3, ev_astZ, ev_astZ1, ev_astZ2, ev_astZ3, ev_fop, ev_fop1, ev_fop2, ev_fop3, ev_aop, ev_aop1, ev_aop2, ev_aop3, ev_aop4, ev_sV, ev_sV1, ev_pop, ev_pop1, ev_rI, ev_rI1, ev_rJ, ev_rJ1, ev_rA, ev_rA1, ev_rV, ev_brk, ev_cont, ev_sIf, ev_sIft, ev_sIff, ev_sw, ev_sw1, ev_sw0, ev_sw1b, ev_sw2, ev_swr, ev_wh, ev_whf, ev_wht, ev_wh0, ev_wh1, ev_wh2, ev_whr, ev_wh3, ev_mr, ev_mrI, ev_mrJ, ev_mrV, ev_mrA, ev_mrZ1, ev_mrZ0, ev_bs, g0_0, g0_1, g0_2, g0_3, g0_4, g0_5, p0_5, o0, g1_0, g1_1, g1_2, g1_3, g1_4, p1_4, g1_5, p1_5, o1, g2_0, g2_1, p2_1, o2, hl3, g4_0, g4_1, p4_1, o4, hl5, g6_0, g6_1, g6_2, g6_3, o6, g7_0, g7_1, g7_2, g7_3, p7_3, o7, hl8, g9_0, g9_1, g9_2, g9_3, p9_3, o9, hl10, g11_0, g11_1, p11_1, o11, hl12, g13_0, g13_1, g13_2, g13_3, p13_3, o13, hl14, g15_0, g15_1, g15_2, g15_3, p15_3, o15, hl16, g17_0, g17_1, g17_2, g17_3, g17_4, p17_4, g17_5, p17_5, o17, g18_0, g18_1, p18_1, o18, hl19, g20_0, g20_1, p20_1, o20, hl21, g22_0, g22_1, g22_2, g22_3, o22, g23_0, g23_1, g23_2, g23_3, p23_3, o23, hl24, g25_0, g25_1, g25_2, g25_3, p25_3, o25, hl26, g27_0, g27_1, p27_1, o27, hl28, g29_0, g29_1, g29_2, g29_3, p29_3, o29, hl30, g31_0, g31_1, g31_2, g31_3, p31_3, o31, hl32, g33_0, g33_1, g33_2, g33_3, g33_4, p33_4, g33_5, p33_5, o33, g34_0, g34_1, p34_1, o34, hl35, g36_0, g36_1, p36_1, o36, hl37, g38_0, g38_1, g38_2, g38_3, o38, g39_0, g39_1, g39_2, g39_3, p39_3, o39, hl40, g41_0, g41_1, g41_2, g41_3, p41_3, o41, hl42, g43_0, g43_1, p43_1, o43, hl44, g45_0, g45_1, g45_2, g45_3, p45_3, o45, hl46, g47_0, g47_1, g47_2, g47_3, p47_3, o47, hl48, g49_0, g49_1, p49_1, g49_2, p49_2, g49_3, g49_4, g49_5, p49_5, g49_6, p49_6, g49_7, p49_7, g49_8, p49_8, g49_9, p49_9, g49_10, p49_10, g49_11, g49_12, p49_12, g49_13, p49_13, o49, g50_0, g50_1, g50_2, g50_3, o50, g51_0, g51_1, g51_2, g51_3, p51_3, o51, hl52, g53_0, g53_1, g53_2, g53_3, p53_3, o53, hl54, g55_0, g55_1, p55_1, o55, hl56, g57_0, g57_1, g57_2, g57_3, p57_3, o57, hl58, g59_0, p59_0, g59_1, p59_1, g59_2, p59_2, g59_3, p59_3, g59_4, p59_4, g59_5, p59_5, o59, g60_0, g60_1, g60_2, g60_3, p60_3, o60, hl61, g62_0, g62_1, p62_1, o62, hl63, g64_0, p64_0, g64_1, p64_1, g64_2, p64_2, g64_3, p64_3, g64_4, p64_4, g64_5, p64_5, o64, g65_0, g65_1, g65_2, g65_3, p65_3, g65_4, p65_4, g65_5, p65_5, g65_6, p65_6, g65_7, p65_7, g65_8, g65_9, g65_10, p65_10, g65_11, g65_12, p65_12, g65_13, p65_13, g65_14, g65_15, p65_15, g65_16, p65_16, g65_17, p65_17, g65_18, p65_18, g65_19, g65_20, p65_20, g65_21, p65_21, g65_22, p65_22, g65_23, p65_23, g65_24, g65_25, p65_25, o65, hl66, hl67, hl68, hl69, hl70, hl71, hl72, hl73, hl74, k66_3285, s66_3285, k66_3286, s66_3286, k66_3287, s66_3287, k66_3288, s66_3288, k66_3289, s66_3289, k66_3290, s66_3290, k66_3291, s66_3291, k66_3292, s66_3292, k66_2484, k69_0, s69_0, k69_1, s69_1, k69_2, s69_2, k69_3, s69_3, k69_4, s69_4, k69_5, s69_5, k68_0, k68_1, k71_0, oa_1, oa_2, oa_3, oa_4, oa_96, oa_768, oa_804, oa_852, oa_2388, oa_2436, oa_2484, oa_2517, ob_1, ob_2, ob_3, ob_4, ob_7, ob_11, ob_12, ob_13, ob_14, oa_0, ob_0, om_3, om_6, om_8, om_14, om_16, om_32, om_3293, oan, omn, inc_n, zne1, zne0, zeq0, zeq1, Bool.not_true, Bool.not_false, ↓r7]
    have g16 := @cF_16 sa a V nf f0 s4 s1 hf
    have hst : f_X5_set sa [.ref (a + 7), .int (nI f0), .int 16, .int now] (hp a V2) = some (none, hp a (updR V2 8 (upd (V2 8) (f0 * 17 + 16) now))) := T_set (j := 16) isT_7 w7 s1 hf (by omega)
    rw [w8] at hst
    rw [e_X0_cutSlots]; unfold b_X0_cutSlots
    simp only [ev_vI0, ev_vJ0, ev_vA0, ev_st1_0, ev_st2_0, ev_vI1, ev_vJ1, ev_vA1, ev_st1_1, ev_st2_1, ev_vI2, ev_vJ2, ev_vA2, ev_st1_2, ev_st2_2, ev_vI3, ev_vJ3, ev_vA3, ev_st1_3, ev_st2_3, ev_vI4, ev_vJ4, ev_vA4, ev_st1_4, ev_st2_4, ev_vI5, ev_vJ5, ev_vA5, ev_st1_5, ev_st2_5, ev_vI6, ev_vJ6, ev_vA6, ev_st1_6, ev_st2_6, ev_vI7, ev_vJ7, ev_vA7, ev_st1_7, ev_st2_7, ev_vI8, ev_vJ8, ev_vA8, ev_st1_8, ev_st2_8, ev_vI9, ev_vJ9, ev_vA9, ev_st1_9, ev_st2_9, ev_vI10, ev_vJ10, ev_vA10, ev_st1_10, ev_st2_10, ev_vI11, ev_vJ11, ev_vA11, ev_st1_11, ev_st2_11, ev_vI12, ev_vJ12, ev_vA12, ev_st1_12, ev_st2_12, ev_kI, ev_kJ, ev_bI, ev_bI1, ev_bI2, ev_bQ, ev_bQ1, ev_bQ2, ev_bJ, ev_bJ1, ev_bJ2, ev_bQJ, ev_bQJ1, ev_bQJ2, ev_uIJ, ev_uIJ1, ev_uJI, ev_uJI1, ev_uJJ, ev_uJJ1, ev_fI, ev_fI1, ev_fI2, ev_fA, ev_fA1, ev_fA2, ev_aI, ev_aI1, ev_aI2, ev_aI3, ev_aN, ev_aN1, ev_aN2, ev_cI, ev_cIt, ev_cIf, ev_qI, ev_qI1, ev_qI2, ev_qJ, ev_qJ1, ev_qJ2, ev_qZ, ev_qZ1, ev_qAnd, ev_qAndt, ev_qAndf, ev_qOr, ev_qOrt, ev_qOrf, ev_qNot, ev_qNot1, ev_qIf, ev_qIft, ev_qIff, ev_aNil, ev_aC, ev_aC1, ev_aC2, ev_unI, ev_unJ, ev_unA, ev_unV, ev_mV, ev_mV1, ev_mV2, ev_mV3, ev_mS, ev_mS1, ev_skip, ev_seq, ev_seq0, ev_seq1, ev_seq2, ev_seqr, ev_sI, ev_sI1, ev_sA, ev_sA1, ev_sJ, ev_sJ1, ev_inc, ev_inc1, ev_kln, ev_kli, ev_klr, ev_klj, ev_G, ev_put, ev_put1, ev_put2, ev_putZ, ev_putZ1, ev_putZ2, ev_ast, ev_ast1, ev_ast2, ev_ast3, ev_astZ, ev_astZ1, ev_astZ2, ev_astZ3, ev_fop, ev_fop1, ev_fop2, ev_fop3, ev_aop, ev_aop1, ev_aop2, ev_aop3, ev_aop4, ev_sV, ev_sV1, ev_pop, ev_pop1, ev_rI, ev_rI1, ev_rJ, ev_rJ1, ev_rA, ev_rA1, ev_rV, ev_brk, ev_cont, ev_sIf, ev_sIft, ev_sIff, ev_sw, ev_sw1, ev_sw0, ev_sw1b, ev_sw2, ev_swr, ev_wh, ev_whf, ev_wht, ev_wh0, ev_wh1, ev_wh2, ev_whr, ev_wh3, ev_mr, ev_mrI, ev_mrJ, ev_mrV, ev_mrA, ev_mrZ1, ev_mrZ0, ev_bs, g0_0, g0_1, g0_2, g0_3, g0_4, g0_5, p0_5, o0, g1_0, g1_1, g1_2, g1_3, g1_4, p1_4, g1_5, p1_5, o1, g2_0, g2_1, p2_1, o2, hl3, g4_0, g4_1, p4_1, o4, hl5, g6_0, g6_1, g6_2, g6_3, o6, g7_0, g7_1, g7_2, g7_3, p7_3, o7, hl8, g9_0, g9_1, g9_2, g9_3, p9_3, o9, hl10, g11_0, g11_1, p11_1, o11, hl12, g13_0, g13_1, g13_2, g13_3, p13_3, o13, hl14, g15_0, g15_1, g15_2, g15_3, p15_3, o15, hl16, g17_0, g17_1, g17_2, g17_3, g17_4, p17_4, g17_5, p17_5, o17, g18_0, g18_1, p18_1, o18, hl19, g20_0, g20_1, p20_1, o20, hl21, g22_0, g22_1, g22_2, g22_3, o22, g23_0, g23_1, g23_2, g23_3, p23_3, o23, hl24, g25_0, g25_1, g25_2, g25_3, p25_3, o25, hl26, g27_0, g27_1, p27_1, o27, hl28, g29_0, g29_1, g29_2, g29_3, p29_3, o29, hl30, g31_0, g31_1, g31_2, g31_3, p31_3, o31, hl32, g33_0, g33_1, g33_2, g33_3, g33_4, p33_4, g33_5, p33_5, o33, g34_0, g34_1, p34_1, o34, hl35, g36_0, g36_1, p36_1, o36, hl37, g38_0, g38_1, g38_2, g38_3, o38, g39_0, g39_1, g39_2, g39_3, p39_3, o39, hl40, g41_0, g41_1, g41_2, g41_3, p41_3, o41, hl42, g43_0, g43_1, p43_1, o43, hl44, g45_0, g45_1, g45_2, g45_3, p45_3, o45, hl46, g47_0, g47_1, g47_2, g47_3, p47_3, o47, hl48, g49_0, g49_1, p49_1, g49_2, p49_2, g49_3, g49_4, g49_5, p49_5, g49_6, p49_6, g49_7, p49_7, g49_8, p49_8, g49_9, p49_9, g49_10, p49_10, g49_11, g49_12, p49_12, g49_13, p49_13, o49, g50_0, g50_1, g50_2, g50_3, o50, g51_0, g51_1, g51_2, g51_3, p51_3, o51, hl52, g53_0, g53_1, g53_2, g53_3, p53_3, o53, hl54, g55_0, g55_1, p55_1, o55, hl56, g57_0, g57_1, g57_2, g57_3, p57_3, o57, hl58, g59_0, p59_0, g59_1, p59_1, g59_2, p59_2, g59_3, p59_3, g59_4, p59_4, g59_5, p59_5, o59, g60_0, g60_1, g60_2, g60_3, p60_3, o60, hl61, g62_0, g62_1, p62_1, o62, hl63, g64_0, p64_0, g64_1, p64_1, g64_2, p64_2, g64_3, p64_3, g64_4, p64_4, g64_5, p64_5, o64, g65_0, g65_1, g65_2, g65_3, p65_3, g65_4, p65_4, g65_5, p65_5, g65_6, p65_6, g65_7, p65_7, g65_8, g65_9, g65_10, p65_10, g65_11, g65_12, p65_12, g65_13, p65_13, g65_14, g65_15, p65_15, g65_16, p65_16, g65_17, p65_17, g65_18, p65_18, g65_19, g65_20, p65_20, g65_21, p65_21, g65_22, p65_22, g65_23, p65_23, g65_24, g65_25, p65_25, o65, hl66, hl67, hl68, hl69, hl70, hl71, hl72, hl73, hl74, k66_3285, s66_3285, k66_3286, s66_3286, k66_3287, s66_3287, k66_3288, s66_3288, k66_3289, s66_3289, k66_3290, s66_3290, k66_3291, s66_3291, k66_3292, s66_3292, k66_2484, k69_0, s69_0, k69_1, s69_1, k69_2, s69_2, k69_3, s69_3, k69_4, s69_4, k69_5, s69_5, k68_0, k68_1, k71_0, oa_1, oa_2, oa_3, oa_4, oa_96, oa_768, oa_804, oa_852, oa_2388, oa_2436, oa_2484, oa_2517, ob_1, ob_2, ob_3, ob_4, ob_7, ob_11, ob_12, ob_13, ob_14, oa_0, ob_0, om_3, om_6, om_8, om_14, om_16, om_32, om_3293, oan, omn, inc_n, zne1, zne0, zeq0, zeq1, Bool.not_true, Bool.not_false, g16, hpl, t1, v1, hst]
  · have g9 := @mF_9 sa a W f0 (by omega)
    rw [hW, d4] at g9
    have q1 := r8 W hW
    have q2 := t2 W hW
    have q3 := v2 (updR W 66 M1) updR_s
    rw [updR_updR] at q3
    have g36 : getA (hp a W) false (a + 66) (nI (2436 + it)) = some (V 8 (f0 * 17 + 16)) := by
      rw [ga66n (m := 2436 + it) (by omega), hW, hbf]
    rw [e_X8_comeSlots]; unfold b_X8_comeSlots
    simp only [ev_vI0, ev_vJ0, ev_vA0, ev_st1_0, ev_st2_0, ev_vI1, ev_vJ1, ev_vA1, ev_st1_1, ev_st2_1, ev_vI2, ev_vJ2, ev_vA2, ev_st1_2, ev_st2_2, ev_vI3, ev_vJ3, ev_vA3, ev_st1_3, ev_st2_3, ev_vI4, ev_vJ4, ev_vA4, ev_st1_4, ev_st2_4, ev_vI5, ev_vJ5, ev_vA5, ev_st1_5, ev_st2_5, ev_vI6, ev_vJ6, ev_vA6, ev_st1_6, ev_st2_6, ev_vI7, ev_vJ7, ev_vA7, ev_st1_7, ev_st2_7, ev_vI8, ev_vJ8, ev_vA8, ev_st1_8, ev_st2_8, ev_vI9, ev_vJ9, ev_vA9, ev_st1_9, ev_st2_9, ev_vI10, ev_vJ10, ev_vA10, ev_st1_10, ev_st2_10, ev_vI11, ev_vJ11, ev_vA11, ev_st1_11, ev_st2_11, ev_vI12, ev_vJ12, ev_vA12, ev_st1_12, ev_st2_12, ev_kI, ev_kJ, ev_bI, ev_bI1, ev_bI2, ev_bQ, ev_bQ1, ev_bQ2, ev_bJ, ev_bJ1, ev_bJ2, ev_bQJ, ev_bQJ1, ev_bQJ2, ev_uIJ, ev_uIJ1, ev_uJI, ev_uJI1, ev_uJJ, ev_uJJ1, ev_fI, ev_fI1, ev_fI2, ev_fA, ev_fA1, ev_fA2, ev_aI, ev_aI1, ev_aI2, ev_aI3, ev_aN, ev_aN1, ev_aN2, ev_cI, ev_cIt, ev_cIf, ev_qI, ev_qI1, ev_qI2, ev_qJ, ev_qJ1, ev_qJ2, ev_qZ, ev_qZ1, ev_qAnd, ev_qAndt, ev_qAndf, ev_qOr, ev_qOrt, ev_qOrf, ev_qNot, ev_qNot1, ev_qIf, ev_qIft, ev_qIff, ev_aNil, ev_aC, ev_aC1, ev_aC2, ev_unI, ev_unJ, ev_unA, ev_unV, ev_mV, ev_mV1, ev_mV2, ev_mV3, ev_mS, ev_mS1, ev_skip, ev_seq, ev_seq0, ev_seq1, ev_seq2, ev_seqr, ev_sI, ev_sI1, ev_sA, ev_sA1, ev_sJ, ev_sJ1, ev_inc, ev_inc1, ev_kln, ev_kli, ev_klr, ev_klj, ev_G, ev_put, ev_put1, ev_put2, ev_putZ, ev_putZ1, ev_putZ2, ev_ast, ev_ast1, ev_ast2, ev_ast3, ev_astZ, ev_astZ1, ev_astZ2, ev_astZ3, ev_fop, ev_fop1, ev_fop2, ev_fop3, ev_aop, ev_aop1, ev_aop2, ev_aop3, ev_aop4, ev_sV, ev_sV1, ev_pop, ev_pop1, ev_rI, ev_rI1, ev_rJ, ev_rJ1, ev_rA, ev_rA1, ev_rV, ev_brk, ev_cont, ev_sIf, ev_sIft, ev_sIff, ev_sw, ev_sw1, ev_sw0, ev_sw1b, ev_sw2, ev_swr, ev_wh, ev_whf, ev_wht, ev_wh0, ev_wh1, ev_wh2, ev_whr, ev_wh3, ev_mr, ev_mrI, ev_mrJ, ev_mrV, ev_mrA, ev_mrZ1, ev_mrZ0, ev_bs, g0_0, g0_1, g0_2, g0_3, g0_4, g0_5, p0_5, o0, g1_0, g1_1, g1_2, g1_3, g1_4, p1_4, g1_5, p1_5, o1, g2_0, g2_1, p2_1, o2, hl3, g4_0, g4_1, p4_1, o4, hl5, g6_0, g6_1, g6_2, g6_3, o6, g7_0, g7_1, g7_2, g7_3, p7_3, o7, hl8, g9_0, g9_1, g9_2, g9_3, p9_3, o9, hl10, g11_0, g11_1, p11_1, o11, hl12, g13_0, g13_1, g13_2, g13_3, p13_3, o13, hl14, g15_0, g15_1, g15_2, g15_3, p15_3, o15, hl16, g17_0, g17_1, g17_2, g17_3, g17_4, p17_4, g17_5, p17_5, o17, g18_0, g18_1, p18_1, o18, hl19, g20_0, g20_1, p20_1, o20, hl21, g22_0, g22_1, g22_2, g22_3, o22, g23_0, g23_1, g23_2, g23_3, p23_3, o23, hl24, g25_0, g25_1, g25_2, g25_3, p25_3, o25, hl26, g27_0, g27_1, p27_1, o27, hl28, g29_0, g29_1, g29_2, g29_3, p29_3, o29, hl30, g31_0, g31_1, g31_2, g31_3, p31_3, o31, hl32, g33_0, g33_1, g33_2, g33_3, g33_4, p33_4, g33_5, p33_5, o33, g34_0, g34_1, p34_1, o34, hl35, g36_0, g36_1, p36_1, o36, hl37, g38_0, g38_1, g38_2, g38_3, o38, g39_0, g39_1, g39_2, g39_3, p39_3, o39, hl40, g41_0, g41_1, g41_2, g41_3, p41_3, o41, hl42, g43_0, g43_1, p43_1, o43, hl44, g45_0, g45_1, g45_2, g45_3, p45_3, o45, hl46, g47_0, g47_1, g47_2, g47_3, p47_3, o47, hl48, g49_0, g49_1, p49_1, g49_2, p49_2, g49_3, g49_4, g49_5, p49_5, g49_6, p49_6, g49_7, p49_7, g49_8, p49_8, g49_9, p49_9, g49_10, p49_10, g49_11, g49_12, p49_12, g49_13, p49_13, o49, g50_0, g50_1, g50_2, g50_3, o50, g51_0, g51_1, g51_2, g51_3, p51_3, o51, hl52, g53_0, g53_1, g53_2, g53_3, p53_3, o53, hl54, g55_0, g55_1, p55_1, o55, hl56, g57_0, g57_1, g57_2, g57_3, p57_3, o57, hl58, g59_0, p59_0, g59_1, p59_1, g59_2, p59_2, g59_3, p59_3, g59_4, p59_4, g59_5, p59_5, o59, g60_0, g60_1, g60_2, g60_3, p60_3, o60, hl61, g62_0, g62_1, p62_1, o62, hl63, g64_0, p64_0, g64_1, p64_1, g64_2, p64_2, g64_3, p64_3, g64_4, p64_4, g64_5, p64_5, o64, g65_0, g65_1, g65_2, g65_3, p65_3, g65_4, p65_4, g65_5, p65_5, g65_6, p65_6, g65_7, p65_7, g65_8, g65_9, g65_10, p65_10, g65_11, g65_12, p65_12, g65_13, p65_13, g65_14, g65_15, p65_15, g65_16, p65_16, g65_17, p65_17, g65_18, p65_18, g65_19, g65_20, p65_20, g65_21, p65_21, g65_22, p65_22, g65_23, p65_23, g65_24, g65_25, p65_25, o65, hl66, hl67, hl68, hl69, hl70, hl71, hl72, hl73, hl74, k66_3285, s66_3285, k66_3286, s66_3286, k66_3287, s66_3287, k66_3288, s66_3288, k66_3289, s66_3289, k66_3290, s66_3290, k66_3291, s66_3291, k66_3292, s66_3292, k66_2484, k69_0, s69_0, k69_1, s69_1, k69_2, s69_2, k69_3, s69_3, k69_4, s69_4, k69_5, s69_5, k68_0, k68_1, k71_0, oa_1, oa_2, oa_3, oa_4, oa_96, oa_768, oa_804, oa_852, oa_2388, oa_2436, oa_2484, oa_2517, ob_1, ob_2, ob_3, ob_4, ob_7, ob_11, ob_12, ob_13, ob_14, oa_0, ob_0, om_3, om_6, om_8, om_14, om_16, om_32, om_3293, oan, omn, inc_n, zne1, zne0, zeq0, zeq1, Bool.not_true, Bool.not_false, updR_n, updR_s, upd_n, upd_s, ne_eq, not_false_eq_true, Nat.reduceEqDiff, g9, ↓q1, g36, q2, q3, sa66n (m := 2436 + it) (by omega), updR_updR]
  · obtain ⟨z1, z2, z3⟩ := v3
    exact ⟨z1, by rw [upd_n (by omega)]; exact z2, fun i hi => by rw [upd_n (by omega)]; exact z3 i hi⟩
  · refine hS.u (fun j h1 h2 => hV3 (1 + j) (by omega) (by omega) (by omega)) (fun f k h1 h2 => h83 _ (by omega)) (fun i h1 h2 _ => hM3 i (by omega) (by omega)) ⟨hM3 _ (by omega) (by omega), hM3 _ (by omega) (by omega), hM3 _ (by omega) (by omega)⟩ (fun f h1 => ?_) (fun f h1 => ?_) (fun f it' p h1 h2 h3 h5 h6 h7 => ?_) (fun f h1 h2 h3 => ?_)
    · rw [show Dv (updR V2 8 (upd (V 8) (f0 * 17 + 16) now)) 1 7 (f * 17 + 14) = V 8 (f * 17 + 14) from h83 _ (by omega), hM3 _ (by omega) (by omega)]
      exact (s9 f h1).2.2.1
    · rw [show Dv (updR V2 8 (upd (V 8) (f0 * 17 + 16) now)) 1 7 (f * 17 + 15) = V 8 (f * 17 + 15) from h83 _ (by omega), hM3 _ (by omega) (by omega)]
      exact (s9 f h1).2.2.2.1
    · show updR V2 8 (upd (V 8) (f0 * 17 + 16) now) 8 (p * 17 + 16) = _
      have h2 : V 8 (f * 17 + 6) = 1 := h2
      have h5 : V 8 (f * 17 + 12) = nI p := h5
      by_cases hie : it' = it
      · subst hie
        have hpf : V 8 (f * 17 + 12) = V 8 (f0 * 17 + 12) := by
          rcases Nat.lt_trichotomy f f0 with e | e | e
          · exact ((s10 f0 hf).2.2 f e e6 h2 (d4.trans h6.symm)).symm
          · rw [e]
          · exact (s10 f h1).2.2 f0 e h2 e6 (h6.trans d4.symm)
        rw [h5, e12] at hpf
        have := nI_inj (by omega) (by omega) hpf
        subst this
        rw [updR_s, upd_s, upd_s]
      · have hpn : p ≠ f0 := fun e => by
          subst e
          have := itm_it (F := V 8) (M := M) (nf := nf) (p := p) s10 s1 (f - p) (by omega) (by rw [show p + (f - p) = f by omega]; exact h5)
          rw [show p + (f - p) = f by omega, h6, d4] at this
          exact hie (nI_inj (by omega) (by omega) this)
        rw [h83 _ (by omega), hM3 _ (by omega) (by omega)]
        obtain ⟨-, -, -, -, -, -, -, -, -, b10⟩ := s9 f h1
        rcases b10 with ⟨c1, -⟩ | ⟨-, -, it2, m2, u2, g1, g2, g3, g4, g5, g6, g7, g8, g9, g10⟩
        · have c1 : V 8 (f * 17 + 6) = 0 := c1
          rw [h2] at c1
          exact absurd c1 (by decide)
        · have : it2 = it' := nI_inj (by omega) (by omega) (g4.symm.trans h6)
          subst this
          exact g10 p h3 h5
    · have h2 : updR V2 8 (upd (V 8) (f0 * 17 + 16) now) 8 (f * 17 + 6) = 1 := h2
      have h3 : updR V2 8 (upd (V 8) (f0 * 17 + 16) now) 8 (f * 17 + 12) = nI f := h3
      rw [h83 _ (by omega)] at h2 h3
      have hcc : cnt (updR V2 8 (upd (V 8) (f0 * 17 + 16) now) 8) f nf = cnt (V 8) f nf := cnt_c nf (fun j hj => h83 _ (by omega))
      show pcn (updR V2 8 (upd (V 8) (f0 * 17 + 16) now) 8 (f * 17 + 16)) 32 ≤ cnt (updR V2 8 (upd (V 8) (f0 * 17 + 16) now) 8) f nf ∧ ∀ k, k < 32 → (updR V2 8 (upd (V 8) (f0 * 17 + 16) now) 8 (f * 17 + 16) >>> nI k) &&& 1 = 1 → nI k < updR V2 8 (upd (V 8) (f0 * 17 + 16) now) 8 (f * 17 + 9)
      rw [hcc, h83 (f * 17 + 9) (by omega)]
      by_cases hff : f = f0
      · subst hff
        rw [hcnt, updR_s, upd_s, pcq_e _ 32 (by omega)]
        refine ⟨r5, fun k hk e => ?_⟩
        have := r6 k hk ((bqP _ hk).mp e)
        have d6 : V 8 (f * 17 + 9) = nI m := d6
        rw [d6]
        exact nI_lt this (by omega)
      · rw [h83 (f * 17 + 16) (by omega)]
        exact s12 f h1 h2 h3
end Cs2
