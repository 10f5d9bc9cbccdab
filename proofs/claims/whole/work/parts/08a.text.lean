theorem wt_12 : Cond.initialized "java/lang/String" ∈ lw_g := mem_t 12 (by decide +kernel) rfl
theorem wt_13 : Cond.initialized "java/lang/StringLatin1" ∈ lw_g := mem_t 13 (by decide +kernel) rfl
theorem wt_14 : Cond.initialized "jdk/internal/util/Preconditions" ∈ lw_g := mem_t 14 (by decide +kernel) rfl
theorem wt_523 : Cond.instanceMethod yJ0_length_8abf5 ∈ lw_g := mem_t 523 (by decide +kernel) rfl
theorem wt_524 : Cond.selects RJ0 yJ0_length_8abf5 yJ0_length_8abf5 ∈ lw_g := mem_t 524 (by decide +kernel) rfl
theorem wt_525 : Cond.code yJ0_length_8abf5 cJ0_length_8abf5 1 (some .int) ∈ lw_g := mem_t 525 (by decide +kernel) rfl
theorem wt_526 : Cond.methodLink RJ0 335 yJ0_coder_7d493 ∈ lw_g := mem_t 526 (by decide +kernel) rfl
theorem wt_527 : Cond.instanceMethod yJ0_coder_7d493 ∈ lw_g := mem_t 527 (by decide +kernel) rfl
theorem wt_528 : Cond.selects RJ0 yJ0_coder_7d493 yJ0_coder_7d493 ∈ lw_g := mem_t 528 (by decide +kernel) rfl
theorem wt_529 : Cond.code yJ0_coder_7d493 cJ0_coder_7d493 1 (some .byte) ∈ lw_g := mem_t 529 (by decide +kernel) rfl
theorem wt_530 : Cond.fieldLink RJ0 38 "java/lang/String" "COMPACT_STRINGS" "Z" ∈ lw_g := mem_t 530 (by decide +kernel) rfl
theorem wt_550 : Cond.instanceMethod yJ0_charAt_5068e ∈ lw_g := mem_t 550 (by decide +kernel) rfl
theorem wt_551 : Cond.selects RJ0 yJ0_charAt_5068e yJ0_charAt_5068e ∈ lw_g := mem_t 551 (by decide +kernel) rfl
theorem wt_552 : Cond.code yJ0_charAt_5068e cJ0_charAt_5068e 2 (some .char) ∈ lw_g := mem_t 552 (by decide +kernel) rfl
theorem wt_553 : Cond.methodLink RJ0 492 yJ0_isLatin1_aae02 ∈ lw_g := mem_t 553 (by decide +kernel) rfl
theorem wt_554 : Cond.instanceMethod yJ0_isLatin1_aae02 ∈ lw_g := mem_t 554 (by decide +kernel) rfl
theorem wt_555 : Cond.selects RJ0 yJ0_isLatin1_aae02 yJ0_isLatin1_aae02 ∈ lw_g := mem_t 555 (by decide +kernel) rfl
theorem wt_556 : Cond.code yJ0_isLatin1_aae02 cJ0_isLatin1_aae02 1 (some .boolean) ∈ lw_g := mem_t 556 (by decide +kernel) rfl
theorem wt_557 : Cond.methodLink RJ0 495 yJ1_charAt_3b067 ∈ lw_g := mem_t 557 (by decide +kernel) rfl
theorem wt_558 : Cond.static yJ1_charAt_3b067 ∈ lw_g := mem_t 558 (by decide +kernel) rfl
theorem wt_559 : Cond.code yJ1_charAt_3b067 cJ1_charAt_3b067 2 (some .char) ∈ lw_g := mem_t 559 (by decide +kernel) rfl
theorem wt_560 : Cond.methodLink RJ1 9 yJ0_checkIndex_df160 ∈ lw_g := mem_t 560 (by decide +kernel) rfl
theorem wt_561 : Cond.static yJ0_checkIndex_df160 ∈ lw_g := mem_t 561 (by decide +kernel) rfl
theorem wt_562 : Cond.code yJ0_checkIndex_df160 cJ0_checkIndex_df160 2 none ∈ lw_g := mem_t 562 (by decide +kernel) rfl
theorem wt_563 : Cond.fieldLink RJ0 1053 "jdk/internal/util/Preconditions" "SIOOBE_FORMATTER" "Ljava/util/function/BiFunction;" ∈ lw_g := mem_t 563 (by decide +kernel) rfl
theorem wt_565 : Cond.methodLink RJ0 1059 yJ3_checkIndex_8e157 ∈ lw_g := mem_t 565 (by decide +kernel) rfl
theorem wt_566 : Cond.static yJ3_checkIndex_8e157 ∈ lw_g := mem_t 566 (by decide +kernel) rfl
theorem wt_567 : Cond.code yJ3_checkIndex_8e157 cJ3_checkIndex_8e157 3 (some .int) ∈ lw_g := mem_t 567 (by decide +kernel) rfl
theorem wt_1074 : Cond.fieldLink RJ0 9 "java/lang/String" "value" "[B" ∈ lw_g := mem_t 1074 (by decide +kernel) rfl
theorem wt_1075 : Cond.fieldLink RJ0 15 "java/lang/String" "coder" "B" ∈ lw_g := mem_t 1075 (by decide +kernel) rfl
theorem dJ0_length_8abf5_0 : decode cJ0_length_8abf5 0 = .ok (.aload_n 0, 1) := by decide +kernel
theorem dJ0_length_8abf5_1 : decode cJ0_length_8abf5 1 = .ok (.getfield 9, 3) := by decide +kernel
theorem dJ0_length_8abf5_4 : decode cJ0_length_8abf5 4 = .ok (.arraylength, 1) := by decide +kernel
theorem dJ0_length_8abf5_5 : decode cJ0_length_8abf5 5 = .ok (.aload_n 0, 1) := by decide +kernel
theorem dJ0_length_8abf5_6 : decode cJ0_length_8abf5 6 = .ok (.invokevirtual 335, 3) := by decide +kernel
theorem dJ0_length_8abf5_9 : decode cJ0_length_8abf5 9 = .ok (.ishr, 1) := by decide +kernel
theorem dJ0_length_8abf5_10 : decode cJ0_length_8abf5 10 = .ok (.ireturn, 1) := by decide +kernel
theorem dJ0_charAt_5068e_0 : decode cJ0_charAt_5068e 0 = .ok (.aload_n 0, 1) := by decide +kernel
theorem dJ0_charAt_5068e_1 : decode cJ0_charAt_5068e 1 = .ok (.invokevirtual 492, 3) := by decide +kernel
theorem dJ0_charAt_5068e_4 : decode cJ0_charAt_5068e 4 = .ok (.ifCond .eq 12, 3) := by decide +kernel
theorem dJ0_charAt_5068e_7 : decode cJ0_charAt_5068e 7 = .ok (.aload_n 0, 1) := by decide +kernel
theorem dJ0_charAt_5068e_8 : decode cJ0_charAt_5068e 8 = .ok (.getfield 9, 3) := by decide +kernel
theorem dJ0_charAt_5068e_11 : decode cJ0_charAt_5068e 11 = .ok (.iload_n 1, 1) := by decide +kernel
theorem dJ0_charAt_5068e_12 : decode cJ0_charAt_5068e 12 = .ok (.invokestatic 495, 3) := by decide +kernel
theorem dJ0_charAt_5068e_15 : decode cJ0_charAt_5068e 15 = .ok (.ireturn, 1) := by decide +kernel
theorem dJ0_charAt_5068e_16 : decode cJ0_charAt_5068e 16 = .ok (.aload_n 0, 1) := by decide +kernel
theorem dJ0_charAt_5068e_17 : decode cJ0_charAt_5068e 17 = .ok (.getfield 9, 3) := by decide +kernel
theorem dJ0_charAt_5068e_20 : decode cJ0_charAt_5068e 20 = .ok (.iload_n 1, 1) := by decide +kernel
theorem dJ0_charAt_5068e_21 : decode cJ0_charAt_5068e 21 = .ok (.invokestatic 498, 3) := by decide +kernel
theorem dJ0_charAt_5068e_24 : decode cJ0_charAt_5068e 24 = .ok (.ireturn, 1) := by decide +kernel
theorem dJ0_coder_7d493_0 : decode cJ0_coder_7d493 0 = .ok (.getstatic 38, 3) := by decide +kernel
theorem dJ0_coder_7d493_3 : decode cJ0_coder_7d493 3 = .ok (.ifCond .eq 10, 3) := by decide +kernel
theorem dJ0_coder_7d493_6 : decode cJ0_coder_7d493 6 = .ok (.aload_n 0, 1) := by decide +kernel
theorem dJ0_coder_7d493_7 : decode cJ0_coder_7d493 7 = .ok (.getfield 15, 3) := by decide +kernel
theorem dJ0_coder_7d493_10 : decode cJ0_coder_7d493 10 = .ok (.goto 4, 3) := by decide +kernel
theorem dJ0_coder_7d493_13 : decode cJ0_coder_7d493 13 = .ok (.iconst 1, 1) := by decide +kernel
theorem dJ0_coder_7d493_14 : decode cJ0_coder_7d493 14 = .ok (.ireturn, 1) := by decide +kernel
theorem dJ0_isLatin1_aae02_0 : decode cJ0_isLatin1_aae02 0 = .ok (.getstatic 38, 3) := by decide +kernel
theorem dJ0_isLatin1_aae02_3 : decode cJ0_isLatin1_aae02 3 = .ok (.ifCond .eq 14, 3) := by decide +kernel
theorem dJ0_isLatin1_aae02_6 : decode cJ0_isLatin1_aae02 6 = .ok (.aload_n 0, 1) := by decide +kernel
theorem dJ0_isLatin1_aae02_7 : decode cJ0_isLatin1_aae02 7 = .ok (.getfield 15, 3) := by decide +kernel
theorem dJ0_isLatin1_aae02_10 : decode cJ0_isLatin1_aae02 10 = .ok (.ifCond .ne 7, 3) := by decide +kernel
theorem dJ0_isLatin1_aae02_13 : decode cJ0_isLatin1_aae02 13 = .ok (.iconst 1, 1) := by decide +kernel
theorem dJ0_isLatin1_aae02_14 : decode cJ0_isLatin1_aae02 14 = .ok (.goto 4, 3) := by decide +kernel
theorem dJ0_isLatin1_aae02_17 : decode cJ0_isLatin1_aae02 17 = .ok (.iconst 0, 1) := by decide +kernel
theorem dJ0_isLatin1_aae02_18 : decode cJ0_isLatin1_aae02 18 = .ok (.ireturn, 1) := by decide +kernel
theorem dJ0_checkIndex_df160_0 : decode cJ0_checkIndex_df160 0 = .ok (.iload_n 0, 1) := by decide +kernel
theorem dJ0_checkIndex_df160_1 : decode cJ0_checkIndex_df160 1 = .ok (.iload_n 1, 1) := by decide +kernel
theorem dJ0_checkIndex_df160_2 : decode cJ0_checkIndex_df160 2 = .ok (.getstatic 1053, 3) := by decide +kernel
theorem dJ0_checkIndex_df160_5 : decode cJ0_checkIndex_df160 5 = .ok (.invokestatic 1059, 3) := by decide +kernel
theorem dJ0_checkIndex_df160_8 : decode cJ0_checkIndex_df160 8 = .ok (.pop, 1) := by decide +kernel
theorem dJ0_checkIndex_df160_9 : decode cJ0_checkIndex_df160 9 = .ok (.return_, 1) := by decide +kernel
theorem dJ1_charAt_3b067_0 : decode cJ1_charAt_3b067 0 = .ok (.iload_n 1, 1) := by decide +kernel
theorem dJ1_charAt_3b067_1 : decode cJ1_charAt_3b067 1 = .ok (.aload_n 0, 1) := by decide +kernel
theorem dJ1_charAt_3b067_2 : decode cJ1_charAt_3b067 2 = .ok (.arraylength, 1) := by decide +kernel
theorem dJ1_charAt_3b067_3 : decode cJ1_charAt_3b067 3 = .ok (.invokestatic 9, 3) := by decide +kernel
theorem dJ1_charAt_3b067_6 : decode cJ1_charAt_3b067 6 = .ok (.aload_n 0, 1) := by decide +kernel
theorem dJ1_charAt_3b067_7 : decode cJ1_charAt_3b067 7 = .ok (.iload_n 1, 1) := by decide +kernel
theorem dJ1_charAt_3b067_8 : decode cJ1_charAt_3b067 8 = .ok (.baload, 1) := by decide +kernel
theorem dJ1_charAt_3b067_9 : decode cJ1_charAt_3b067 9 = .ok (.sipush 255, 3) := by decide +kernel
theorem dJ1_charAt_3b067_12 : decode cJ1_charAt_3b067 12 = .ok (.iand, 1) := by decide +kernel
theorem dJ1_charAt_3b067_13 : decode cJ1_charAt_3b067 13 = .ok (.i2c, 1) := by decide +kernel
theorem dJ1_charAt_3b067_14 : decode cJ1_charAt_3b067 14 = .ok (.ireturn, 1) := by decide +kernel
theorem dJ3_checkIndex_8e157_0 : decode cJ3_checkIndex_8e157 0 = .ok (.iload_n 0, 1) := by decide +kernel
theorem dJ3_checkIndex_8e157_1 : decode cJ3_checkIndex_8e157 1 = .ok (.ifCond .lt 8, 3) := by decide +kernel
theorem dJ3_checkIndex_8e157_4 : decode cJ3_checkIndex_8e157 4 = .ok (.iload_n 0, 1) := by decide +kernel
theorem dJ3_checkIndex_8e157_5 : decode cJ3_checkIndex_8e157 5 = .ok (.iload_n 1, 1) := by decide +kernel
theorem dJ3_checkIndex_8e157_6 : decode cJ3_checkIndex_8e157 6 = .ok (.if_icmp .lt 10, 3) := by decide +kernel
theorem dJ3_checkIndex_8e157_9 : decode cJ3_checkIndex_8e157 9 = .ok (.aload_n 2, 1) := by decide +kernel
theorem dJ3_checkIndex_8e157_10 : decode cJ3_checkIndex_8e157 10 = .ok (.iload_n 0, 1) := by decide +kernel
theorem dJ3_checkIndex_8e157_11 : decode cJ3_checkIndex_8e157 11 = .ok (.iload_n 1, 1) := by decide +kernel
theorem dJ3_checkIndex_8e157_12 : decode cJ3_checkIndex_8e157 12 = .ok (.invokestatic 95, 3) := by decide +kernel
theorem dJ3_checkIndex_8e157_15 : decode cJ3_checkIndex_8e157 15 = .ok (.athrow, 1) := by decide +kernel
theorem dJ3_checkIndex_8e157_16 : decode cJ3_checkIndex_8e157 16 = .ok (.iload_n 0, 1) := by decide +kernel
theorem dJ3_checkIndex_8e157_17 : decode cJ3_checkIndex_8e157 17 = .ok (.ireturn, 1) := by decide +kernel
/-! TEXTS: String.length and String.charAt over the 17 texts, by the JDK's own code. -/
def svO (Γ : Cx) : Nat → Nat := match Γ with
  | (_, _, _, _, _, _, _, _, _, _, _, _, _, _, _, sv, _, _) => sv
theorem txO_ok {sa : Nat → Nat} {a i : Nat} (h : txO sa a = some i) : i < 17 ∧ sa i = a := by
  unfold txO at h
  have h1 := List.mem_of_find?_eq_some h
  have h2 := List.find?_some h
  exact ⟨List.mem_range.mp h1, by simpa using h2⟩
theorem Met.ofG {y : MethodName} {cc : ByteArray} {n h : Nat} {ret : Option FieldType} {av : List Value} {G G' : Hp} {r : Option Value} {sa sv : Nat → Nat} (hy : plainName y.cls = true) (hlen : (lg_sl av).length ≤ n) (hro : (ret = none ∧ r = none) ∨ ∃ (ty : FieldType) (v : Int32), ret = some ty ∧ r = some (.int v) ∧ narrow ty (.int v) = .int v) (hB : ∀ Γ : Cx, Ok Γ cc y.cls n h sa → svO Γ = sv → Ret Γ cc r G' → Wg Γ 0 (argL av n) [] G) : ∀ (l : Launch) (D : va_G) (A : Nat → Prop), Met l y (Cond.code y cc n ret :: lw_g) (rmH h) (PreM D A sa sv G av) (PostM D A r G') 0 0 A := by
  intro l D A
  refine Met.ofW (cc := cc) (maxL := n) (ret := ret) hy rfl ?_
  intro p e s m args below meth c s₁ B0 hml hv
  obtain ⟨rfl, hP, hK, hX⟩ := hv
  have hx := B0.exec
  have hb := B0.bytes
  have hr := B0.returns
  have hts := atoms_spec (ws := Cond.code y cc n ret :: lw_g) B0.pre
  have hown : s.vm.findClass y.cls = some m.cls := findClass_of_methodNamed B0.named
  have hlocks := B0.notSynchronized
  have hl := lv_entry av (n := n) hlen
  rw [lg_entry_eq]
  refine hB (p, l, e, rmH h, s, m, av.toArray, below, meth, c, MQ below (PostM D A r G') av.toArray s 0 0 A, n, D, A, sa, sv, 0, 0) ⟨⟨hx, hb, hml, hown, fun w hw => hts w (List.mem_cons_of_mem _ hw)⟩, rfl, hK, hX, ⟨Nat.le_refl _, Nat.le_refl _⟩, ⟨Nat.le_refl _, Nat.le_refl _⟩, rfl⟩ rfl ?_ s.heap [] _ hP va_S.rf (Lcs.of hl fun i v hi => by have := argL_mem av n 0 i v hi; rwa [Nat.zero_add] at this)
  intro pc L hd H locs ls hP1 hS1 hL1
  have hq : ∀ t : State, t.heap = H → s.WarmedH t.vm → PostM D A r G' av.toArray s (.returned r) t := fun t ht hW => ⟨rfl, by rw [ht]; exact hP1.moved hW.alike, hS1.F ht⟩
  have hf : ∀ q ∈ locs, A q.base := hS1.2.2
  rcases hro with ⟨e1, e2⟩ | ⟨ty, v, e1, e2, e3⟩
  · subst e1
    subst e2
    exact W.vret hx hb hr hq hf hd hlocks
  · subst e1
    subst e2
    exact W.zret hx hb hr e3 hq hf hd hlocks
theorem nar_byte0 : narrow .byte (.int 0) = .int 0 := by decide +kernel
theorem nar_bool1 : narrow .boolean (.int 1) = .int 1 := by decide +kernel
section TRules
variable {Γ : Cx} {cc : ByteArray} {own : String} {nL h d pc p1 p2 bk ct : Nat} {sa : Nat → Nat} {L : Lo} {G : Hp} {st : List Value}
theorem St.none : St Γ cc pc p2 bk ct (fun _ _ => none) := by
  intro L G o L' G' e kk
  cases e
theorem Wg.sio (hO : Ok Γ cc own nL h sa) {i : Nat} (hl : Cond.fieldLink own i "jdk/internal/util/Preconditions" "SIOOBE_FORMATTER" "Ljava/util/function/BiFunction;" ∈ lw_g) (hd : decode cc pc = .ok (.getstatic i, 3)) (kk : ∀ v : Value, (v = .null ∨ ∃ a, v = .ref a) → Wg Γ (pc + 3) L (v :: st) G) : Wg Γ pc L st G := by
  obtain ⟨p, l, ev, R, s, m, args, below, meth, c, Q, n', D, A, sa', sv, ck, sk⟩ := Γ
  obtain ⟨⟨hx, hb, hml, hown, hts⟩, rfl, hK, hX, hR, hC, rfl⟩ := hO
  intro H locs ls hP hS hL
  obtain ⟨v, hv, hZ⟩ := hX.2.2.2.2
  exact va_gets hx hb hZ hS hown (hts _ hl) (fun _ q => q) hd (kk v hv H locs ls hP hS hL)
theorem Wg.cmpct (hO : Ok Γ cc own nL h sa) {i : Nat} (hl : Cond.fieldLink own i "java/lang/String" "COMPACT_STRINGS" "Z" ∈ lw_g) (hd : decode cc pc = .ok (.getstatic i, 3)) (kk : Wg Γ (pc + 3) L (.int 1 :: st) G) : Wg Γ pc L st G := by
  obtain ⟨p, l, ev, R, s, m, args, below, meth, c, Q, n', D, A, sa', sv, ck, sk⟩ := Γ
  obtain ⟨⟨hx, hb, hml, hown, hts⟩, rfl, hK, hX, hR, hC, rfl⟩ := hO
  intro H locs ls hP hS hL
  exact va_gets hx hb hX.2.2.2.1 hS hown (hts _ hl) (fun _ q => q) hd (kk H locs ls hP hS hL)
theorem Wg.coder (hO : Ok Γ cc own nL h sa) {i j : Nat} (hj : j < 17) (hl : Cond.fieldLink own i "java/lang/String" "coder" "B" ∈ lw_g) (hd : decode cc pc = .ok (.getfield i, 3)) (kk : Wg Γ (pc + 3) L (.int 0 :: st) G) : Wg Γ pc L (.ref (sa j) :: st) G := by
  obtain ⟨p, l, ev, R, s, m, args, below, meth, c, Q, n', D, A, sa', sv, ck, sk⟩ := Γ
  obtain ⟨⟨hx, hb, hml, hown, hts⟩, rfl, hK, hX, hR, hC, rfl⟩ := hO
  intro H locs ls hP hS hL
  exact vk_getf hx hb (hX.2.1.1 j hj).2.1 hS hown (hts _ hl) (fun _ q => q) hd (kk H locs ls hP hS hL)
theorem Wg.value (hO : Ok Γ cc own nL h sa) {i j : Nat} (hj : j < 17) (hl : Cond.fieldLink own i "java/lang/String" "value" "[B" ∈ lw_g) (hd : decode cc pc = .ok (.getfield i, 3)) (kk : Wg Γ (pc + 3) L (.ref (svO Γ j) :: st) G) : Wg Γ pc L (.ref (sa j) :: st) G := by
  obtain ⟨p, l, ev, R, s, m, args, below, meth, c, Q, n', D, A, sa', sv, ck, sk⟩ := Γ
  obtain ⟨⟨hx, hb, hml, hown, hts⟩, rfl, hK, hX, hR, hC, rfl⟩ := hO
  intro H locs ls hP hS hL
  exact vk_getf hx hb (hX.2.1.1 j hj).2.2.1 hS hown (hts _ hl) (fun _ q => q) hd (kk H locs ls hP hS hL)
theorem Wg.vlen (hO : Ok Γ cc own nL h sa) {j : Nat} (hj : j < 17) (hd : decode cc pc = .ok (.arraylength, 1)) (kk : Wg Γ (pc + 1) L (.int (Int32.ofNat (txtL.getD j 0)) :: st) G) : Wg Γ pc L (.ref (svO Γ j) :: st) G := by
  obtain ⟨p, l, ev, R, s, m, args, below, meth, c, Q, n', D, A, sa', sv, ck, sk⟩ := Γ
  obtain ⟨⟨hx, hb, hml, hown, hts⟩, rfl, hK, hX, hR, hC, rfl⟩ := hO
  intro H locs ls hP hS hL
  exact va_tlen hx hb (hX.2.1.1 j hj).2.2.2 hS rfl hd (kk H locs ls hP hS hL)
theorem Wg.vbyte (hO : Ok Γ cc own nL h sa) {j : Nat} {i : Int32} (hj : j < 17) (hi : vp_in i (txtL.getD j 0)) (hd : decode cc pc = .ok (.baload, 1)) (kk : Wg Γ (pc + 1) L (.int ((txtB.getD j []).getD i.toNatClampNeg 0) :: st) G) : Wg Γ pc L (.int i :: .ref (svO Γ j) :: st) G := by
  obtain ⟨p, l, ev, R, s, m, args, below, meth, c, Q, n', D, A, sa', sv, ck, sk⟩ := Γ
  obtain ⟨⟨hx, hb, hml, hown, hts⟩, rfl, hK, hX, hR, hC, rfl⟩ := hO
  intro H locs ls hP hS hL
  exact va_tb hx hb (hX.2.1.1 j hj).2.2.2 hS hi rfl hd (kk H locs ls hP hS hL)
/-- calls by a contract at hand -/
theorem w_callM (hO : Ok Γ cc own nL h sa) {y : MethodName} {bytes : ByteArray} {n np h' : Nat} {ret : Option FieldType} (hM : MthS y bytes n ret np) (hh : h' < h) {i : Nat} (hl : Cond.methodLink own i y ∈ lw_g) (hd : decode cc pc = .ok (.invokestatic i, 3)) {G' : Hp} {vs : List Value} {r : Option Value} (hI : ∀ (l : Launch) (D : va_G) (A : Nat → Prop), Met l y (Cond.code y bytes n ret :: lw_g) (rmH h') (PreM D A sa (svO Γ) G vs) (PostM D A r G') 0 0 A) (hn : vs.length = np) (hw : wd st ≤ 8) (kk : Wg Γ (pc + 3) L (r.toList ++ st) G') : Wg Γ pc L (vs.reverse ++ st) G := by
  obtain ⟨p, l, ev, R, s, m, args, below, meth, c, Q, n', D, A, sa', sv, ck, sk⟩ := Γ
  obtain ⟨⟨hx, hb, hml, hown, hts⟩, rfl, hK, hX, hR, hC, rfl⟩ := hO
  intro H locs ls hP hS hL
  obtain ⟨hcode, hini, hstat, hdd, hn14⟩ := hM
  refine w_call (va_runS (nL := n') (As := vs) (rest := st) ⟨hx, hb, hml, hown, hts⟩ (hI l D A) ⟨callB_of np hts (GoodIn_cons hcode) rfl rfl rfl (hts _ hini) (hts _ hl) hdd ⟨by show h' + 1 ≤ R.frames; omega, by show 8 + (n + 11) + 33 * h' ≤ R.locals; omega⟩, hts _ hstat⟩ ⟨PreM.blind, fun U hU hW => ⟨rfl, by rw [hU]; exact hP.moved hW.alike, va_K.moved hW.alike hK, (hX.warm hW).kept (fun q h1 h2 => by rw [hU]; exact hS.2.1 q h1 h2)⟩⟩ rfl hn hL.1 rfl (lv_room hw) hd ⟨hC.1, hC.2⟩) hS fun H1 locs1 hP1 hS1 => kk H1 locs1 ls hP1 hS1 hL
/-- calls of a text's method -/
theorem w_callT (hO : Ok Γ cc own nL h sa) {y : MethodName} {bytes : ByteArray} {n np h' : Nat} {ret : Option FieldType} (hy : y.cls = "java/lang/String") (hcode : Cond.code y bytes n ret ∈ lw_g) (hini : Cond.initialized y.cls ∈ lw_g) (hinst : Cond.instanceMethod y ∈ lw_g) (hsel : Cond.selects y.cls y y ∈ lw_g) (hdd : y.cls ≠ "java/lang/invoke/MethodHandle" ∧ y.cls ≠ "java/lang/invoke/VarHandle" ∧ (parseMethodDescriptor y.desc).map (fun d => d.parameters.length) = some np) (hn14 : n ≤ 14) (hh : h' < h) {i : Nat} (hl : Cond.methodLink own i y ∈ lw_g) (hd : decode cc pc = .ok (.invokevirtual i, 3)) {j : Nat} (hj : j < 17) {G' : Hp} {vs : List Value} {r : Option Value} (hI : ∀ (l : Launch) (D : va_G) (A : Nat → Prop), Met l y (Cond.code y bytes n ret :: lw_g) (rmH h') (PreM D A sa (svO Γ) G (.ref (sa j) :: vs)) (PostM D A r G') 0 0 A) (hn : vs.length = np) (hw : wd st ≤ 8) (kk : Wg Γ (pc + 3) L (r.toList ++ st) G') : Wg Γ pc L (vs.reverse ++ .ref (sa j) :: st) G := by
  obtain ⟨p, l, ev, R, s, m, args, below, meth, c, Q, n', D, A, sa', sv, ck, sk⟩ := Γ
  obtain ⟨⟨hx, hb, hml, hown, hts⟩, rfl, hK, hX, hR, hC, rfl⟩ := hO
  intro H locs ls hP hS hL
  have hrecv := vk_recv hX.2.1 hj hS
  rw [← hy] at hrecv
  refine w_call (va_runV (nL := n') (As := vs) (rest := st) (C := y.cls) ⟨hx, hb, hml, hown, hts⟩ (hI l D A) ⟨callB_of np hts (GoodIn_cons hcode) rfl rfl rfl (hts _ hini) (hts _ hl) hdd ⟨by show h' + 1 ≤ R.frames; omega, by show 8 + (n + 11) + 33 * h' ≤ R.locals; omega⟩, hts _ hinst, hts _ hsel⟩ ⟨PreM.blind, hrecv, fun U hU hW => ⟨rfl, by rw [hU]; exact hP.moved hW.alike, va_K.moved hW.alike hK, (hX.warm hW).kept (fun q h1 h2 => by rw [hU]; exact hS.2.1 q h1 h2)⟩⟩ rfl hn hL.1 rfl (lv_room hw) hd ⟨hC.1, hC.2⟩) hS fun H1 locs1 hP1 hS1 => kk H1 locs1 ls hP1 hS1 hL
theorem Wg.i2c (hO : Ok Γ cc own nL h sa) {x v : Int32} (hd : decode cc pc = .ok (.i2c, 1)) (hv : (x.toUInt32 % 65536).toInt32 = v) (kk : Wg Γ (pc + 1) L (.int v :: st) G) : Wg Γ pc L (.int x :: st) G := by
  obtain ⟨p, l, ev, R, s, m, args, below, meth, c, Q, n', D, A, sa', sv, ck, sk⟩ := Γ
  obtain ⟨⟨hx, hb, hml, hown, hts⟩, rfl, hK, hX, hR, hC, rfl⟩ := hO
  intro H locs ls hP hS hL
  exact lv_i2c hx hb hd hv (kk H locs ls hP hS hL)
theorem Wg.pop (hO : Ok Γ cc own nL h sa) {x : Int32} (hd : decode cc pc = .ok (.pop, 1)) (kk : Wg Γ (pc + 1) L st G) : Wg Γ pc L (.int x :: st) G := by
  obtain ⟨p, l, ev, R, s, m, args, below, meth, c, Q, n', D, A, sa', sv, ck, sk⟩ := Γ
  obtain ⟨⟨hx, hb, hml, hown, hts⟩, rfl, hK, hX, hR, hC, rfl⟩ := hO
  intro H locs ls hP hS hL
  exact lv_pop hx hb hd rfl (kk H locs ls hP hS hL)
theorem Wg.goto (hO : Ok Γ cc own nL h sa) {off : Int} {tgt : Nat} (hd : decode cc pc = .ok (.goto off, 3)) (ht : (pc : Int) + off = (tgt : Int)) (kk : Wg Γ tgt L st G) : Wg Γ pc L st G := by
  obtain ⟨p, l, ev, R, s, m, args, below, meth, c, Q, n', D, A, sa', sv, ck, sk⟩ := Γ
  obtain ⟨⟨hx, hb, hml, hown, hts⟩, rfl, hK, hX, hR, hC, rfl⟩ := hO
  intro H locs ls hP hS hL
  exact lv_goto hx hb hd ht (kk H locs ls hP hS hL)
theorem Wg.ifeq1 (hO : Ok Γ cc own nL h sa) {off : Int} (hd : decode cc pc = .ok (.ifCond .eq off, 3)) (kk : Wg Γ (pc + 3) L st G) {tgt : Nat} (ht : (pc : Int) + off = (tgt : Int)) : Wg Γ pc L (.int 1 :: st) G := by
  obtain ⟨p, l, ev, R, s, m, args, below, meth, c, Q, n', D, A, sa', sv, ck, sk⟩ := Γ
  obtain ⟨⟨hx, hb, hml, hown, hts⟩, rfl, hK, hX, hR, hC, rfl⟩ := hO
  intro H locs ls hP hS hL
  exact lv_if_eq hx hb hd ht (fun hc => absurd hc (by decide)) (fun _ => kk H locs ls hP hS hL)
theorem Wg.ifne0 (hO : Ok Γ cc own nL h sa) {off : Int} (hd : decode cc pc = .ok (.ifCond .ne off, 3)) (kk : Wg Γ (pc + 3) L st G) {tgt : Nat} (ht : (pc : Int) + off = (tgt : Int)) : Wg Γ pc L (.int 0 :: st) G := by
  obtain ⟨p, l, ev, R, s, m, args, below, meth, c, Q, n', D, A, sa', sv, ck, sk⟩ := Γ
  obtain ⟨⟨hx, hb, hml, hown, hts⟩, rfl, hK, hX, hR, hC, rfl⟩ := hO
  intro H locs ls hP hS hL
  exact lv_if_ne hx hb hd ht (fun hc => absurd rfl hc) (fun _ => kk H locs ls hP hS hL)
end TRules
theorem m_ckI : MthS yJ3_checkIndex_8e157 cJ3_checkIndex_8e157 3 (some .int) 3 := ⟨wt_567, wt_14, wt_566, ⟨by decide +kernel, by decide +kernel, by decide +kernel⟩, by decide⟩
theorem m_ck0 : MthS yJ0_checkIndex_df160 cJ0_checkIndex_df160 2 none 2 := ⟨wt_562, wt_12, wt_561, ⟨by decide +kernel, by decide +kernel, by decide +kernel⟩, by decide⟩
theorem m_ch1 : MthS yJ1_charAt_3b067 cJ1_charAt_3b067 2 (some .char) 2 := ⟨wt_559, wt_13, wt_558, ⟨by decide +kernel, by decide +kernel, by decide +kernel⟩, by decide⟩
theorem getD_mem {l : List Int32} {q : Nat} (h : q < l.length) : l.getD q 0 ∈ l := by
  rw [List.getD_eq_getElem?_getD, List.getElem?_eq_getElem h]
  exact List.getElem_mem h
theorem t_ckp : plainName yJ3_checkIndex_8e157.cls = true := by decide +kernel
theorem t_ckw {i n : Int32} {v : Value} {G : Hp} {Γ : Cx} {sa : Nat → Nat} (h1 : ¬ i < 0) (h2 : i < n) (hO : Ok Γ cJ3_checkIndex_8e157 yJ3_checkIndex_8e157.cls 3 1 sa) (hR : Ret Γ cJ3_checkIndex_8e157 (some (.int i)) G) : Wg Γ 0 [some (.int i), some (.int n), some v] [] G := by
  have s1 := CJ.zlt hO (tgt := 9) (d := 0) (Ex.iloadn hO (k := 0) dJ3_checkIndex_8e157_0) dJ3_checkIndex_8e157_1 (by decide)
  have s2 := CJ.inge hO (tgt := 16) (d := 0) (Ex.iloadn hO (k := 0) dJ3_checkIndex_8e157_4) (Ex.iloadn hO (k := 1) dJ3_checkIndex_8e157_5) dJ3_checkIndex_8e157_6 (by decide)
  have s3 := Ex.iloadn hO (d := 0) (k := 0) dJ3_checkIndex_8e157_16
  have a1 : qZ z_lt (vI 0) [some (.int i), some (.int n), some v] G = some (false, G) := by
    show some (decide (i < 0), G) = _
    rw [decide_eq_false h1]
  have a2 : qI p_ge (vI 0) (vI 1) [some (.int i), some (.int n), some v] G = some (false, G) := by
    show some (decide (n ≤ i), G) = _
    rw [decide_eq_false (Int32.not_le.mpr h2)]
  have k3 : Wg Γ 16 [some (.int i), some (.int n), some v] [] G := s3 _ G i G rfl [] (Nat.le_refl 0) (hR 17 _ dJ3_checkIndex_8e157_17)
  have k2 : Wg Γ 4 [some (.int i), some (.int n), some v] [] G := s2 _ G false G a2 [] (Nat.le_refl 0) k3
  exact s1 _ G false G a1 [] (Nat.le_refl 0) k2
/-- Preconditions.checkIndex: a good index comes back -/
theorem t_ckI {i n : Int32} {v : Value} (hv : v = .null ∨ ∃ a, v = .ref a) (h1 : ¬ i < 0) (h2 : i < n) {sa sv : Nat → Nat} {G : Hp} : ∀ (l : Launch) (D : va_G) (A : Nat → Prop), Met l yJ3_checkIndex_8e157 (Cond.code yJ3_checkIndex_8e157 cJ3_checkIndex_8e157 3 (some .int) :: lw_g) (rmH 1) (PreM D A sa sv G [.int i, .int n, v]) (PostM D A (some (.int i)) G) 0 0 A := by
  have hc : (lg_sl [.int i, .int n, v]).length ≤ 3 := by rcases hv with rfl | ⟨a, rfl⟩ <;> exact Nat.le_refl 3
  have ha : argL [.int i, .int n, v] 3 = [some (.int i), some (.int n), some v] := by rcases hv with rfl | ⟨a, rfl⟩ <;> rfl
  refine Met.ofG t_ckp hc (Or.inr ⟨_, _, rfl, rfl, nar_int _⟩) fun Γ hO _ hR => ?_
  rw [ha]
  exact t_ckw h1 h2 hO hR
theorem t_ck0 {i n : Int32} (h1 : ¬ i < 0) (h2 : i < n) {sa sv : Nat → Nat} {G : Hp} : ∀ (l : Launch) (D : va_G) (A : Nat → Prop), Met l yJ0_checkIndex_df160 (Cond.code yJ0_checkIndex_df160 cJ0_checkIndex_df160 2 none :: lw_g) (rmH 2) (PreM D A sa sv G [.int i, .int n]) (PostM D A none G) 0 0 A := by
  refine Met.ofG (by decide +kernel) (Nat.le_refl 2) (Or.inl ⟨rfl, rfl⟩) fun Γ hO hsv hR => ?_
  refine (Ex.iloadn hO (d := 0) (k := 0) dJ0_checkIndex_df160_0) [some (.int i), some (.int n)] G i G rfl [] (Nat.le_refl 0) ?_
  refine (Ex.iloadn hO (d := 1) (k := 1) dJ0_checkIndex_df160_1) [some (.int i), some (.int n)] G n G rfl [.int i] (Nat.le_refl 1) ?_
  refine Wg.sio hO wt_563 dJ0_checkIndex_df160_2 fun v hv => ?_
  refine w_callM hO (vs := [.int i, .int n, v]) (st := []) (r := some (.int i)) (G' := G) m_ckI (by decide) wt_565 dJ0_checkIndex_df160_5 (t_ckI hv h1 h2) rfl (Nat.zero_le 8) ?_
  exact Wg.pop hO dJ0_checkIndex_df160_8 (hR 9 _ dJ0_checkIndex_df160_9)
theorem t_coder {j : Nat} (hj : j < 17) {sa sv : Nat → Nat} {G : Hp} : ∀ (l : Launch) (D : va_G) (A : Nat → Prop), Met l yJ0_coder_7d493 (Cond.code yJ0_coder_7d493 cJ0_coder_7d493 1 (some .byte) :: lw_g) (rmH 1) (PreM D A sa sv G [.ref (sa j)]) (PostM D A (some (.int 0)) G) 0 0 A := by
  refine Met.ofG (by decide +kernel) (Nat.le_refl 1) (Or.inr ⟨_, _, rfl, rfl, nar_byte0⟩) fun Γ hO hsv hR => ?_
  refine Wg.cmpct hO wt_530 dJ0_coder_7d493_0 ?_
  refine Wg.ifeq1 hO dJ0_coder_7d493_3 ?_ (tgt := 13) (by decide)
  refine (Ex.aloadn hO (d := 0) (k := 0) dJ0_coder_7d493_6) [some (.ref (sa j))] G (sa j) G rfl [] (Nat.le_refl 0) ?_
  refine Wg.coder hO hj wt_1075 dJ0_coder_7d493_7 ?_
  exact Wg.goto hO dJ0_coder_7d493_10 (tgt := 14) (by decide) (hR 14 _ dJ0_coder_7d493_14)
theorem t_lat {j : Nat} (hj : j < 17) {sa sv : Nat → Nat} {G : Hp} : ∀ (l : Launch) (D : va_G) (A : Nat → Prop), Met l yJ0_isLatin1_aae02 (Cond.code yJ0_isLatin1_aae02 cJ0_isLatin1_aae02 1 (some .boolean) :: lw_g) (rmH 1) (PreM D A sa sv G [.ref (sa j)]) (PostM D A (some (.int 1)) G) 0 0 A := by
  refine Met.ofG (by decide +kernel) (Nat.le_refl 1) (Or.inr ⟨_, _, rfl, rfl, nar_bool1⟩) fun Γ hO hsv hR => ?_
  refine Wg.cmpct hO wt_530 dJ0_isLatin1_aae02_0 ?_
  refine Wg.ifeq1 hO dJ0_isLatin1_aae02_3 ?_ (tgt := 17) (by decide)
  refine (Ex.aloadn hO (d := 0) (k := 0) dJ0_isLatin1_aae02_6) [some (.ref (sa j))] G (sa j) G rfl [] (Nat.le_refl 0) ?_
  refine Wg.coder hO hj wt_1075 dJ0_isLatin1_aae02_7 ?_
  refine Wg.ifne0 hO dJ0_isLatin1_aae02_10 ?_ (tgt := 17) (by decide)
  refine (Ex.iconst hO (d := 0) dJ0_isLatin1_aae02_13 (v := 1) (by decide)) [some (.ref (sa j))] G 1 G rfl [] (Nat.le_refl 0) ?_
  exact Wg.goto hO dJ0_isLatin1_aae02_14 (tgt := 18) (by decide) (hR 18 _ dJ0_isLatin1_aae02_18)
theorem shr0 (x : Int32) : x >>> ((0 : Int32) &&& 31) = x := by
  have : (0 : Int32) &&& 31 = 0 := by decide
  rw [this]
  apply Int32.toBitVec_inj.mp
  simp
theorem t_length {j : Nat} (hj : j < 17) {sa sv : Nat → Nat} {G : Hp} : ∀ (l : Launch) (D : va_G) (A : Nat → Prop), Met l yJ0_length_8abf5 (Cond.code yJ0_length_8abf5 cJ0_length_8abf5 1 (some .int) :: lw_g) (rmH 2) (PreM D A sa sv G [.ref (sa j)]) (PostM D A (some (.int (Int32.ofNat (txtL.getD j 0)))) G) 0 0 A := by
  refine Met.ofG (by decide +kernel) (Nat.le_refl 1) (Or.inr ⟨_, _, rfl, rfl, nar_int _⟩) fun Γ hO hsv hR => ?_
  refine (Ex.aloadn hO (d := 0) (k := 0) dJ0_length_8abf5_0) [some (.ref (sa j))] G (sa j) G rfl [] (Nat.le_refl 0) ?_
  refine Wg.value hO hj wt_1074 dJ0_length_8abf5_1 (Wg.vlen hO hj dJ0_length_8abf5_4 ?_)
  refine (Ex.aloadn hO (d := 1) (k := 0) dJ0_length_8abf5_5) [some (.ref (sa j))] G (sa j) G rfl [.int (Int32.ofNat (txtL.getD j 0))] (Nat.le_refl 1) ?_
  refine w_callT hO (vs := []) (r := some (.int 0)) (G' := G) (np := 0) rfl wt_529 wt_12 wt_527 wt_528 ⟨by decide +kernel, by decide +kernel, by decide +kernel⟩ (by decide) (by decide) wt_526 dJ0_length_8abf5_6 hj (t_coder hj) rfl (Nat.le_add_left 1 7) ?_
  refine (Bin.shr (d := 0) hO dJ0_length_8abf5_9) _ [] (Int32.ofNat (txtL.getD j 0)) 0 G (Nat.le_refl 0) ?_
  show Wg Γ 10 _ [.int (Int32.ofNat (txtL.getD j 0) >>> ((0 : Int32) &&& 31))] G
  rw [shr0]
  exact hR 10 _ dJ0_length_8abf5_10
theorem txt_small : ∀ j, j < 17 → (txtL.getD j 0 = (txtB.getD j []).length ∧ txtL.getD j 0 < 10) ∧ ∀ b ∈ txtB.getD j [], ((b &&& 255).toUInt32 % 65536).toInt32 = b ∧ narrow .char (.int b) = .int b := by decide +kernel
theorem t_ch1 {j : Nat} {k : Int32} (hj : j < 17) (hk : vp_in k (txtL.getD j 0)) {sa sv : Nat → Nat} {G : Hp} : ∀ (l : Launch) (D : va_G) (A : Nat → Prop), Met l yJ1_charAt_3b067 (Cond.code yJ1_charAt_3b067 cJ1_charAt_3b067 2 (some .char) :: lw_g) (rmH 3) (PreM D A sa sv G [.ref (sv j), .int k]) (PostM D A (some (.int ((txtB.getD j []).getD k.toNatClampNeg 0))) G) 0 0 A := by
  obtain ⟨⟨hlen, h10⟩, hby⟩ := txt_small j hj
  obtain ⟨q, hq, rfl⟩ := vp_in_of hk (by omega)
  have hcl : (nI q).toNatClampNeg = q := nI_clamp (by omega)
  rw [hcl]
  have hb : (txtB.getD j []).getD q 0 ∈ txtB.getD j [] := by
    have hq' : q < (txtB.getD j []).length := by omega
    exact getD_mem hq'
  obtain ⟨hc1, hc2⟩ := hby _ hb
  refine Met.ofG (by decide +kernel) (Nat.le_refl 2) (Or.inr ⟨_, _, rfl, rfl, hc2⟩) fun Γ hO hsv hR => ?_
  subst hsv
  refine (Ex.iloadn hO (d := 0) (k := 1) dJ1_charAt_3b067_0) [some (.ref (svO Γ j)), some (.int (nI q))] G (nI q) G rfl [] (Nat.le_refl 0) ?_
  refine (Ex.aloadn hO (d := 1) (k := 0) dJ1_charAt_3b067_1) [some (.ref (svO Γ j)), some (.int (nI q))] G (svO Γ j) G rfl [.int (nI q)] (Nat.le_refl 1) ?_
  refine Wg.vlen hO hj dJ1_charAt_3b067_2 ?_
  refine w_callM hO (vs := [.int (nI q), .int (Int32.ofNat (txtL.getD j 0))]) (st := []) (r := none) (G' := G) m_ck0 (by decide) wt_560 dJ1_charAt_3b067_3 (t_ck0 (nI_pos (by omega)) (nI_lt (b := txtL.getD j 0) hq (by omega))) rfl (Nat.zero_le 8) ?_
  refine (Ex.aloadn hO (d := 0) (k := 0) dJ1_charAt_3b067_6) [some (.ref (svO Γ j)), some (.int (nI q))] G (svO Γ j) G rfl [] (Nat.le_refl 0) ?_
  refine (Ex.iloadn hO (d := 1) (k := 1) dJ1_charAt_3b067_7) [some (.ref (svO Γ j)), some (.int (nI q))] G (nI q) G rfl [.ref (svO Γ j)] (Nat.le_refl 1) ?_
  refine Wg.vbyte hO hj hk dJ1_charAt_3b067_8 ?_
  rw [hcl]
  refine (Ex.sipush hO (d := 1) (v := 255) dJ1_charAt_3b067_9 (by decide)) _ G 255 G rfl [.int ((txtB.getD j []).getD q 0)] (Nat.le_refl 1) ?_
  refine (Bin.and (d := 0) hO dJ1_charAt_3b067_12) _ [] ((txtB.getD j []).getD q 0) 255 G (Nat.le_refl 0) ?_
  exact Wg.i2c hO dJ1_charAt_3b067_13 hc1 (hR 14 _ dJ1_charAt_3b067_14)
theorem t_charAt {j : Nat} {k : Int32} (hj : j < 17) (hk : vp_in k (txtL.getD j 0)) {sa sv : Nat → Nat} {G : Hp} : ∀ (l : Launch) (D : va_G) (A : Nat → Prop), Met l yJ0_charAt_5068e (Cond.code yJ0_charAt_5068e cJ0_charAt_5068e 2 (some .char) :: lw_g) (rmH 4) (PreM D A sa sv G [.ref (sa j), .int k]) (PostM D A (some (.int ((txtB.getD j []).getD k.toNatClampNeg 0))) G) 0 0 A := by
  obtain ⟨⟨hlen, h10⟩, hby⟩ := txt_small j hj
  have hb : (txtB.getD j []).getD k.toNatClampNeg 0 ∈ txtB.getD j [] := by
    have hq' : k.toNatClampNeg < (txtB.getD j []).length := by
      have := Nat.not_le.mp fun q => hk (Or.inr q)
      omega
    exact getD_mem hq'
  obtain ⟨hc1, hc2⟩ := hby _ hb
  refine Met.ofG (by decide +kernel) (Nat.le_refl 2) (Or.inr ⟨_, _, rfl, rfl, hc2⟩) fun Γ hO hsv hR => ?_
  refine (Ex.aloadn hO (d := 0) (k := 0) dJ0_charAt_5068e_0) [some (.ref (sa j)), some (.int k)] G (sa j) G rfl [] (Nat.le_refl 0) ?_
  refine w_callT hO (vs := []) (st := []) (r := some (.int 1)) (G' := G) (np := 0) rfl wt_556 wt_12 wt_554 wt_555 ⟨by decide +kernel, by decide +kernel, by decide +kernel⟩ (by decide) (by decide) wt_553 dJ0_charAt_5068e_1 hj (t_lat hj) rfl (Nat.zero_le 8) ?_
  refine Wg.ifeq1 hO dJ0_charAt_5068e_4 ?_ (tgt := 16) (by decide)
  refine (Ex.aloadn hO (d := 0) (k := 0) dJ0_charAt_5068e_7) [some (.ref (sa j)), some (.int k)] G (sa j) G rfl [] (Nat.le_refl 0) ?_
  refine Wg.value hO hj wt_1074 dJ0_charAt_5068e_8 ?_
  refine (Ex.iloadn hO (d := 1) (k := 1) dJ0_charAt_5068e_11) [some (.ref (sa j)), some (.int k)] G k G rfl [.ref (svO Γ j)] (Nat.le_refl 1) ?_
  refine w_callM hO (vs := [.ref (svO Γ j), .int k]) (st := []) (r := some (.int ((txtB.getD j []).getD k.toNatClampNeg 0))) (G' := G) m_ch1 (by decide) wt_557 dJ0_charAt_5068e_12 (t_ch1 hj hk) rfl (Nat.zero_le 8) ?_
  exact hR 15 _ dJ0_charAt_5068e_15
section TRules2
variable {Γ : Cx} {cc : ByteArray} {own : String} {nL h d pc p1 p2 bk ct : Nat} {sa : Nat → Nat}
theorem Ex.tlen (hO : Ok Γ cc own nL h sa) (hh : 4 ≤ h) {f : EA} (hf : Ex Γ .ref d pc p1 f) {i : Nat} (hl : Cond.methodLink own i yJ0_length_8abf5 ∈ lw_g) (hd : decode cc p1 = .ok (.invokevirtual i, 3)) (h8 : d ≤ 8) : Ex Γ .int d pc (p1 + 3) (tN sa f) := by
  intro L G x G' e st hw kk
  obtain ⟨r, e1, e2⟩ := Option.bind_eq_some_iff.mp e
  obtain ⟨j, e3, e4⟩ := Option.bind_eq_some_iff.mp e2
  cases e4
  obtain ⟨hj, hsj⟩ := txO_ok e3
  refine hf L G r.1 r.2 e1 st hw ?_
  rw [← hsj]
  exact w_callT hO (vs := []) (r := some (.int (Int32.ofNat (txtL.getD j 0)))) (G' := r.2) (np := 0) (h' := 2) rfl wt_525 wt_12 wt_523 wt_524 ⟨by decide +kernel, by decide +kernel, by decide +kernel⟩ (by decide) (by omega) hl hd hj (t_length hj) rfl (Nat.le_trans hw h8) kk
theorem Ex.tchr (hO : Ok Γ cc own nL h sa) (hh : 6 ≤ h) {f : EA} {g : EI} (hf : Ex Γ .ref d pc p1 f) (hg : Ex Γ .int (d + 1) p1 p2 g) {i : Nat} (hl : Cond.methodLink own i yJ0_charAt_5068e ∈ lw_g) (hd : decode cc p2 = .ok (.invokevirtual i, 3)) (h8 : d ≤ 8) : Ex Γ .int d pc (p2 + 3) (tC sa f g) := by
  intro L G x G' e st hw kk
  obtain ⟨r, e1, e2⟩ := Option.bind_eq_some_iff.mp e
  obtain ⟨q, e3, e4⟩ := Option.bind_eq_some_iff.mp e2
  obtain ⟨j, e5, e6⟩ := Option.bind_eq_some_iff.mp e4
  obtain ⟨hj, hsj⟩ := txO_ok e5
  split at e6
  · rename_i hk
    cases e6
    refine hf L G r.1 r.2 e1 st hw (hg L r.2 q.1 q.2 e3 (.ref r.1 :: st) (wdA hw) ?_)
    rw [← hsj]
    exact w_callT hO (vs := [.int q.1]) (r := some (.int ((txtB.getD j []).getD q.1.toNatClampNeg 0))) (G' := q.2) (np := 1) (h' := 4) rfl wt_552 wt_12 wt_550 wt_551 ⟨by decide +kernel, by decide +kernel, by decide +kernel⟩ (by decide) (by omega) hl hd hj (t_charAt hj (vp_in_iff.mpr hk)) rfl (Nat.le_trans hw h8) kk
  · cases e6
end TRules2
