/-- cells laid over a heap from an address on -/
def ov (c : Nat) (cs : List Cel) (G : Hp) : Hp := fun b => if b < c then G b else match cs[b - c]? with
  | some e => some e
  | none => G b
theorem ov_new (c : Nat) {cs : List Cel} {G : Hp} {e : Cel} {sz : Nat} (h : cs.length = sz) : hset (ov c cs G) (c + sz) e = ov c (cs ++ [e]) G := by
  subst h
  funext b
  unfold hset ov
  by_cases hb : b = c + cs.length
  · subst hb
    rw [if_pos rfl, if_neg (by omega), show c + cs.length - c = cs.length by omega]
    simp
  · rw [if_neg hb]
    by_cases h1 : b < c
    · rw [if_pos h1, if_pos h1]
    · rw [if_neg h1, if_neg h1]
      by_cases h2 : b - c < cs.length
      · rw [List.getElem?_append_left h2]
      · rw [List.getElem?_append_right (by omega), List.getElem?_eq_none (by omega), List.getElem?_eq_none (by simp; omega)]
theorem ov_ov (c : Nat) {cs ds : List Cel} {G : Hp} {sz : Nat} (h : cs.length = sz) : ov (c + sz) ds (ov c cs G) = ov c (cs ++ ds) G := by
  subst h
  funext b
  unfold ov
  by_cases h1 : b < c
  · rw [if_pos (by omega), if_pos h1, if_pos h1]
  · rw [if_neg h1, if_neg h1]
    by_cases h2 : b < c + cs.length
    · rw [if_pos h2, List.getElem?_append_left (by omega)]
    · rw [if_neg h2, List.getElem?_append_right (by omega), show b - c - cs.length = b - (c + cs.length) by omega, List.getElem?_eq_none (l := cs) (by omega)]
theorem ov_at {c j : Nat} {cs : List Cel} {G : Hp} {e : Cel} (h : cs[j]? = some e) : ov c cs G (c + j) = some e := by
  unfold ov
  rw [if_neg (by omega), show c + j - c = j by omega, h]
theorem ov_set {c j : Nat} {cs : List Cel} {G : Hp} {e : Cel} (h : j < cs.length) : hset (ov c cs G) (c + j) e = ov c (cs.set j e) G := by
  funext b
  unfold hset ov
  by_cases hb : b = c + j
  · subst hb
    rw [if_pos rfl, if_neg (by omega), show c + j - c = j by omega]
    simp [h]
  · rw [if_neg hb]
    by_cases h1 : b < c
    · rw [if_pos h1, if_pos h1]
    · rw [if_neg h1, if_neg h1, List.getElem?_set_ne (by omega)]
theorem ov_getF {c j ci k : Nat} {cs : List Cel} {G : Hp} {fs : List Value} {v : Value} (h : cs[j]? = some (.inl (ci, fs))) (hv : fs[k]? = some v) : getF (ov c cs G) (c + j) ci k = some v := by
  unfold getF
  rw [ov_at h]
  simp [hv]
theorem ov_putF {c j ci k : Nat} {cs : List Cel} {G : Hp} {fs : List Value} {v : Value} (h : cs[j]? = some (.inl (ci, fs))) (hk : k < fs.length) : putF (ov c cs G) (c + j) ci k v = some (ov c (cs.set j (.inl (ci, fs.set k v))) G) := by
  unfold putF
  rw [ov_at h]
  simp only [hk, and_self, if_true]
  rw [ov_set (List.getElem?_eq_some_iff.mp h).1]
theorem frs.mono {Γ : Cx} {a b : Nat} (h : frs Γ a) (hab : a ≤ b) : frs Γ b := by
  obtain ⟨p, l, ev, R, s, m, args, below, meth, c, Q, n', D, A, sa', sv, ck, sk⟩ := Γ
  exact fun q hq => h q (Nat.le_trans hab hq)
theorem w_22 : Cond.methodLink RX7 1 Lib.objectInit ∈ lw_g := mem_t 22 (by decide +kernel) rfl
theorem w_23 : Cond.instanceMethod Lib.objectInit ∈ lw_g := mem_t 23 (by decide +kernel) rfl
theorem w_24 : Cond.code Lib.objectInit ⟨#[0xb1]⟩ 1 none ∈ lw_g := mem_t 24 (by decide +kernel) rfl
theorem w_25 : Cond.classLink RX7 7 RX0 ∈ lw_g := mem_t 25 (by decide +kernel) rfl
theorem w_26 : Cond.instantiable RX0 6 ∈ lw_g := mem_t 26 (by decide +kernel) rfl
theorem w_28 : Cond.instanceMethod yX0_init ∈ lw_g := mem_t 28 (by decide +kernel) rfl
theorem w_29 : Cond.code yX0_init cX0_init 1 none ∈ lw_g := mem_t 29 (by decide +kernel) rfl
theorem w_30 : Cond.methodLink RX0 3 Lib.objectInit ∈ lw_g := mem_t 30 (by decide +kernel) rfl
theorem w_31 : Cond.classLink RX0 9 RX3 ∈ lw_g := mem_t 31 (by decide +kernel) rfl
theorem w_32 : Cond.instantiable RX3 2 ∈ lw_g := mem_t 32 (by decide +kernel) rfl
theorem w_33 : Cond.methodLink RX0 11 yX3_init ∈ lw_g := mem_t 33 (by decide +kernel) rfl
theorem w_34 : Cond.instanceMethod yX3_init ∈ lw_g := mem_t 34 (by decide +kernel) rfl
theorem w_35 : Cond.code yX3_init cX3_init 2 none ∈ lw_g := mem_t 35 (by decide +kernel) rfl
theorem w_36 : Cond.methodLink RX3 1 Lib.objectInit ∈ lw_g := mem_t 36 (by decide +kernel) rfl
theorem w_37 : Cond.methodLink RX3 7 Lib.Math.max.name ∈ lw_g := mem_t 37 (by decide +kernel) rfl
theorem w_38 : Cond.static Lib.Math.max.name ∈ lw_g := mem_t 38 (by decide +kernel) rfl
theorem w_39 : Cond.code Lib.Math.max.name Lib.Math.max.code 2 (some .int) ∈ lw_g := mem_t 39 (by decide +kernel) rfl
theorem w_47 : Cond.arrayClass .int ∈ lw_g := mem_t 47 (by decide +kernel) rfl
theorem w_48 : Cond.classLink RX0 23 RX4 ∈ lw_g := mem_t 48 (by decide +kernel) rfl
theorem w_49 : Cond.instantiable RX4 4 ∈ lw_g := mem_t 49 (by decide +kernel) rfl
theorem w_51 : Cond.instanceMethod yX4_init ∈ lw_g := mem_t 51 (by decide +kernel) rfl
theorem w_52 : Cond.code yX4_init cX4_init 1 none ∈ lw_g := mem_t 52 (by decide +kernel) rfl
theorem w_53 : Cond.methodLink RX4 3 Lib.objectInit ∈ lw_g := mem_t 53 (by decide +kernel) rfl
theorem w_54 : Cond.classLink RX4 9 RX5 ∈ lw_g := mem_t 54 (by decide +kernel) rfl
theorem w_55 : Cond.instantiable RX5 4 ∈ lw_g := mem_t 55 (by decide +kernel) rfl
theorem w_56 : Cond.methodLink RX4 13 yX5_init ∈ lw_g := mem_t 56 (by decide +kernel) rfl
theorem w_57 : Cond.instanceMethod yX5_init ∈ lw_g := mem_t 57 (by decide +kernel) rfl
theorem w_58 : Cond.code yX5_init cX5_init 3 none ∈ lw_g := mem_t 58 (by decide +kernel) rfl
theorem w_59 : Cond.methodLink RX5 1 Lib.objectInit ∈ lw_g := mem_t 59 (by decide +kernel) rfl
theorem w_60 : Cond.methodLink RX5 7 Lib.Math.max.name ∈ lw_g := mem_t 60 (by decide +kernel) rfl
theorem w_74 : Cond.classLink RX4 23 RX3 ∈ lw_g := mem_t 74 (by decide +kernel) rfl
theorem w_75 : Cond.methodLink RX4 25 yX3_init ∈ lw_g := mem_t 75 (by decide +kernel) rfl
theorem w_95 : Cond.classLink RX0 30 RX5 ∈ lw_g := mem_t 95 (by decide +kernel) rfl
theorem w_96 : Cond.methodLink RX0 32 yX5_init ∈ lw_g := mem_t 96 (by decide +kernel) rfl
theorem w_122 : Cond.classLink RX7 22 RX2 ∈ lw_g := mem_t 122 (by decide +kernel) rfl
theorem w_123 : Cond.instantiable RX2 14 ∈ lw_g := mem_t 123 (by decide +kernel) rfl
theorem w_125 : Cond.instanceMethod yX2_init ∈ lw_g := mem_t 125 (by decide +kernel) rfl
theorem w_126 : Cond.code yX2_init cX2_init 1 none ∈ lw_g := mem_t 126 (by decide +kernel) rfl
theorem w_127 : Cond.methodLink RX2 3 Lib.objectInit ∈ lw_g := mem_t 127 (by decide +kernel) rfl
theorem w_128 : Cond.classLink RX2 9 RX4 ∈ lw_g := mem_t 128 (by decide +kernel) rfl
theorem w_130 : Cond.classLink RX2 18 RX1 ∈ lw_g := mem_t 130 (by decide +kernel) rfl
theorem w_131 : Cond.instantiable RX1 6 ∈ lw_g := mem_t 131 (by decide +kernel) rfl
theorem w_133 : Cond.instanceMethod yX1_init ∈ lw_g := mem_t 133 (by decide +kernel) rfl
theorem w_134 : Cond.code yX1_init cX1_init 1 none ∈ lw_g := mem_t 134 (by decide +kernel) rfl
theorem w_135 : Cond.methodLink RX1 1 Lib.objectInit ∈ lw_g := mem_t 135 (by decide +kernel) rfl
theorem w_163 : Cond.classLink RX2 25 RX5 ∈ lw_g := mem_t 163 (by decide +kernel) rfl
theorem w_164 : Cond.methodLink RX2 27 yX5_init ∈ lw_g := mem_t 164 (by decide +kernel) rfl
theorem w_165 : Cond.classLink RX2 34 RX3 ∈ lw_g := mem_t 165 (by decide +kernel) rfl
theorem w_166 : Cond.methodLink RX2 36 yX3_init ∈ lw_g := mem_t 166 (by decide +kernel) rfl
theorem w_213 : Cond.classLink RX7 29 RX1 ∈ lw_g := mem_t 213 (by decide +kernel) rfl
theorem w_770 : Cond.methodLink RX8 1 Lib.objectInit ∈ lw_g := mem_t 770 (by decide +kernel) rfl
theorem w_850 : Cond.arrayClass .boolean ∈ lw_g := mem_t 850 (by decide +kernel) rfl
theorem dX0_init_0 : decode cX0_init 0 = .ok (.aload_n 0, 1) := by decide +kernel
theorem dX0_init_1 : decode cX0_init 1 = .ok (.invokespecial 3, 3) := by decide +kernel
theorem dX0_init_4 : decode cX0_init 4 = .ok (.aload_n 0, 1) := by decide +kernel
theorem dX0_init_5 : decode cX0_init 5 = .ok (.new 9, 3) := by decide +kernel
theorem dX0_init_8 : decode cX0_init 8 = .ok (.dup, 1) := by decide +kernel
theorem dX0_init_9 : decode cX0_init 9 = .ok (.bipush 96, 2) := by decide +kernel
theorem dX0_init_11 : decode cX0_init 11 = .ok (.invokespecial 11, 3) := by decide +kernel
theorem dX0_init_14 : decode cX0_init 14 = .ok (.putfield 14, 3) := by decide +kernel
theorem dX0_init_17 : decode cX0_init 17 = .ok (.aload_n 0, 1) := by decide +kernel
theorem dX0_init_18 : decode cX0_init 18 = .ok (.new 9, 3) := by decide +kernel
theorem dX0_init_21 : decode cX0_init 21 = .ok (.dup, 1) := by decide +kernel
theorem dX0_init_22 : decode cX0_init 22 = .ok (.bipush 33, 2) := by decide +kernel
theorem dX0_init_24 : decode cX0_init 24 = .ok (.invokespecial 11, 3) := by decide +kernel
theorem dX0_init_27 : decode cX0_init 27 = .ok (.putfield 20, 3) := by decide +kernel
theorem dX0_init_30 : decode cX0_init 30 = .ok (.aload_n 0, 1) := by decide +kernel
theorem dX0_init_31 : decode cX0_init 31 = .ok (.new 23, 3) := by decide +kernel
theorem dX0_init_34 : decode cX0_init 34 = .ok (.dup, 1) := by decide +kernel
theorem dX0_init_35 : decode cX0_init 35 = .ok (.invokespecial 25, 3) := by decide +kernel
theorem dX0_init_38 : decode cX0_init 38 = .ok (.putfield 26, 3) := by decide +kernel
theorem dX0_init_41 : decode cX0_init 41 = .ok (.aload_n 0, 1) := by decide +kernel
theorem dX0_init_42 : decode cX0_init 42 = .ok (.new 30, 3) := by decide +kernel
theorem dX0_init_45 : decode cX0_init 45 = .ok (.dup, 1) := by decide +kernel
theorem dX0_init_46 : decode cX0_init 46 = .ok (.sipush 196, 3) := by decide +kernel
theorem dX0_init_49 : decode cX0_init 49 = .ok (.iconst 3, 1) := by decide +kernel
theorem dX0_init_50 : decode cX0_init 50 = .ok (.invokespecial 32, 3) := by decide +kernel
theorem dX0_init_53 : decode cX0_init 53 = .ok (.putfield 35, 3) := by decide +kernel
theorem dX0_init_56 : decode cX0_init 56 = .ok (.return_, 1) := by decide +kernel
theorem dX1_init_0 : decode cX1_init 0 = .ok (.aload_n 0, 1) := by decide +kernel
theorem dX1_init_1 : decode cX1_init 1 = .ok (.invokespecial 1, 3) := by decide +kernel
theorem dX1_init_4 : decode cX1_init 4 = .ok (.return_, 1) := by decide +kernel
theorem dX2_init_0 : decode cX2_init 0 = .ok (.aload_n 0, 1) := by decide +kernel
theorem dX2_init_1 : decode cX2_init 1 = .ok (.invokespecial 3, 3) := by decide +kernel
theorem dX2_init_4 : decode cX2_init 4 = .ok (.aload_n 0, 1) := by decide +kernel
theorem dX2_init_5 : decode cX2_init 5 = .ok (.new 9, 3) := by decide +kernel
theorem dX2_init_8 : decode cX2_init 8 = .ok (.dup, 1) := by decide +kernel
theorem dX2_init_9 : decode cX2_init 9 = .ok (.invokespecial 11, 3) := by decide +kernel
theorem dX2_init_12 : decode cX2_init 12 = .ok (.putfield 12, 3) := by decide +kernel
theorem dX2_init_15 : decode cX2_init 15 = .ok (.aload_n 0, 1) := by decide +kernel
theorem dX2_init_16 : decode cX2_init 16 = .ok (.new 18, 3) := by decide +kernel
theorem dX2_init_19 : decode cX2_init 19 = .ok (.dup, 1) := by decide +kernel
theorem dX2_init_20 : decode cX2_init 20 = .ok (.invokespecial 20, 3) := by decide +kernel
theorem dX2_init_23 : decode cX2_init 23 = .ok (.putfield 21, 3) := by decide +kernel
theorem dX2_init_26 : decode cX2_init 26 = .ok (.aload_n 0, 1) := by decide +kernel
theorem dX2_init_27 : decode cX2_init 27 = .ok (.new 25, 3) := by decide +kernel
theorem dX2_init_30 : decode cX2_init 30 = .ok (.dup, 1) := by decide +kernel
theorem dX2_init_31 : decode cX2_init 31 = .ok (.iconst 4, 1) := by decide +kernel
theorem dX2_init_32 : decode cX2_init 32 = .ok (.bipush 6, 2) := by decide +kernel
theorem dX2_init_34 : decode cX2_init 34 = .ok (.invokespecial 27, 3) := by decide +kernel
theorem dX2_init_37 : decode cX2_init 37 = .ok (.putfield 30, 3) := by decide +kernel
theorem dX2_init_40 : decode cX2_init 40 = .ok (.aload_n 0, 1) := by decide +kernel
theorem dX2_init_41 : decode cX2_init 41 = .ok (.new 34, 3) := by decide +kernel
theorem dX2_init_44 : decode cX2_init 44 = .ok (.dup, 1) := by decide +kernel
theorem dX2_init_45 : decode cX2_init 45 = .ok (.bipush 32, 2) := by decide +kernel
theorem dX2_init_47 : decode cX2_init 47 = .ok (.invokespecial 36, 3) := by decide +kernel
theorem dX2_init_50 : decode cX2_init 50 = .ok (.putfield 39, 3) := by decide +kernel
theorem dX2_init_53 : decode cX2_init 53 = .ok (.return_, 1) := by decide +kernel
theorem dX3_init_0 : decode cX3_init 0 = .ok (.aload_n 0, 1) := by decide +kernel
theorem dX3_init_1 : decode cX3_init 1 = .ok (.invokespecial 1, 3) := by decide +kernel
theorem dX3_init_4 : decode cX3_init 4 = .ok (.aload_n 0, 1) := by decide +kernel
theorem dX3_init_5 : decode cX3_init 5 = .ok (.iload_n 1, 1) := by decide +kernel
theorem dX3_init_6 : decode cX3_init 6 = .ok (.iconst 0, 1) := by decide +kernel
theorem dX3_init_7 : decode cX3_init 7 = .ok (.invokestatic 7, 3) := by decide +kernel
theorem dX3_init_10 : decode cX3_init 10 = .ok (.newarray .int, 2) := by decide +kernel
theorem dX3_init_12 : decode cX3_init 12 = .ok (.putfield 13, 3) := by decide +kernel
theorem dX3_init_15 : decode cX3_init 15 = .ok (.aload_n 0, 1) := by decide +kernel
theorem dX3_init_16 : decode cX3_init 16 = .ok (.iconst 0, 1) := by decide +kernel
theorem dX3_init_17 : decode cX3_init 17 = .ok (.putfield 19, 3) := by decide +kernel
theorem dX3_init_20 : decode cX3_init 20 = .ok (.return_, 1) := by decide +kernel
theorem dX4_init_0 : decode cX4_init 0 = .ok (.aload_n 0, 1) := by decide +kernel
theorem dX4_init_1 : decode cX4_init 1 = .ok (.invokespecial 3, 3) := by decide +kernel
theorem dX4_init_4 : decode cX4_init 4 = .ok (.aload_n 0, 1) := by decide +kernel
theorem dX4_init_5 : decode cX4_init 5 = .ok (.new 9, 3) := by decide +kernel
theorem dX4_init_8 : decode cX4_init 8 = .ok (.dup, 1) := by decide +kernel
theorem dX4_init_9 : decode cX4_init 9 = .ok (.bipush 48, 2) := by decide +kernel
theorem dX4_init_11 : decode cX4_init 11 = .ok (.bipush 17, 2) := by decide +kernel
theorem dX4_init_13 : decode cX4_init 13 = .ok (.invokespecial 13, 3) := by decide +kernel
theorem dX4_init_16 : decode cX4_init 16 = .ok (.putfield 16, 3) := by decide +kernel
theorem dX4_init_19 : decode cX4_init 19 = .ok (.aload_n 0, 1) := by decide +kernel
theorem dX4_init_20 : decode cX4_init 20 = .ok (.new 9, 3) := by decide +kernel
theorem dX4_init_23 : decode cX4_init 23 = .ok (.dup, 1) := by decide +kernel
theorem dX4_init_24 : decode cX4_init 24 = .ok (.bipush 12, 2) := by decide +kernel
theorem dX4_init_26 : decode cX4_init 26 = .ok (.iconst 3, 1) := by decide +kernel
theorem dX4_init_27 : decode cX4_init 27 = .ok (.invokespecial 13, 3) := by decide +kernel
theorem dX4_init_30 : decode cX4_init 30 = .ok (.putfield 20, 3) := by decide +kernel
theorem dX4_init_33 : decode cX4_init 33 = .ok (.aload_n 0, 1) := by decide +kernel
theorem dX4_init_34 : decode cX4_init 34 = .ok (.new 23, 3) := by decide +kernel
theorem dX4_init_37 : decode cX4_init 37 = .ok (.dup, 1) := by decide +kernel
theorem dX4_init_38 : decode cX4_init 38 = .ok (.sipush 1024, 3) := by decide +kernel
theorem dX4_init_41 : decode cX4_init 41 = .ok (.invokespecial 25, 3) := by decide +kernel
theorem dX4_init_44 : decode cX4_init 44 = .ok (.putfield 28, 3) := by decide +kernel
theorem dX4_init_47 : decode cX4_init 47 = .ok (.aload_n 0, 1) := by decide +kernel
theorem dX4_init_48 : decode cX4_init 48 = .ok (.new 9, 3) := by decide +kernel
theorem dX4_init_51 : decode cX4_init 51 = .ok (.dup, 1) := by decide +kernel
theorem dX4_init_52 : decode cX4_init 52 = .ok (.iconst 3, 1) := by decide +kernel
theorem dX4_init_53 : decode cX4_init 53 = .ok (.bipush 16, 2) := by decide +kernel
theorem dX4_init_55 : decode cX4_init 55 = .ok (.invokespecial 13, 3) := by decide +kernel
theorem dX4_init_58 : decode cX4_init 58 = .ok (.putfield 32, 3) := by decide +kernel
theorem dX4_init_61 : decode cX4_init 61 = .ok (.return_, 1) := by decide +kernel
theorem dX5_init_0 : decode cX5_init 0 = .ok (.aload_n 0, 1) := by decide +kernel
theorem dX5_init_1 : decode cX5_init 1 = .ok (.invokespecial 1, 3) := by decide +kernel
theorem dX5_init_4 : decode cX5_init 4 = .ok (.aload_n 0, 1) := by decide +kernel
theorem dX5_init_5 : decode cX5_init 5 = .ok (.iload_n 1, 1) := by decide +kernel
theorem dX5_init_6 : decode cX5_init 6 = .ok (.iconst 0, 1) := by decide +kernel
theorem dX5_init_7 : decode cX5_init 7 = .ok (.invokestatic 7, 3) := by decide +kernel
theorem dX5_init_10 : decode cX5_init 10 = .ok (.putfield 13, 3) := by decide +kernel
theorem dX5_init_13 : decode cX5_init 13 = .ok (.aload_n 0, 1) := by decide +kernel
theorem dX5_init_14 : decode cX5_init 14 = .ok (.iload_n 2, 1) := by decide +kernel
theorem dX5_init_15 : decode cX5_init 15 = .ok (.iconst 0, 1) := by decide +kernel
theorem dX5_init_16 : decode cX5_init 16 = .ok (.invokestatic 7, 3) := by decide +kernel
theorem dX5_init_19 : decode cX5_init 19 = .ok (.putfield 19, 3) := by decide +kernel
theorem dX5_init_22 : decode cX5_init 22 = .ok (.aload_n 0, 1) := by decide +kernel
theorem dX5_init_23 : decode cX5_init 23 = .ok (.aload_n 0, 1) := by decide +kernel
theorem dX5_init_24 : decode cX5_init 24 = .ok (.getfield 13, 3) := by decide +kernel
theorem dX5_init_27 : decode cX5_init 27 = .ok (.aload_n 0, 1) := by decide +kernel
theorem dX5_init_28 : decode cX5_init 28 = .ok (.getfield 19, 3) := by decide +kernel
theorem dX5_init_31 : decode cX5_init 31 = .ok (.imul, 1) := by decide +kernel
theorem dX5_init_32 : decode cX5_init 32 = .ok (.iconst 0, 1) := by decide +kernel
theorem dX5_init_33 : decode cX5_init 33 = .ok (.invokestatic 7, 3) := by decide +kernel
theorem dX5_init_36 : decode cX5_init 36 = .ok (.newarray .int, 2) := by decide +kernel
theorem dX5_init_38 : decode cX5_init 38 = .ok (.putfield 22, 3) := by decide +kernel
theorem dX5_init_41 : decode cX5_init 41 = .ok (.aload_n 0, 1) := by decide +kernel
theorem dX5_init_42 : decode cX5_init 42 = .ok (.iconst 0, 1) := by decide +kernel
theorem dX5_init_43 : decode cX5_init 43 = .ok (.putfield 26, 3) := by decide +kernel
theorem dX5_init_46 : decode cX5_init 46 = .ok (.return_, 1) := by decide +kernel
theorem dX7_init_0 : decode cX7_init 0 = .ok (.aload_n 0, 1) := by decide +kernel
theorem dX7_init_1 : decode cX7_init 1 = .ok (.invokespecial 1, 3) := by decide +kernel
theorem dX7_init_4 : decode cX7_init 4 = .ok (.aload_n 0, 1) := by decide +kernel
theorem dX7_init_5 : decode cX7_init 5 = .ok (.new 7, 3) := by decide +kernel
theorem dX7_init_8 : decode cX7_init 8 = .ok (.dup, 1) := by decide +kernel
theorem dX7_init_9 : decode cX7_init 9 = .ok (.invokespecial 9, 3) := by decide +kernel
theorem dX7_init_12 : decode cX7_init 12 = .ok (.putfield 10, 3) := by decide +kernel
theorem dX7_init_15 : decode cX7_init 15 = .ok (.aload_n 0, 1) := by decide +kernel
theorem dX7_init_16 : decode cX7_init 16 = .ok (.new 7, 3) := by decide +kernel
theorem dX7_init_19 : decode cX7_init 19 = .ok (.dup, 1) := by decide +kernel
theorem dX7_init_20 : decode cX7_init 20 = .ok (.invokespecial 9, 3) := by decide +kernel
theorem dX7_init_23 : decode cX7_init 23 = .ok (.putfield 16, 3) := by decide +kernel
theorem dX7_init_26 : decode cX7_init 26 = .ok (.aload_n 0, 1) := by decide +kernel
theorem dX7_init_27 : decode cX7_init 27 = .ok (.new 7, 3) := by decide +kernel
theorem dX7_init_30 : decode cX7_init 30 = .ok (.dup, 1) := by decide +kernel
theorem dX7_init_31 : decode cX7_init 31 = .ok (.invokespecial 9, 3) := by decide +kernel
theorem dX7_init_34 : decode cX7_init 34 = .ok (.putfield 19, 3) := by decide +kernel
theorem dX7_init_37 : decode cX7_init 37 = .ok (.aload_n 0, 1) := by decide +kernel
theorem dX7_init_38 : decode cX7_init 38 = .ok (.new 22, 3) := by decide +kernel
theorem dX7_init_41 : decode cX7_init 41 = .ok (.dup, 1) := by decide +kernel
theorem dX7_init_42 : decode cX7_init 42 = .ok (.invokespecial 24, 3) := by decide +kernel
theorem dX7_init_45 : decode cX7_init 45 = .ok (.putfield 25, 3) := by decide +kernel
theorem dX7_init_48 : decode cX7_init 48 = .ok (.aload_n 0, 1) := by decide +kernel
theorem dX7_init_49 : decode cX7_init 49 = .ok (.new 29, 3) := by decide +kernel
theorem dX7_init_52 : decode cX7_init 52 = .ok (.dup, 1) := by decide +kernel
theorem dX7_init_53 : decode cX7_init 53 = .ok (.invokespecial 31, 3) := by decide +kernel
theorem dX7_init_56 : decode cX7_init 56 = .ok (.putfield 32, 3) := by decide +kernel
theorem dX7_init_59 : decode cX7_init 59 = .ok (.aload_n 0, 1) := by decide +kernel
theorem dX7_init_60 : decode cX7_init 60 = .ok (.iconst 0, 1) := by decide +kernel
theorem dX7_init_61 : decode cX7_init 61 = .ok (.putfield 36, 3) := by decide +kernel
theorem dX7_init_64 : decode cX7_init 64 = .ok (.return_, 1) := by decide +kernel
theorem dX8_init_0 : decode cX8_init 0 = .ok (.aload_n 0, 1) := by decide +kernel
theorem dX8_init_1 : decode cX8_init 1 = .ok (.invokespecial 1, 3) := by decide +kernel
theorem dX8_init_4 : decode cX8_init 4 = .ok (.aload_n 0, 1) := by decide +kernel
theorem dX8_init_5 : decode cX8_init 5 = .ok (.sipush 3293, 3) := by decide +kernel
theorem dX8_init_8 : decode cX8_init 8 = .ok (.newarray .int, 2) := by decide +kernel
theorem dX8_init_10 : decode cX8_init 10 = .ok (.putfield 7, 3) := by decide +kernel
theorem dX8_init_13 : decode cX8_init 13 = .ok (.aload_n 0, 1) := by decide +kernel
theorem dX8_init_14 : decode cX8_init 14 = .ok (.sipush 6586, 3) := by decide +kernel
theorem dX8_init_17 : decode cX8_init 17 = .ok (.newarray .int, 2) := by decide +kernel
theorem dX8_init_19 : decode cX8_init 19 = .ok (.putfield 13, 3) := by decide +kernel
theorem dX8_init_22 : decode cX8_init 22 = .ok (.aload_n 0, 1) := by decide +kernel
theorem dX8_init_23 : decode cX8_init 23 = .ok (.iconst 2, 1) := by decide +kernel
theorem dX8_init_24 : decode cX8_init 24 = .ok (.newarray .boolean, 2) := by decide +kernel
theorem dX8_init_26 : decode cX8_init 26 = .ok (.putfield 16, 3) := by decide +kernel
theorem dX8_init_29 : decode cX8_init 29 = .ok (.aload_n 0, 1) := by decide +kernel
theorem dX8_init_30 : decode cX8_init 30 = .ok (.bipush 6, 2) := by decide +kernel
theorem dX8_init_32 : decode cX8_init 32 = .ok (.newarray .int, 2) := by decide +kernel
theorem dX8_init_34 : decode cX8_init 34 = .ok (.putfield 20, 3) := by decide +kernel
theorem dX8_init_37 : decode cX8_init 37 = .ok (.aload_n 0, 1) := by decide +kernel
theorem dX8_init_38 : decode cX8_init 38 = .ok (.bipush 24, 2) := by decide +kernel
theorem dX8_init_40 : decode cX8_init 40 = .ok (.newarray .int, 2) := by decide +kernel
theorem dX8_init_42 : decode cX8_init 42 = .ok (.putfield 23, 3) := by decide +kernel
theorem dX8_init_45 : decode cX8_init 45 = .ok (.aload_n 0, 1) := by decide +kernel
theorem dX8_init_46 : decode cX8_init 46 = .ok (.bipush 32, 2) := by decide +kernel
theorem dX8_init_48 : decode cX8_init 48 = .ok (.newarray .int, 2) := by decide +kernel
theorem dX8_init_50 : decode cX8_init 50 = .ok (.putfield 26, 3) := by decide +kernel
theorem dX8_init_53 : decode cX8_init 53 = .ok (.aload_n 0, 1) := by decide +kernel
theorem dX8_init_54 : decode cX8_init 54 = .ok (.bipush 12, 2) := by decide +kernel
theorem dX8_init_56 : decode cX8_init 56 = .ok (.newarray .int, 2) := by decide +kernel
theorem dX8_init_58 : decode cX8_init 58 = .ok (.putfield 29, 3) := by decide +kernel
theorem dX8_init_61 : decode cX8_init 61 = .ok (.aload_n 0, 1) := by decide +kernel
theorem dX8_init_62 : decode cX8_init 62 = .ok (.bipush 48, 2) := by decide +kernel
theorem dX8_init_64 : decode cX8_init 64 = .ok (.newarray .int, 2) := by decide +kernel
theorem dX8_init_66 : decode cX8_init 66 = .ok (.putfield 32, 3) := by decide +kernel
theorem dX8_init_69 : decode cX8_init 69 = .ok (.aload_n 0, 1) := by decide +kernel
theorem dX8_init_70 : decode cX8_init 70 = .ok (.bipush 32, 2) := by decide +kernel
theorem dX8_init_72 : decode cX8_init 72 = .ok (.newarray .int, 2) := by decide +kernel
theorem dX8_init_74 : decode cX8_init 74 = .ok (.putfield 35, 3) := by decide +kernel
theorem dX8_init_77 : decode cX8_init 77 = .ok (.return_, 1) := by decide +kernel
set_option maxRecDepth 20000 in
theorem c_X3_init (G : Hp) (a : Nat) (lim : Nat) (hlim : lim < 10000) : Ctor yX3_init cX3_init 2 1 1 lim [.ref a, .int (nI lim)] (ov a [.inl (3, [.null, .int 0])] G) (a + 1) (ov a [.inl (3, [.ref (a + 1), .int 0]), .inr (false, lim, fun _ => 0)] G) := by
  refine Ctor.of (by decide +kernel) (Nat.le_refl 2) rfl 20 dX3_init_20 fun Γ sa hO hfr hin hcap hend => ?_
  have hcap : cap Γ = (1, lim) := hcap
  show Wc Γ 0 0 (a + 1) 0 [some (.ref a), some (.int (nI lim))] [] (ov a [.inl (3, [.null, .int 0])] G)
  refine c_aloadn hO dX3_init_0 rfl ?_
  refine c_obj hO (by decide) dX3_init_1 w_36 w_23 w_24 (Nat.le_of_ble_eq_true rfl) ?_
  refine c_aloadn hO dX3_init_4 rfl ?_
  refine c_iloadn hO dX3_init_5 rfl ?_
  refine c_iconst hO dX3_init_6 (v := 0) (by decide) ?_
  refine c_max hO (by decide) (v := (nI lim)) dX3_init_7 w_37 w_38 w_4 w_39 (Nat.le_of_ble_eq_true rfl) (by rw [hcap]; exact ⟨by omega, by omega⟩) (by rw [if_neg (nI_pos (by omega))]) ?_
  refine c_newI hO (hfr.mono (by omega)) dX3_init_10 w_47 (N := lim) rfl (by omega) (by rw [hcap]; exact ⟨by omega, by omega⟩) ?_
  rw [ov_new a (sz := 1) rfl]
  show Wc Γ 1 (0 + lim) (a + 2) 12 [some (.ref a), some (.int (nI lim))] [.ref (a + 1), .ref a] (ov a [.inl (3, [.null, .int 0]), .inr (false, lim, fun _ => 0)] G)
  refine c_putF hO hin FX3 0 (by decide) (by decide) rfl w_40 dX3_init_12 rfl rfl (ov_putF (j := 0) rfl (Nat.le_of_ble_eq_true rfl)) ?_
  show Wc Γ 1 (0 + lim) (a + 2) 15 [some (.ref a), some (.int (nI lim))] [] (ov a [.inl (3, [.ref (a + 1), .int 0]), .inr (false, lim, fun _ => 0)] G)
  refine c_aloadn hO dX3_init_15 rfl ?_
  refine c_iconst hO dX3_init_16 (v := 0) (by decide) ?_
  refine c_put hO FX3 1 (by decide) (by decide) w_41 dX3_init_17 rfl rfl (ov_putF (j := 0) rfl (Nat.le_of_ble_eq_true rfl)) ?_
  show Wc Γ 1 (0 + lim) (a + 2) 20 [some (.ref a), some (.int (nI lim))] [] (ov a [.inl (3, [.ref (a + 1), .int 0]), .inr (false, lim, fun _ => 0)] G)
  rw [Nat.zero_add]
  exact hend _
set_option maxRecDepth 20000 in
theorem c_X5_init (G : Hp) (a : Nat) (lr lc : Nat) (hlim : lr < 10000 ∧ lc < 10000 ∧ lr * lc < 10000) : Ctor yX5_init cX5_init 3 1 1 (lr * lc) [.ref a, .int (nI lr), .int (nI lc)] (ov a [.inl (5, [.int 0, .int 0, .null, .int 0])] G) (a + 1) (ov a [.inl (5, [.int (nI lr), .int (nI lc), .ref (a + 1), .int 0]), .inr (false, (lr * lc), fun _ => 0)] G) := by
  refine Ctor.of (by decide +kernel) (Nat.le_refl 3) rfl 46 dX5_init_46 fun Γ sa hO hfr hin hcap hend => ?_
  have hcap : cap Γ = (1, (lr * lc)) := hcap
  show Wc Γ 0 0 (a + 1) 0 [some (.ref a), some (.int (nI lr)), some (.int (nI lc))] [] (ov a [.inl (5, [.int 0, .int 0, .null, .int 0])] G)
  obtain ⟨hl1, hl2, hl3⟩ := hlim
  refine c_aloadn hO dX5_init_0 rfl ?_
  refine c_obj hO (by decide) dX5_init_1 w_59 w_23 w_24 (Nat.le_of_ble_eq_true rfl) ?_
  refine c_aloadn hO dX5_init_4 rfl ?_
  refine c_iloadn hO dX5_init_5 rfl ?_
  refine c_iconst hO dX5_init_6 (v := 0) (by decide) ?_
  refine c_max hO (by decide) (v := (nI lr)) dX5_init_7 w_60 w_38 w_4 w_39 (Nat.le_of_ble_eq_true rfl) (by rw [hcap]; exact ⟨by omega, by omega⟩) (by rw [if_neg (nI_pos (by omega))]) ?_
  refine c_putF hO hin FX5 0 (by decide) (by decide) rfl w_61 dX5_init_10 rfl rfl (ov_putF (j := 0) rfl (Nat.le_of_ble_eq_true rfl)) ?_
  show Wc Γ 0 (0) (a + 1) 13 [some (.ref a), some (.int (nI lr)), some (.int (nI lc))] [] (ov a [.inl (5, [.int (nI lr), .int 0, .null, .int 0])] G)
  refine c_aloadn hO dX5_init_13 rfl ?_
  refine c_iloadn hO dX5_init_14 rfl ?_
  refine c_iconst hO dX5_init_15 (v := 0) (by decide) ?_
  refine c_max hO (by decide) (v := (nI lc)) dX5_init_16 w_60 w_38 w_4 w_39 (Nat.le_of_ble_eq_true rfl) (by rw [hcap]; exact ⟨by omega, by omega⟩) (by rw [if_neg (nI_pos (by omega))]) ?_
  refine c_putF hO hin FX5 1 (by decide) (by decide) rfl w_62 dX5_init_19 rfl rfl (ov_putF (j := 0) rfl (Nat.le_of_ble_eq_true rfl)) ?_
  show Wc Γ 0 (0) (a + 1) 22 [some (.ref a), some (.int (nI lr)), some (.int (nI lc))] [] (ov a [.inl (5, [.int (nI lr), .int (nI lc), .null, .int 0])] G)
  refine c_aloadn hO dX5_init_22 rfl ?_
  refine c_aloadn hO dX5_init_23 rfl ?_
  refine c_getI hO FX5 0 (by decide) w_61 dX5_init_24 (v := .int (nI lr)) (ov_getF (j := 0) rfl rfl) ?_
  refine c_aloadn hO dX5_init_27 rfl ?_
  refine c_getI hO FX5 1 (by decide) w_62 dX5_init_28 (v := .int (nI lc)) (ov_getF (j := 0) rfl rfl) ?_
  refine c_mul hO dX5_init_31 ?_
  rw [pk_mul]
  refine c_iconst hO dX5_init_32 (v := 0) (by decide) ?_
  refine c_max hO (by decide) (v := (nI (lr * lc))) dX5_init_33 w_60 w_38 w_4 w_39 (Nat.le_of_ble_eq_true rfl) (by rw [hcap]; exact ⟨by omega, by omega⟩) (by rw [if_neg (nI_pos (by omega))]) ?_
  refine c_newI hO (hfr.mono (by omega)) dX5_init_36 w_47 (N := (lr * lc)) rfl (by omega) (by rw [hcap]; exact ⟨by omega, by omega⟩) ?_
  rw [ov_new a (sz := 1) rfl]
  show Wc Γ 1 (0 + ((lr * lc))) (a + 2) 38 [some (.ref a), some (.int (nI lr)), some (.int (nI lc))] [.ref (a + 1), .ref a] (ov a [.inl (5, [.int (nI lr), .int (nI lc), .null, .int 0]), .inr (false, (lr * lc), fun _ => 0)] G)
  refine c_putF hO hin FX5 2 (by decide) (by decide) rfl w_63 dX5_init_38 rfl rfl (ov_putF (j := 0) rfl (Nat.le_of_ble_eq_true rfl)) ?_
  show Wc Γ 1 (0 + ((lr * lc))) (a + 2) 41 [some (.ref a), some (.int (nI lr)), some (.int (nI lc))] [] (ov a [.inl (5, [.int (nI lr), .int (nI lc), .ref (a + 1), .int 0]), .inr (false, (lr * lc), fun _ => 0)] G)
  refine c_aloadn hO dX5_init_41 rfl ?_
  refine c_iconst hO dX5_init_42 (v := 0) (by decide) ?_
  refine c_put hO FX5 3 (by decide) (by decide) w_64 dX5_init_43 rfl rfl (ov_putF (j := 0) rfl (Nat.le_of_ble_eq_true rfl)) ?_
  show Wc Γ 1 (0 + ((lr * lc))) (a + 2) 46 [some (.ref a), some (.int (nI lr)), some (.int (nI lc))] [] (ov a [.inl (5, [.int (nI lr), .int (nI lc), .ref (a + 1), .int 0]), .inr (false, (lr * lc), fun _ => 0)] G)
  rw [Nat.zero_add]
  exact hend _
set_option maxRecDepth 20000 in
theorem c_X1_init (G : Hp) (a : Nat) : Ctor yX1_init cX1_init 1 1 0 0 [.ref a] (ov a [.inl (1, [.int 0, .int 0, .int 0, .int 0, .int 0, .int 0])] G) (a + 1) (ov a [.inl (1, [.int 0, .int 0, .int 0, .int 0, .int 0, .int 0])] G) := by
  refine Ctor.of (by decide +kernel) (Nat.le_refl 1) rfl 4 dX1_init_4 fun Γ sa hO hfr hin hcap hend => ?_
  have hcap : cap Γ = (0, 0) := hcap
  show Wc Γ 0 0 (a + 1) 0 [some (.ref a)] [] (ov a [.inl (1, [.int 0, .int 0, .int 0, .int 0, .int 0, .int 0])] G)
  refine c_aloadn hO dX1_init_0 rfl ?_
  refine c_obj hO (by decide) dX1_init_1 w_135 w_23 w_24 (Nat.le_of_ble_eq_true rfl) ?_
  exact hend _
set_option maxRecDepth 20000 in
theorem c_X4_init (G : Hp) (a : Nat) : Ctor yX4_init cX4_init 1 2 8 1938 [.ref a] (ov a [.inl (4, [.null, .null, .null, .null])] G) (a + 1) (ov a [.inl (4, [.ref (a + 1), .ref (a + 3), .ref (a + 5), .ref (a + 7)]), .inl (5, [.int 48, .int 17, .ref (a + 2), .int 0]), .inr (false, 816, fun _ => 0), .inl (5, [.int 12, .int 3, .ref (a + 4), .int 0]), .inr (false, 36, fun _ => 0), .inl (3, [.ref (a + 6), .int 0]), .inr (false, 1024, fun _ => 0), .inl (5, [.int 3, .int 16, .ref (a + 8), .int 0]), .inr (false, 48, fun _ => 0)] G) := by
  refine Ctor.of (by decide +kernel) (Nat.le_refl 1) rfl 61 dX4_init_61 fun Γ sa hO hfr hin hcap hend => ?_
  have hcap : cap Γ = (8, 1938) := hcap
  show Wc Γ 0 0 (a + 1) 0 [some (.ref a)] [] (ov a [.inl (4, [.null, .null, .null, .null])] G)
  refine c_aloadn hO dX4_init_0 rfl ?_
  refine c_obj hO (by decide) dX4_init_1 w_53 w_23 w_24 (Nat.le_of_ble_eq_true rfl) ?_
  refine c_aloadn hO dX4_init_4 rfl ?_
  refine c_new hO (hfr.mono (by omega)) FX5 dX4_init_5 w_54 w_55 w_6 [.int 0, .int 0, .null, .int 0] (by decide +kernel) (by rw [hcap]; exact ⟨by omega, by omega⟩) ?_
  rw [ov_new a (sz := 1) rfl]
  show Wc Γ 1 (0 + 4) (a + 2) 8 [some (.ref a)] [.ref (a + 1), .ref a] (ov a [.inl (4, [.null, .null, .null, .null]), .inl (5, [.int 0, .int 0, .null, .int 0])] G)
  refine c_dup hO dX4_init_8 ?_
  refine c_bipush hO dX4_init_9 (v := 48) (by decide) ?_
  refine c_bipush hO dX4_init_11 (v := 17) (by decide) ?_
  have hc := c_X5_init (ov a [.inl (4, [.null, .null, .null, .null])] G) (a + 1) 48 17 (by decide)
  rw [ov_ov a (sz := 1) rfl] at hc
  try rw [ov_ov a (sz := 1) rfl] at hc
  refine c_call hO (hfr.mono (by omega)) w_58 w_6 w_57 rfl ⟨by decide +kernel, by decide +kernel, by decide +kernel⟩ (by decide) (by decide) w_56 dX4_init_13 hc rfl (Nat.le_of_ble_eq_true rfl) (by rw [hcap]; exact ⟨by omega, by omega⟩) ?_
  show Wc Γ 2 (0 + 4 + 816) (a + 3) 16 [some (.ref a)] [.ref (a + 1), .ref a] (ov a [.inl (4, [.null, .null, .null, .null]), .inl (5, [.int 48, .int 17, .ref (a + 2), .int 0]), .inr (false, 816, fun _ => 0)] G)
  refine c_putF hO hin FX4 0 (by decide) (by decide) rfl w_76 dX4_init_16 rfl rfl (ov_putF (j := 0) rfl (Nat.le_of_ble_eq_true rfl)) ?_
  show Wc Γ 2 (0 + 4 + 816) (a + 3) 19 [some (.ref a)] [] (ov a [.inl (4, [.ref (a + 1), .null, .null, .null]), .inl (5, [.int 48, .int 17, .ref (a + 2), .int 0]), .inr (false, 816, fun _ => 0)] G)
  refine c_aloadn hO dX4_init_19 rfl ?_
  refine c_new hO (hfr.mono (by omega)) FX5 dX4_init_20 w_54 w_55 w_6 [.int 0, .int 0, .null, .int 0] (by decide +kernel) (by rw [hcap]; exact ⟨by omega, by omega⟩) ?_
  rw [ov_new a (sz := 3) rfl]
  show Wc Γ 3 (0 + 4 + 816 + 4) (a + 4) 23 [some (.ref a)] [.ref (a + 3), .ref a] (ov a [.inl (4, [.ref (a + 1), .null, .null, .null]), .inl (5, [.int 48, .int 17, .ref (a + 2), .int 0]), .inr (false, 816, fun _ => 0), .inl (5, [.int 0, .int 0, .null, .int 0])] G)
  refine c_dup hO dX4_init_23 ?_
  refine c_bipush hO dX4_init_24 (v := 12) (by decide) ?_
  refine c_iconst hO dX4_init_26 (v := 3) (by decide) ?_
  have hc := c_X5_init (ov a [.inl (4, [.ref (a + 1), .null, .null, .null]), .inl (5, [.int 48, .int 17, .ref (a + 2), .int 0]), .inr (false, 816, fun _ => 0)] G) (a + 3) 12 3 (by decide)
  rw [ov_ov a (sz := 3) rfl] at hc
  try rw [ov_ov a (sz := 3) rfl] at hc
  refine c_call hO (hfr.mono (by omega)) w_58 w_6 w_57 rfl ⟨by decide +kernel, by decide +kernel, by decide +kernel⟩ (by decide) (by decide) w_56 dX4_init_27 hc rfl (Nat.le_of_ble_eq_true rfl) (by rw [hcap]; exact ⟨by omega, by omega⟩) ?_
  show Wc Γ 4 (0 + 4 + 816 + 4 + 36) (a + 5) 30 [some (.ref a)] [.ref (a + 3), .ref a] (ov a [.inl (4, [.ref (a + 1), .null, .null, .null]), .inl (5, [.int 48, .int 17, .ref (a + 2), .int 0]), .inr (false, 816, fun _ => 0), .inl (5, [.int 12, .int 3, .ref (a + 4), .int 0]), .inr (false, 36, fun _ => 0)] G)
  refine c_putF hO hin FX4 1 (by decide) (by decide) rfl w_80 dX4_init_30 rfl rfl (ov_putF (j := 0) rfl (Nat.le_of_ble_eq_true rfl)) ?_
  show Wc Γ 4 (0 + 4 + 816 + 4 + 36) (a + 5) 33 [some (.ref a)] [] (ov a [.inl (4, [.ref (a + 1), .ref (a + 3), .null, .null]), .inl (5, [.int 48, .int 17, .ref (a + 2), .int 0]), .inr (false, 816, fun _ => 0), .inl (5, [.int 12, .int 3, .ref (a + 4), .int 0]), .inr (false, 36, fun _ => 0)] G)
  refine c_aloadn hO dX4_init_33 rfl ?_
  refine c_new hO (hfr.mono (by omega)) FX3 dX4_init_34 w_74 w_32 w_3 [.null, .int 0] (by decide +kernel) (by rw [hcap]; exact ⟨by omega, by omega⟩) ?_
  rw [ov_new a (sz := 5) rfl]
  show Wc Γ 5 (0 + 4 + 816 + 4 + 36 + 2) (a + 6) 37 [some (.ref a)] [.ref (a + 5), .ref a] (ov a [.inl (4, [.ref (a + 1), .ref (a + 3), .null, .null]), .inl (5, [.int 48, .int 17, .ref (a + 2), .int 0]), .inr (false, 816, fun _ => 0), .inl (5, [.int 12, .int 3, .ref (a + 4), .int 0]), .inr (false, 36, fun _ => 0), .inl (3, [.null, .int 0])] G)
  refine c_dup hO dX4_init_37 ?_
  refine c_sipush hO dX4_init_38 (v := 1024) (by decide) ?_
  have hc := c_X3_init (ov a [.inl (4, [.ref (a + 1), .ref (a + 3), .null, .null]), .inl (5, [.int 48, .int 17, .ref (a + 2), .int 0]), .inr (false, 816, fun _ => 0), .inl (5, [.int 12, .int 3, .ref (a + 4), .int 0]), .inr (false, 36, fun _ => 0)] G) (a + 5) 1024 (by decide)
  rw [ov_ov a (sz := 5) rfl] at hc
  try rw [ov_ov a (sz := 5) rfl] at hc
  refine c_call hO (hfr.mono (by omega)) w_35 w_3 w_34 rfl ⟨by decide +kernel, by decide +kernel, by decide +kernel⟩ (by decide) (by decide) w_75 dX4_init_41 hc rfl (Nat.le_of_ble_eq_true rfl) (by rw [hcap]; exact ⟨by omega, by omega⟩) ?_
  show Wc Γ 6 (0 + 4 + 816 + 4 + 36 + 2 + 1024) (a + 7) 44 [some (.ref a)] [.ref (a + 5), .ref a] (ov a [.inl (4, [.ref (a + 1), .ref (a + 3), .null, .null]), .inl (5, [.int 48, .int 17, .ref (a + 2), .int 0]), .inr (false, 816, fun _ => 0), .inl (5, [.int 12, .int 3, .ref (a + 4), .int 0]), .inr (false, 36, fun _ => 0), .inl (3, [.ref (a + 6), .int 0]), .inr (false, 1024, fun _ => 0)] G)
  refine c_putF hO hin FX4 2 (by decide) (by decide) rfl w_83 dX4_init_44 rfl rfl (ov_putF (j := 0) rfl (Nat.le_of_ble_eq_true rfl)) ?_
  show Wc Γ 6 (0 + 4 + 816 + 4 + 36 + 2 + 1024) (a + 7) 47 [some (.ref a)] [] (ov a [.inl (4, [.ref (a + 1), .ref (a + 3), .ref (a + 5), .null]), .inl (5, [.int 48, .int 17, .ref (a + 2), .int 0]), .inr (false, 816, fun _ => 0), .inl (5, [.int 12, .int 3, .ref (a + 4), .int 0]), .inr (false, 36, fun _ => 0), .inl (3, [.ref (a + 6), .int 0]), .inr (false, 1024, fun _ => 0)] G)
  refine c_aloadn hO dX4_init_47 rfl ?_
  refine c_new hO (hfr.mono (by omega)) FX5 dX4_init_48 w_54 w_55 w_6 [.int 0, .int 0, .null, .int 0] (by decide +kernel) (by rw [hcap]; exact ⟨by omega, by omega⟩) ?_
  rw [ov_new a (sz := 7) rfl]
  show Wc Γ 7 (0 + 4 + 816 + 4 + 36 + 2 + 1024 + 4) (a + 8) 51 [some (.ref a)] [.ref (a + 7), .ref a] (ov a [.inl (4, [.ref (a + 1), .ref (a + 3), .ref (a + 5), .null]), .inl (5, [.int 48, .int 17, .ref (a + 2), .int 0]), .inr (false, 816, fun _ => 0), .inl (5, [.int 12, .int 3, .ref (a + 4), .int 0]), .inr (false, 36, fun _ => 0), .inl (3, [.ref (a + 6), .int 0]), .inr (false, 1024, fun _ => 0), .inl (5, [.int 0, .int 0, .null, .int 0])] G)
  refine c_dup hO dX4_init_51 ?_
  refine c_iconst hO dX4_init_52 (v := 3) (by decide) ?_
  refine c_bipush hO dX4_init_53 (v := 16) (by decide) ?_
  have hc := c_X5_init (ov a [.inl (4, [.ref (a + 1), .ref (a + 3), .ref (a + 5), .null]), .inl (5, [.int 48, .int 17, .ref (a + 2), .int 0]), .inr (false, 816, fun _ => 0), .inl (5, [.int 12, .int 3, .ref (a + 4), .int 0]), .inr (false, 36, fun _ => 0), .inl (3, [.ref (a + 6), .int 0]), .inr (false, 1024, fun _ => 0)] G) (a + 7) 3 16 (by decide)
  rw [ov_ov a (sz := 7) rfl] at hc
  try rw [ov_ov a (sz := 7) rfl] at hc
  refine c_call hO (hfr.mono (by omega)) w_58 w_6 w_57 rfl ⟨by decide +kernel, by decide +kernel, by decide +kernel⟩ (by decide) (by decide) w_56 dX4_init_55 hc rfl (Nat.le_of_ble_eq_true rfl) (by rw [hcap]; exact ⟨by omega, by omega⟩) ?_
  show Wc Γ 8 (0 + 4 + 816 + 4 + 36 + 2 + 1024 + 4 + 48) (a + 9) 58 [some (.ref a)] [.ref (a + 7), .ref a] (ov a [.inl (4, [.ref (a + 1), .ref (a + 3), .ref (a + 5), .null]), .inl (5, [.int 48, .int 17, .ref (a + 2), .int 0]), .inr (false, 816, fun _ => 0), .inl (5, [.int 12, .int 3, .ref (a + 4), .int 0]), .inr (false, 36, fun _ => 0), .inl (3, [.ref (a + 6), .int 0]), .inr (false, 1024, fun _ => 0), .inl (5, [.int 3, .int 16, .ref (a + 8), .int 0]), .inr (false, 48, fun _ => 0)] G)
  refine c_putF hO hin FX4 3 (by decide) (by decide) rfl w_85 dX4_init_58 rfl rfl (ov_putF (j := 0) rfl (Nat.le_of_ble_eq_true rfl)) ?_
  show Wc Γ 8 (0 + 4 + 816 + 4 + 36 + 2 + 1024 + 4 + 48) (a + 9) 61 [some (.ref a)] [] (ov a [.inl (4, [.ref (a + 1), .ref (a + 3), .ref (a + 5), .ref (a + 7)]), .inl (5, [.int 48, .int 17, .ref (a + 2), .int 0]), .inr (false, 816, fun _ => 0), .inl (5, [.int 12, .int 3, .ref (a + 4), .int 0]), .inr (false, 36, fun _ => 0), .inl (3, [.ref (a + 6), .int 0]), .inr (false, 1024, fun _ => 0), .inl (5, [.int 3, .int 16, .ref (a + 8), .int 0]), .inr (false, 48, fun _ => 0)] G)
  exact hend _
set_option maxRecDepth 20000 in
theorem c_X0_init (G : Hp) (a : Nat) : Ctor yX0_init cX0_init 1 3 15 2667 [.ref a] (ov a [.inl (0, [.null, .null, .null, .null, .int 0, .int 0])] G) (a + 1) (ov a [.inl (0, [.ref (a + 1), .ref (a + 3), .ref (a + 5), .ref (a + 14), .int 0, .int 0]), .inl (3, [.ref (a + 2), .int 0]), .inr (false, 96, fun _ => 0), .inl (3, [.ref (a + 4), .int 0]), .inr (false, 33, fun _ => 0), .inl (4, [.ref (a + 6), .ref (a + 8), .ref (a + 10), .ref (a + 12)]), .inl (5, [.int 48, .int 17, .ref (a + 7), .int 0]), .inr (false, 816, fun _ => 0), .inl (5, [.int 12, .int 3, .ref (a + 9), .int 0]), .inr (false, 36, fun _ => 0), .inl (3, [.ref (a + 11), .int 0]), .inr (false, 1024, fun _ => 0), .inl (5, [.int 3, .int 16, .ref (a + 13), .int 0]), .inr (false, 48, fun _ => 0), .inl (5, [.int 196, .int 3, .ref (a + 15), .int 0]), .inr (false, 588, fun _ => 0)] G) := by
  refine Ctor.of (by decide +kernel) (Nat.le_refl 1) rfl 56 dX0_init_56 fun Γ sa hO hfr hin hcap hend => ?_
  have hcap : cap Γ = (15, 2667) := hcap
  show Wc Γ 0 0 (a + 1) 0 [some (.ref a)] [] (ov a [.inl (0, [.null, .null, .null, .null, .int 0, .int 0])] G)
  refine c_aloadn hO dX0_init_0 rfl ?_
  refine c_obj hO (by decide) dX0_init_1 w_30 w_23 w_24 (Nat.le_of_ble_eq_true rfl) ?_
  refine c_aloadn hO dX0_init_4 rfl ?_
  refine c_new hO (hfr.mono (by omega)) FX3 dX0_init_5 w_31 w_32 w_3 [.null, .int 0] (by decide +kernel) (by rw [hcap]; exact ⟨by omega, by omega⟩) ?_
  rw [ov_new a (sz := 1) rfl]
  show Wc Γ 1 (0 + 2) (a + 2) 8 [some (.ref a)] [.ref (a + 1), .ref a] (ov a [.inl (0, [.null, .null, .null, .null, .int 0, .int 0]), .inl (3, [.null, .int 0])] G)
  refine c_dup hO dX0_init_8 ?_
  refine c_bipush hO dX0_init_9 (v := 96) (by decide) ?_
  have hc := c_X3_init (ov a [.inl (0, [.null, .null, .null, .null, .int 0, .int 0])] G) (a + 1) 96 (by decide)
  rw [ov_ov a (sz := 1) rfl] at hc
  try rw [ov_ov a (sz := 1) rfl] at hc
  refine c_call hO (hfr.mono (by omega)) w_35 w_3 w_34 rfl ⟨by decide +kernel, by decide +kernel, by decide +kernel⟩ (by decide) (by decide) w_33 dX0_init_11 hc rfl (Nat.le_of_ble_eq_true rfl) (by rw [hcap]; exact ⟨by omega, by omega⟩) ?_
  show Wc Γ 2 (0 + 2 + 96) (a + 3) 14 [some (.ref a)] [.ref (a + 1), .ref a] (ov a [.inl (0, [.null, .null, .null, .null, .int 0, .int 0]), .inl (3, [.ref (a + 2), .int 0]), .inr (false, 96, fun _ => 0)] G)
  refine c_putF hO hin FX0 0 (by decide) (by decide) rfl w_97 dX0_init_14 rfl rfl (ov_putF (j := 0) rfl (Nat.le_of_ble_eq_true rfl)) ?_
  show Wc Γ 2 (0 + 2 + 96) (a + 3) 17 [some (.ref a)] [] (ov a [.inl (0, [.ref (a + 1), .null, .null, .null, .int 0, .int 0]), .inl (3, [.ref (a + 2), .int 0]), .inr (false, 96, fun _ => 0)] G)
  refine c_aloadn hO dX0_init_17 rfl ?_
  refine c_new hO (hfr.mono (by omega)) FX3 dX0_init_18 w_31 w_32 w_3 [.null, .int 0] (by decide +kernel) (by rw [hcap]; exact ⟨by omega, by omega⟩) ?_
  rw [ov_new a (sz := 3) rfl]
  show Wc Γ 3 (0 + 2 + 96 + 2) (a + 4) 21 [some (.ref a)] [.ref (a + 3), .ref a] (ov a [.inl (0, [.ref (a + 1), .null, .null, .null, .int 0, .int 0]), .inl (3, [.ref (a + 2), .int 0]), .inr (false, 96, fun _ => 0), .inl (3, [.null, .int 0])] G)
  refine c_dup hO dX0_init_21 ?_
  refine c_bipush hO dX0_init_22 (v := 33) (by decide) ?_
  have hc := c_X3_init (ov a [.inl (0, [.ref (a + 1), .null, .null, .null, .int 0, .int 0]), .inl (3, [.ref (a + 2), .int 0]), .inr (false, 96, fun _ => 0)] G) (a + 3) 33 (by decide)
  rw [ov_ov a (sz := 3) rfl] at hc
  try rw [ov_ov a (sz := 3) rfl] at hc
  refine c_call hO (hfr.mono (by omega)) w_35 w_3 w_34 rfl ⟨by decide +kernel, by decide +kernel, by decide +kernel⟩ (by decide) (by decide) w_33 dX0_init_24 hc rfl (Nat.le_of_ble_eq_true rfl) (by rw [hcap]; exact ⟨by omega, by omega⟩) ?_
  show Wc Γ 4 (0 + 2 + 96 + 2 + 33) (a + 5) 27 [some (.ref a)] [.ref (a + 3), .ref a] (ov a [.inl (0, [.ref (a + 1), .null, .null, .null, .int 0, .int 0]), .inl (3, [.ref (a + 2), .int 0]), .inr (false, 96, fun _ => 0), .inl (3, [.ref (a + 4), .int 0]), .inr (false, 33, fun _ => 0)] G)
  refine c_putF hO hin FX0 1 (by decide) (by decide) rfl w_99 dX0_init_27 rfl rfl (ov_putF (j := 0) rfl (Nat.le_of_ble_eq_true rfl)) ?_
  show Wc Γ 4 (0 + 2 + 96 + 2 + 33) (a + 5) 30 [some (.ref a)] [] (ov a [.inl (0, [.ref (a + 1), .ref (a + 3), .null, .null, .int 0, .int 0]), .inl (3, [.ref (a + 2), .int 0]), .inr (false, 96, fun _ => 0), .inl (3, [.ref (a + 4), .int 0]), .inr (false, 33, fun _ => 0)] G)
  refine c_aloadn hO dX0_init_30 rfl ?_
  refine c_new hO (hfr.mono (by omega)) FX4 dX0_init_31 w_48 w_49 w_5 [.null, .null, .null, .null] (by decide +kernel) (by rw [hcap]; exact ⟨by omega, by omega⟩) ?_
  rw [ov_new a (sz := 5) rfl]
  show Wc Γ 5 (0 + 2 + 96 + 2 + 33 + 4) (a + 6) 34 [some (.ref a)] [.ref (a + 5), .ref a] (ov a [.inl (0, [.ref (a + 1), .ref (a + 3), .null, .null, .int 0, .int 0]), .inl (3, [.ref (a + 2), .int 0]), .inr (false, 96, fun _ => 0), .inl (3, [.ref (a + 4), .int 0]), .inr (false, 33, fun _ => 0), .inl (4, [.null, .null, .null, .null])] G)
  refine c_dup hO dX0_init_34 ?_
  have hc := c_X4_init (ov a [.inl (0, [.ref (a + 1), .ref (a + 3), .null, .null, .int 0, .int 0]), .inl (3, [.ref (a + 2), .int 0]), .inr (false, 96, fun _ => 0), .inl (3, [.ref (a + 4), .int 0]), .inr (false, 33, fun _ => 0)] G) (a + 5)
  rw [ov_ov a (sz := 5) rfl] at hc
  try rw [ov_ov a (sz := 5) rfl] at hc
  refine c_callN hO (hfr.mono (by omega)) w_52 w_5 w_51 rfl ⟨by decide +kernel, by decide +kernel, by decide +kernel⟩ (by decide) (by decide) (host := RX7) (by decide) dX0_init_35 hc rfl (Nat.le_of_ble_eq_true rfl) (by rw [hcap]; exact ⟨by omega, by omega⟩) ?_
  show Wc Γ 13 (0 + 2 + 96 + 2 + 33 + 4 + 1938) (a + 14) 38 [some (.ref a)] [.ref (a + 5), .ref a] (ov a [.inl (0, [.ref (a + 1), .ref (a + 3), .null, .null, .int 0, .int 0]), .inl (3, [.ref (a + 2), .int 0]), .inr (false, 96, fun _ => 0), .inl (3, [.ref (a + 4), .int 0]), .inr (false, 33, fun _ => 0), .inl (4, [.ref (a + 6), .ref (a + 8), .ref (a + 10), .ref (a + 12)]), .inl (5, [.int 48, .int 17, .ref (a + 7), .int 0]), .inr (false, 816, fun _ => 0), .inl (5, [.int 12, .int 3, .ref (a + 9), .int 0]), .inr (false, 36, fun _ => 0), .inl (3, [.ref (a + 11), .int 0]), .inr (false, 1024, fun _ => 0), .inl (5, [.int 3, .int 16, .ref (a + 13), .int 0]), .inr (false, 48, fun _ => 0)] G)
  refine c_putF hO hin FX0 2 (by decide) (by decide) rfl w_101 dX0_init_38 rfl rfl (ov_putF (j := 0) rfl (Nat.le_of_ble_eq_true rfl)) ?_
  show Wc Γ 13 (0 + 2 + 96 + 2 + 33 + 4 + 1938) (a + 14) 41 [some (.ref a)] [] (ov a [.inl (0, [.ref (a + 1), .ref (a + 3), .ref (a + 5), .null, .int 0, .int 0]), .inl (3, [.ref (a + 2), .int 0]), .inr (false, 96, fun _ => 0), .inl (3, [.ref (a + 4), .int 0]), .inr (false, 33, fun _ => 0), .inl (4, [.ref (a + 6), .ref (a + 8), .ref (a + 10), .ref (a + 12)]), .inl (5, [.int 48, .int 17, .ref (a + 7), .int 0]), .inr (false, 816, fun _ => 0), .inl (5, [.int 12, .int 3, .ref (a + 9), .int 0]), .inr (false, 36, fun _ => 0), .inl (3, [.ref (a + 11), .int 0]), .inr (false, 1024, fun _ => 0), .inl (5, [.int 3, .int 16, .ref (a + 13), .int 0]), .inr (false, 48, fun _ => 0)] G)
  refine c_aloadn hO dX0_init_41 rfl ?_
  refine c_new hO (hfr.mono (by omega)) FX5 dX0_init_42 w_95 w_55 w_6 [.int 0, .int 0, .null, .int 0] (by decide +kernel) (by rw [hcap]; exact ⟨by omega, by omega⟩) ?_
  rw [ov_new a (sz := 14) rfl]
  show Wc Γ 14 (0 + 2 + 96 + 2 + 33 + 4 + 1938 + 4) (a + 15) 45 [some (.ref a)] [.ref (a + 14), .ref a] (ov a [.inl (0, [.ref (a + 1), .ref (a + 3), .ref (a + 5), .null, .int 0, .int 0]), .inl (3, [.ref (a + 2), .int 0]), .inr (false, 96, fun _ => 0), .inl (3, [.ref (a + 4), .int 0]), .inr (false, 33, fun _ => 0), .inl (4, [.ref (a + 6), .ref (a + 8), .ref (a + 10), .ref (a + 12)]), .inl (5, [.int 48, .int 17, .ref (a + 7), .int 0]), .inr (false, 816, fun _ => 0), .inl (5, [.int 12, .int 3, .ref (a + 9), .int 0]), .inr (false, 36, fun _ => 0), .inl (3, [.ref (a + 11), .int 0]), .inr (false, 1024, fun _ => 0), .inl (5, [.int 3, .int 16, .ref (a + 13), .int 0]), .inr (false, 48, fun _ => 0), .inl (5, [.int 0, .int 0, .null, .int 0])] G)
  refine c_dup hO dX0_init_45 ?_
  refine c_sipush hO dX0_init_46 (v := 196) (by decide) ?_
  refine c_iconst hO dX0_init_49 (v := 3) (by decide) ?_
  have hc := c_X5_init (ov a [.inl (0, [.ref (a + 1), .ref (a + 3), .ref (a + 5), .null, .int 0, .int 0]), .inl (3, [.ref (a + 2), .int 0]), .inr (false, 96, fun _ => 0), .inl (3, [.ref (a + 4), .int 0]), .inr (false, 33, fun _ => 0), .inl (4, [.ref (a + 6), .ref (a + 8), .ref (a + 10), .ref (a + 12)]), .inl (5, [.int 48, .int 17, .ref (a + 7), .int 0]), .inr (false, 816, fun _ => 0), .inl (5, [.int 12, .int 3, .ref (a + 9), .int 0]), .inr (false, 36, fun _ => 0), .inl (3, [.ref (a + 11), .int 0]), .inr (false, 1024, fun _ => 0), .inl (5, [.int 3, .int 16, .ref (a + 13), .int 0]), .inr (false, 48, fun _ => 0)] G) (a + 14) 196 3 (by decide)
  rw [ov_ov a (sz := 14) rfl] at hc
  try rw [ov_ov a (sz := 14) rfl] at hc
  refine c_call hO (hfr.mono (by omega)) w_58 w_6 w_57 rfl ⟨by decide +kernel, by decide +kernel, by decide +kernel⟩ (by decide) (by decide) w_96 dX0_init_50 hc rfl (Nat.le_of_ble_eq_true rfl) (by rw [hcap]; exact ⟨by omega, by omega⟩) ?_
  show Wc Γ 15 (0 + 2 + 96 + 2 + 33 + 4 + 1938 + 4 + 588) (a + 16) 53 [some (.ref a)] [.ref (a + 14), .ref a] (ov a [.inl (0, [.ref (a + 1), .ref (a + 3), .ref (a + 5), .null, .int 0, .int 0]), .inl (3, [.ref (a + 2), .int 0]), .inr (false, 96, fun _ => 0), .inl (3, [.ref (a + 4), .int 0]), .inr (false, 33, fun _ => 0), .inl (4, [.ref (a + 6), .ref (a + 8), .ref (a + 10), .ref (a + 12)]), .inl (5, [.int 48, .int 17, .ref (a + 7), .int 0]), .inr (false, 816, fun _ => 0), .inl (5, [.int 12, .int 3, .ref (a + 9), .int 0]), .inr (false, 36, fun _ => 0), .inl (3, [.ref (a + 11), .int 0]), .inr (false, 1024, fun _ => 0), .inl (5, [.int 3, .int 16, .ref (a + 13), .int 0]), .inr (false, 48, fun _ => 0), .inl (5, [.int 196, .int 3, .ref (a + 15), .int 0]), .inr (false, 588, fun _ => 0)] G)
  refine c_putF hO hin FX0 3 (by decide) (by decide) rfl w_103 dX0_init_53 rfl rfl (ov_putF (j := 0) rfl (Nat.le_of_ble_eq_true rfl)) ?_
  show Wc Γ 15 (0 + 2 + 96 + 2 + 33 + 4 + 1938 + 4 + 588) (a + 16) 56 [some (.ref a)] [] (ov a [.inl (0, [.ref (a + 1), .ref (a + 3), .ref (a + 5), .ref (a + 14), .int 0, .int 0]), .inl (3, [.ref (a + 2), .int 0]), .inr (false, 96, fun _ => 0), .inl (3, [.ref (a + 4), .int 0]), .inr (false, 33, fun _ => 0), .inl (4, [.ref (a + 6), .ref (a + 8), .ref (a + 10), .ref (a + 12)]), .inl (5, [.int 48, .int 17, .ref (a + 7), .int 0]), .inr (false, 816, fun _ => 0), .inl (5, [.int 12, .int 3, .ref (a + 9), .int 0]), .inr (false, 36, fun _ => 0), .inl (3, [.ref (a + 11), .int 0]), .inr (false, 1024, fun _ => 0), .inl (5, [.int 3, .int 16, .ref (a + 13), .int 0]), .inr (false, 48, fun _ => 0), .inl (5, [.int 196, .int 3, .ref (a + 15), .int 0]), .inr (false, 588, fun _ => 0)] G)
  exact hend _
set_option maxRecDepth 20000 in
theorem c_X2_init (G : Hp) (a : Nat) : Ctor yX2_init cX2_init 1 3 14 2010 [.ref a] (ov a [.inl (2, [.null, .int 0, .int 0, .null, .null, .int 0, .int 0, .int 0, .int 0, .int 0, .int 0, .null, .int 0, .int 0])] G) (a + 1) (ov a [.inl (2, [.ref (a + 1), .int 0, .int 0, .ref (a + 10), .ref (a + 11), .int 0, .int 0, .int 0, .int 0, .int 0, .int 0, .ref (a + 13), .int 0, .int 0]), .inl (4, [.ref (a + 2), .ref (a + 4), .ref (a + 6), .ref (a + 8)]), .inl (5, [.int 48, .int 17, .ref (a + 3), .int 0]), .inr (false, 816, fun _ => 0), .inl (5, [.int 12, .int 3, .ref (a + 5), .int 0]), .inr (false, 36, fun _ => 0), .inl (3, [.ref (a + 7), .int 0]), .inr (false, 1024, fun _ => 0), .inl (5, [.int 3, .int 16, .ref (a + 9), .int 0]), .inr (false, 48, fun _ => 0), .inl (1, [.int 0, .int 0, .int 0, .int 0, .int 0, .int 0]), .inl (5, [.int 4, .int 6, .ref (a + 12), .int 0]), .inr (false, 24, fun _ => 0), .inl (3, [.ref (a + 14), .int 0]), .inr (false, 32, fun _ => 0)] G) := by
  refine Ctor.of (by decide +kernel) (Nat.le_refl 1) rfl 53 dX2_init_53 fun Γ sa hO hfr hin hcap hend => ?_
  have hcap : cap Γ = (14, 2010) := hcap
  show Wc Γ 0 0 (a + 1) 0 [some (.ref a)] [] (ov a [.inl (2, [.null, .int 0, .int 0, .null, .null, .int 0, .int 0, .int 0, .int 0, .int 0, .int 0, .null, .int 0, .int 0])] G)
  refine c_aloadn hO dX2_init_0 rfl ?_
  refine c_obj hO (by decide) dX2_init_1 w_127 w_23 w_24 (Nat.le_of_ble_eq_true rfl) ?_
  refine c_aloadn hO dX2_init_4 rfl ?_
  refine c_new hO (hfr.mono (by omega)) FX4 dX2_init_5 w_128 w_49 w_5 [.null, .null, .null, .null] (by decide +kernel) (by rw [hcap]; exact ⟨by omega, by omega⟩) ?_
  rw [ov_new a (sz := 1) rfl]
  show Wc Γ 1 (0 + 4) (a + 2) 8 [some (.ref a)] [.ref (a + 1), .ref a] (ov a [.inl (2, [.null, .int 0, .int 0, .null, .null, .int 0, .int 0, .int 0, .int 0, .int 0, .int 0, .null, .int 0, .int 0]), .inl (4, [.null, .null, .null, .null])] G)
  refine c_dup hO dX2_init_8 ?_
  have hc := c_X4_init (ov a [.inl (2, [.null, .int 0, .int 0, .null, .null, .int 0, .int 0, .int 0, .int 0, .int 0, .int 0, .null, .int 0, .int 0])] G) (a + 1)
  rw [ov_ov a (sz := 1) rfl] at hc
  try rw [ov_ov a (sz := 1) rfl] at hc
  refine c_callN hO (hfr.mono (by omega)) w_52 w_5 w_51 rfl ⟨by decide +kernel, by decide +kernel, by decide +kernel⟩ (by decide) (by decide) (host := RX7) (by decide) dX2_init_9 hc rfl (Nat.le_of_ble_eq_true rfl) (by rw [hcap]; exact ⟨by omega, by omega⟩) ?_
  show Wc Γ 9 (0 + 4 + 1938) (a + 10) 12 [some (.ref a)] [.ref (a + 1), .ref a] (ov a [.inl (2, [.null, .int 0, .int 0, .null, .null, .int 0, .int 0, .int 0, .int 0, .int 0, .int 0, .null, .int 0, .int 0]), .inl (4, [.ref (a + 2), .ref (a + 4), .ref (a + 6), .ref (a + 8)]), .inl (5, [.int 48, .int 17, .ref (a + 3), .int 0]), .inr (false, 816, fun _ => 0), .inl (5, [.int 12, .int 3, .ref (a + 5), .int 0]), .inr (false, 36, fun _ => 0), .inl (3, [.ref (a + 7), .int 0]), .inr (false, 1024, fun _ => 0), .inl (5, [.int 3, .int 16, .ref (a + 9), .int 0]), .inr (false, 48, fun _ => 0)] G)
  refine c_putF hO hin FX2 0 (by decide) (by decide) rfl w_167 dX2_init_12 rfl rfl (ov_putF (j := 0) rfl (Nat.le_of_ble_eq_true rfl)) ?_
  show Wc Γ 9 (0 + 4 + 1938) (a + 10) 15 [some (.ref a)] [] (ov a [.inl (2, [.ref (a + 1), .int 0, .int 0, .null, .null, .int 0, .int 0, .int 0, .int 0, .int 0, .int 0, .null, .int 0, .int 0]), .inl (4, [.ref (a + 2), .ref (a + 4), .ref (a + 6), .ref (a + 8)]), .inl (5, [.int 48, .int 17, .ref (a + 3), .int 0]), .inr (false, 816, fun _ => 0), .inl (5, [.int 12, .int 3, .ref (a + 5), .int 0]), .inr (false, 36, fun _ => 0), .inl (3, [.ref (a + 7), .int 0]), .inr (false, 1024, fun _ => 0), .inl (5, [.int 3, .int 16, .ref (a + 9), .int 0]), .inr (false, 48, fun _ => 0)] G)
  refine c_aloadn hO dX2_init_15 rfl ?_
  refine c_new hO (hfr.mono (by omega)) FX1 dX2_init_16 w_130 w_131 w_8 [.int 0, .int 0, .int 0, .int 0, .int 0, .int 0] (by decide +kernel) (by rw [hcap]; exact ⟨by omega, by omega⟩) ?_
  rw [ov_new a (sz := 10) rfl]
  show Wc Γ 10 (0 + 4 + 1938 + 6) (a + 11) 19 [some (.ref a)] [.ref (a + 10), .ref a] (ov a [.inl (2, [.ref (a + 1), .int 0, .int 0, .null, .null, .int 0, .int 0, .int 0, .int 0, .int 0, .int 0, .null, .int 0, .int 0]), .inl (4, [.ref (a + 2), .ref (a + 4), .ref (a + 6), .ref (a + 8)]), .inl (5, [.int 48, .int 17, .ref (a + 3), .int 0]), .inr (false, 816, fun _ => 0), .inl (5, [.int 12, .int 3, .ref (a + 5), .int 0]), .inr (false, 36, fun _ => 0), .inl (3, [.ref (a + 7), .int 0]), .inr (false, 1024, fun _ => 0), .inl (5, [.int 3, .int 16, .ref (a + 9), .int 0]), .inr (false, 48, fun _ => 0), .inl (1, [.int 0, .int 0, .int 0, .int 0, .int 0, .int 0])] G)
  refine c_dup hO dX2_init_19 ?_
  have hc := c_X1_init (ov a [.inl (2, [.ref (a + 1), .int 0, .int 0, .null, .null, .int 0, .int 0, .int 0, .int 0, .int 0, .int 0, .null, .int 0, .int 0]), .inl (4, [.ref (a + 2), .ref (a + 4), .ref (a + 6), .ref (a + 8)]), .inl (5, [.int 48, .int 17, .ref (a + 3), .int 0]), .inr (false, 816, fun _ => 0), .inl (5, [.int 12, .int 3, .ref (a + 5), .int 0]), .inr (false, 36, fun _ => 0), .inl (3, [.ref (a + 7), .int 0]), .inr (false, 1024, fun _ => 0), .inl (5, [.int 3, .int 16, .ref (a + 9), .int 0]), .inr (false, 48, fun _ => 0)] G) (a + 10)
  rw [ov_ov a (sz := 10) rfl] at hc
  try rw [ov_ov a (sz := 10) rfl] at hc
  refine c_callN hO (hfr.mono (by omega)) w_134 w_8 w_133 rfl ⟨by decide +kernel, by decide +kernel, by decide +kernel⟩ (by decide) (by decide) (host := RX7) (by decide) dX2_init_20 hc rfl (Nat.le_of_ble_eq_true rfl) (by rw [hcap]; exact ⟨by omega, by omega⟩) ?_
  show Wc Γ 10 (0 + 4 + 1938 + 6 + 0) (a + 11) 23 [some (.ref a)] [.ref (a + 10), .ref a] (ov a [.inl (2, [.ref (a + 1), .int 0, .int 0, .null, .null, .int 0, .int 0, .int 0, .int 0, .int 0, .int 0, .null, .int 0, .int 0]), .inl (4, [.ref (a + 2), .ref (a + 4), .ref (a + 6), .ref (a + 8)]), .inl (5, [.int 48, .int 17, .ref (a + 3), .int 0]), .inr (false, 816, fun _ => 0), .inl (5, [.int 12, .int 3, .ref (a + 5), .int 0]), .inr (false, 36, fun _ => 0), .inl (3, [.ref (a + 7), .int 0]), .inr (false, 1024, fun _ => 0), .inl (5, [.int 3, .int 16, .ref (a + 9), .int 0]), .inr (false, 48, fun _ => 0), .inl (1, [.int 0, .int 0, .int 0, .int 0, .int 0, .int 0])] G)
  refine c_putF hO hin FX2 3 (by decide) (by decide) rfl w_173 dX2_init_23 rfl rfl (ov_putF (j := 0) rfl (Nat.le_of_ble_eq_true rfl)) ?_
  show Wc Γ 10 (0 + 4 + 1938 + 6 + 0) (a + 11) 26 [some (.ref a)] [] (ov a [.inl (2, [.ref (a + 1), .int 0, .int 0, .ref (a + 10), .null, .int 0, .int 0, .int 0, .int 0, .int 0, .int 0, .null, .int 0, .int 0]), .inl (4, [.ref (a + 2), .ref (a + 4), .ref (a + 6), .ref (a + 8)]), .inl (5, [.int 48, .int 17, .ref (a + 3), .int 0]), .inr (false, 816, fun _ => 0), .inl (5, [.int 12, .int 3, .ref (a + 5), .int 0]), .inr (false, 36, fun _ => 0), .inl (3, [.ref (a + 7), .int 0]), .inr (false, 1024, fun _ => 0), .inl (5, [.int 3, .int 16, .ref (a + 9), .int 0]), .inr (false, 48, fun _ => 0), .inl (1, [.int 0, .int 0, .int 0, .int 0, .int 0, .int 0])] G)
  refine c_aloadn hO dX2_init_26 rfl ?_
  refine c_new hO (hfr.mono (by omega)) FX5 dX2_init_27 w_163 w_55 w_6 [.int 0, .int 0, .null, .int 0] (by decide +kernel) (by rw [hcap]; exact ⟨by omega, by omega⟩) ?_
  rw [ov_new a (sz := 11) rfl]
  show Wc Γ 11 (0 + 4 + 1938 + 6 + 0 + 4) (a + 12) 30 [some (.ref a)] [.ref (a + 11), .ref a] (ov a [.inl (2, [.ref (a + 1), .int 0, .int 0, .ref (a + 10), .null, .int 0, .int 0, .int 0, .int 0, .int 0, .int 0, .null, .int 0, .int 0]), .inl (4, [.ref (a + 2), .ref (a + 4), .ref (a + 6), .ref (a + 8)]), .inl (5, [.int 48, .int 17, .ref (a + 3), .int 0]), .inr (false, 816, fun _ => 0), .inl (5, [.int 12, .int 3, .ref (a + 5), .int 0]), .inr (false, 36, fun _ => 0), .inl (3, [.ref (a + 7), .int 0]), .inr (false, 1024, fun _ => 0), .inl (5, [.int 3, .int 16, .ref (a + 9), .int 0]), .inr (false, 48, fun _ => 0), .inl (1, [.int 0, .int 0, .int 0, .int 0, .int 0, .int 0]), .inl (5, [.int 0, .int 0, .null, .int 0])] G)
  refine c_dup hO dX2_init_30 ?_
  refine c_iconst hO dX2_init_31 (v := 4) (by decide) ?_
  refine c_bipush hO dX2_init_32 (v := 6) (by decide) ?_
  have hc := c_X5_init (ov a [.inl (2, [.ref (a + 1), .int 0, .int 0, .ref (a + 10), .null, .int 0, .int 0, .int 0, .int 0, .int 0, .int 0, .null, .int 0, .int 0]), .inl (4, [.ref (a + 2), .ref (a + 4), .ref (a + 6), .ref (a + 8)]), .inl (5, [.int 48, .int 17, .ref (a + 3), .int 0]), .inr (false, 816, fun _ => 0), .inl (5, [.int 12, .int 3, .ref (a + 5), .int 0]), .inr (false, 36, fun _ => 0), .inl (3, [.ref (a + 7), .int 0]), .inr (false, 1024, fun _ => 0), .inl (5, [.int 3, .int 16, .ref (a + 9), .int 0]), .inr (false, 48, fun _ => 0), .inl (1, [.int 0, .int 0, .int 0, .int 0, .int 0, .int 0])] G) (a + 11) 4 6 (by decide)
  rw [ov_ov a (sz := 11) rfl] at hc
  try rw [ov_ov a (sz := 11) rfl] at hc
  refine c_call hO (hfr.mono (by omega)) w_58 w_6 w_57 rfl ⟨by decide +kernel, by decide +kernel, by decide +kernel⟩ (by decide) (by decide) w_164 dX2_init_34 hc rfl (Nat.le_of_ble_eq_true rfl) (by rw [hcap]; exact ⟨by omega, by omega⟩) ?_
  show Wc Γ 12 (0 + 4 + 1938 + 6 + 0 + 4 + 24) (a + 13) 37 [some (.ref a)] [.ref (a + 11), .ref a] (ov a [.inl (2, [.ref (a + 1), .int 0, .int 0, .ref (a + 10), .null, .int 0, .int 0, .int 0, .int 0, .int 0, .int 0, .null, .int 0, .int 0]), .inl (4, [.ref (a + 2), .ref (a + 4), .ref (a + 6), .ref (a + 8)]), .inl (5, [.int 48, .int 17, .ref (a + 3), .int 0]), .inr (false, 816, fun _ => 0), .inl (5, [.int 12, .int 3, .ref (a + 5), .int 0]), .inr (false, 36, fun _ => 0), .inl (3, [.ref (a + 7), .int 0]), .inr (false, 1024, fun _ => 0), .inl (5, [.int 3, .int 16, .ref (a + 9), .int 0]), .inr (false, 48, fun _ => 0), .inl (1, [.int 0, .int 0, .int 0, .int 0, .int 0, .int 0]), .inl (5, [.int 4, .int 6, .ref (a + 12), .int 0]), .inr (false, 24, fun _ => 0)] G)
  refine c_putF hO hin FX2 4 (by decide) (by decide) rfl w_174 dX2_init_37 rfl rfl (ov_putF (j := 0) rfl (Nat.le_of_ble_eq_true rfl)) ?_
  show Wc Γ 12 (0 + 4 + 1938 + 6 + 0 + 4 + 24) (a + 13) 40 [some (.ref a)] [] (ov a [.inl (2, [.ref (a + 1), .int 0, .int 0, .ref (a + 10), .ref (a + 11), .int 0, .int 0, .int 0, .int 0, .int 0, .int 0, .null, .int 0, .int 0]), .inl (4, [.ref (a + 2), .ref (a + 4), .ref (a + 6), .ref (a + 8)]), .inl (5, [.int 48, .int 17, .ref (a + 3), .int 0]), .inr (false, 816, fun _ => 0), .inl (5, [.int 12, .int 3, .ref (a + 5), .int 0]), .inr (false, 36, fun _ => 0), .inl (3, [.ref (a + 7), .int 0]), .inr (false, 1024, fun _ => 0), .inl (5, [.int 3, .int 16, .ref (a + 9), .int 0]), .inr (false, 48, fun _ => 0), .inl (1, [.int 0, .int 0, .int 0, .int 0, .int 0, .int 0]), .inl (5, [.int 4, .int 6, .ref (a + 12), .int 0]), .inr (false, 24, fun _ => 0)] G)
  refine c_aloadn hO dX2_init_40 rfl ?_
  refine c_new hO (hfr.mono (by omega)) FX3 dX2_init_41 w_165 w_32 w_3 [.null, .int 0] (by decide +kernel) (by rw [hcap]; exact ⟨by omega, by omega⟩) ?_
  rw [ov_new a (sz := 13) rfl]
  show Wc Γ 13 (0 + 4 + 1938 + 6 + 0 + 4 + 24 + 2) (a + 14) 44 [some (.ref a)] [.ref (a + 13), .ref a] (ov a [.inl (2, [.ref (a + 1), .int 0, .int 0, .ref (a + 10), .ref (a + 11), .int 0, .int 0, .int 0, .int 0, .int 0, .int 0, .null, .int 0, .int 0]), .inl (4, [.ref (a + 2), .ref (a + 4), .ref (a + 6), .ref (a + 8)]), .inl (5, [.int 48, .int 17, .ref (a + 3), .int 0]), .inr (false, 816, fun _ => 0), .inl (5, [.int 12, .int 3, .ref (a + 5), .int 0]), .inr (false, 36, fun _ => 0), .inl (3, [.ref (a + 7), .int 0]), .inr (false, 1024, fun _ => 0), .inl (5, [.int 3, .int 16, .ref (a + 9), .int 0]), .inr (false, 48, fun _ => 0), .inl (1, [.int 0, .int 0, .int 0, .int 0, .int 0, .int 0]), .inl (5, [.int 4, .int 6, .ref (a + 12), .int 0]), .inr (false, 24, fun _ => 0), .inl (3, [.null, .int 0])] G)
  refine c_dup hO dX2_init_44 ?_
  refine c_bipush hO dX2_init_45 (v := 32) (by decide) ?_
  have hc := c_X3_init (ov a [.inl (2, [.ref (a + 1), .int 0, .int 0, .ref (a + 10), .ref (a + 11), .int 0, .int 0, .int 0, .int 0, .int 0, .int 0, .null, .int 0, .int 0]), .inl (4, [.ref (a + 2), .ref (a + 4), .ref (a + 6), .ref (a + 8)]), .inl (5, [.int 48, .int 17, .ref (a + 3), .int 0]), .inr (false, 816, fun _ => 0), .inl (5, [.int 12, .int 3, .ref (a + 5), .int 0]), .inr (false, 36, fun _ => 0), .inl (3, [.ref (a + 7), .int 0]), .inr (false, 1024, fun _ => 0), .inl (5, [.int 3, .int 16, .ref (a + 9), .int 0]), .inr (false, 48, fun _ => 0), .inl (1, [.int 0, .int 0, .int 0, .int 0, .int 0, .int 0]), .inl (5, [.int 4, .int 6, .ref (a + 12), .int 0]), .inr (false, 24, fun _ => 0)] G) (a + 13) 32 (by decide)
  rw [ov_ov a (sz := 13) rfl] at hc
  try rw [ov_ov a (sz := 13) rfl] at hc
  refine c_call hO (hfr.mono (by omega)) w_35 w_3 w_34 rfl ⟨by decide +kernel, by decide +kernel, by decide +kernel⟩ (by decide) (by decide) w_166 dX2_init_47 hc rfl (Nat.le_of_ble_eq_true rfl) (by rw [hcap]; exact ⟨by omega, by omega⟩) ?_
  show Wc Γ 14 (0 + 4 + 1938 + 6 + 0 + 4 + 24 + 2 + 32) (a + 15) 50 [some (.ref a)] [.ref (a + 13), .ref a] (ov a [.inl (2, [.ref (a + 1), .int 0, .int 0, .ref (a + 10), .ref (a + 11), .int 0, .int 0, .int 0, .int 0, .int 0, .int 0, .null, .int 0, .int 0]), .inl (4, [.ref (a + 2), .ref (a + 4), .ref (a + 6), .ref (a + 8)]), .inl (5, [.int 48, .int 17, .ref (a + 3), .int 0]), .inr (false, 816, fun _ => 0), .inl (5, [.int 12, .int 3, .ref (a + 5), .int 0]), .inr (false, 36, fun _ => 0), .inl (3, [.ref (a + 7), .int 0]), .inr (false, 1024, fun _ => 0), .inl (5, [.int 3, .int 16, .ref (a + 9), .int 0]), .inr (false, 48, fun _ => 0), .inl (1, [.int 0, .int 0, .int 0, .int 0, .int 0, .int 0]), .inl (5, [.int 4, .int 6, .ref (a + 12), .int 0]), .inr (false, 24, fun _ => 0), .inl (3, [.ref (a + 14), .int 0]), .inr (false, 32, fun _ => 0)] G)
  refine c_putF hO hin FX2 11 (by decide) (by decide) rfl w_181 dX2_init_50 rfl rfl (ov_putF (j := 0) rfl (Nat.le_of_ble_eq_true rfl)) ?_
  show Wc Γ 14 (0 + 4 + 1938 + 6 + 0 + 4 + 24 + 2 + 32) (a + 15) 53 [some (.ref a)] [] (ov a [.inl (2, [.ref (a + 1), .int 0, .int 0, .ref (a + 10), .ref (a + 11), .int 0, .int 0, .int 0, .int 0, .int 0, .int 0, .ref (a + 13), .int 0, .int 0]), .inl (4, [.ref (a + 2), .ref (a + 4), .ref (a + 6), .ref (a + 8)]), .inl (5, [.int 48, .int 17, .ref (a + 3), .int 0]), .inr (false, 816, fun _ => 0), .inl (5, [.int 12, .int 3, .ref (a + 5), .int 0]), .inr (false, 36, fun _ => 0), .inl (3, [.ref (a + 7), .int 0]), .inr (false, 1024, fun _ => 0), .inl (5, [.int 3, .int 16, .ref (a + 9), .int 0]), .inr (false, 48, fun _ => 0), .inl (1, [.int 0, .int 0, .int 0, .int 0, .int 0, .int 0]), .inl (5, [.int 4, .int 6, .ref (a + 12), .int 0]), .inr (false, 24, fun _ => 0), .inl (3, [.ref (a + 14), .int 0]), .inr (false, 32, fun _ => 0)] G)
  exact hend _
set_option maxRecDepth 20000 in
theorem c_X7_init (G : Hp) (a : Nat) : Ctor yX7_init cX7_init 1 4 64 10049 [.ref a] (ov a [.inl (6, [.null, .null, .null, .null, .null, .int 0])] G) (a + 1) (ov a [.inl (6, [.ref (a + 1), .ref (a + 17), .ref (a + 33), .ref (a + 49), .ref (a + 64), .int 0]), .inl (0, [.ref (a + 2), .ref (a + 4), .ref (a + 6), .ref (a + 15), .int 0, .int 0]), .inl (3, [.ref (a + 3), .int 0]), .inr (false, 96, fun _ => 0), .inl (3, [.ref (a + 5), .int 0]), .inr (false, 33, fun _ => 0), .inl (4, [.ref (a + 7), .ref (a + 9), .ref (a + 11), .ref (a + 13)]), .inl (5, [.int 48, .int 17, .ref (a + 8), .int 0]), .inr (false, 816, fun _ => 0), .inl (5, [.int 12, .int 3, .ref (a + 10), .int 0]), .inr (false, 36, fun _ => 0), .inl (3, [.ref (a + 12), .int 0]), .inr (false, 1024, fun _ => 0), .inl (5, [.int 3, .int 16, .ref (a + 14), .int 0]), .inr (false, 48, fun _ => 0), .inl (5, [.int 196, .int 3, .ref (a + 16), .int 0]), .inr (false, 588, fun _ => 0), .inl (0, [.ref (a + 18), .ref (a + 20), .ref (a + 22), .ref (a + 31), .int 0, .int 0]), .inl (3, [.ref (a + 19), .int 0]), .inr (false, 96, fun _ => 0), .inl (3, [.ref (a + 21), .int 0]), .inr (false, 33, fun _ => 0), .inl (4, [.ref (a + 23), .ref (a + 25), .ref (a + 27), .ref (a + 29)]), .inl (5, [.int 48, .int 17, .ref (a + 24), .int 0]), .inr (false, 816, fun _ => 0), .inl (5, [.int 12, .int 3, .ref (a + 26), .int 0]), .inr (false, 36, fun _ => 0), .inl (3, [.ref (a + 28), .int 0]), .inr (false, 1024, fun _ => 0), .inl (5, [.int 3, .int 16, .ref (a + 30), .int 0]), .inr (false, 48, fun _ => 0), .inl (5, [.int 196, .int 3, .ref (a + 32), .int 0]), .inr (false, 588, fun _ => 0), .inl (0, [.ref (a + 34), .ref (a + 36), .ref (a + 38), .ref (a + 47), .int 0, .int 0]), .inl (3, [.ref (a + 35), .int 0]), .inr (false, 96, fun _ => 0), .inl (3, [.ref (a + 37), .int 0]), .inr (false, 33, fun _ => 0), .inl (4, [.ref (a + 39), .ref (a + 41), .ref (a + 43), .ref (a + 45)]), .inl (5, [.int 48, .int 17, .ref (a + 40), .int 0]), .inr (false, 816, fun _ => 0), .inl (5, [.int 12, .int 3, .ref (a + 42), .int 0]), .inr (false, 36, fun _ => 0), .inl (3, [.ref (a + 44), .int 0]), .inr (false, 1024, fun _ => 0), .inl (5, [.int 3, .int 16, .ref (a + 46), .int 0]), .inr (false, 48, fun _ => 0), .inl (5, [.int 196, .int 3, .ref (a + 48), .int 0]), .inr (false, 588, fun _ => 0), .inl (2, [.ref (a + 50), .int 0, .int 0, .ref (a + 59), .ref (a + 60), .int 0, .int 0, .int 0, .int 0, .int 0, .int 0, .ref (a + 62), .int 0, .int 0]), .inl (4, [.ref (a + 51), .ref (a + 53), .ref (a + 55), .ref (a + 57)]), .inl (5, [.int 48, .int 17, .ref (a + 52), .int 0]), .inr (false, 816, fun _ => 0), .inl (5, [.int 12, .int 3, .ref (a + 54), .int 0]), .inr (false, 36, fun _ => 0), .inl (3, [.ref (a + 56), .int 0]), .inr (false, 1024, fun _ => 0), .inl (5, [.int 3, .int 16, .ref (a + 58), .int 0]), .inr (false, 48, fun _ => 0), .inl (1, [.int 0, .int 0, .int 0, .int 0, .int 0, .int 0]), .inl (5, [.int 4, .int 6, .ref (a + 61), .int 0]), .inr (false, 24, fun _ => 0), .inl (3, [.ref (a + 63), .int 0]), .inr (false, 32, fun _ => 0), .inl (1, [.int 0, .int 0, .int 0, .int 0, .int 0, .int 0])] G) := by
  refine Ctor.of (by decide +kernel) (Nat.le_refl 1) rfl 64 dX7_init_64 fun Γ sa hO hfr hin hcap hend => ?_
  have hcap : cap Γ = (64, 10049) := hcap
  show Wc Γ 0 0 (a + 1) 0 [some (.ref a)] [] (ov a [.inl (6, [.null, .null, .null, .null, .null, .int 0])] G)
  refine c_aloadn hO dX7_init_0 rfl ?_
  refine c_obj hO (by decide) dX7_init_1 w_22 w_23 w_24 (Nat.le_of_ble_eq_true rfl) ?_
  refine c_aloadn hO dX7_init_4 rfl ?_
  refine c_new hO (hfr.mono (by omega)) FX0 dX7_init_5 w_25 w_26 w_2 [.null, .null, .null, .null, .int 0, .int 0] (by decide +kernel) (by rw [hcap]; exact ⟨by omega, by omega⟩) ?_
  rw [ov_new a (sz := 1) rfl]
  show Wc Γ 1 (0 + 6) (a + 2) 8 [some (.ref a)] [.ref (a + 1), .ref a] (ov a [.inl (6, [.null, .null, .null, .null, .null, .int 0]), .inl (0, [.null, .null, .null, .null, .int 0, .int 0])] G)
  refine c_dup hO dX7_init_8 ?_
  have hc := c_X0_init (ov a [.inl (6, [.null, .null, .null, .null, .null, .int 0])] G) (a + 1)
  rw [ov_ov a (sz := 1) rfl] at hc
  try rw [ov_ov a (sz := 1) rfl] at hc
  refine c_callN hO (hfr.mono (by omega)) w_29 w_2 w_28 rfl ⟨by decide +kernel, by decide +kernel, by decide +kernel⟩ (by decide) (by decide) (host := RX7) (by decide) dX7_init_9 hc rfl (Nat.le_of_ble_eq_true rfl) (by rw [hcap]; exact ⟨by omega, by omega⟩) ?_
  show Wc Γ 16 (0 + 6 + 2667) (a + 17) 12 [some (.ref a)] [.ref (a + 1), .ref a] (ov a [.inl (6, [.null, .null, .null, .null, .null, .int 0]), .inl (0, [.ref (a + 2), .ref (a + 4), .ref (a + 6), .ref (a + 15), .int 0, .int 0]), .inl (3, [.ref (a + 3), .int 0]), .inr (false, 96, fun _ => 0), .inl (3, [.ref (a + 5), .int 0]), .inr (false, 33, fun _ => 0), .inl (4, [.ref (a + 7), .ref (a + 9), .ref (a + 11), .ref (a + 13)]), .inl (5, [.int 48, .int 17, .ref (a + 8), .int 0]), .inr (false, 816, fun _ => 0), .inl (5, [.int 12, .int 3, .ref (a + 10), .int 0]), .inr (false, 36, fun _ => 0), .inl (3, [.ref (a + 12), .int 0]), .inr (false, 1024, fun _ => 0), .inl (5, [.int 3, .int 16, .ref (a + 14), .int 0]), .inr (false, 48, fun _ => 0), .inl (5, [.int 196, .int 3, .ref (a + 16), .int 0]), .inr (false, 588, fun _ => 0)] G)
  refine c_putF hO hin FX7 0 (by decide) (by decide) rfl w_215 dX7_init_12 rfl rfl (ov_putF (j := 0) rfl (Nat.le_of_ble_eq_true rfl)) ?_
  show Wc Γ 16 (0 + 6 + 2667) (a + 17) 15 [some (.ref a)] [] (ov a [.inl (6, [.ref (a + 1), .null, .null, .null, .null, .int 0]), .inl (0, [.ref (a + 2), .ref (a + 4), .ref (a + 6), .ref (a + 15), .int 0, .int 0]), .inl (3, [.ref (a + 3), .int 0]), .inr (false, 96, fun _ => 0), .inl (3, [.ref (a + 5), .int 0]), .inr (false, 33, fun _ => 0), .inl (4, [.ref (a + 7), .ref (a + 9), .ref (a + 11), .ref (a + 13)]), .inl (5, [.int 48, .int 17, .ref (a + 8), .int 0]), .inr (false, 816, fun _ => 0), .inl (5, [.int 12, .int 3, .ref (a + 10), .int 0]), .inr (false, 36, fun _ => 0), .inl (3, [.ref (a + 12), .int 0]), .inr (false, 1024, fun _ => 0), .inl (5, [.int 3, .int 16, .ref (a + 14), .int 0]), .inr (false, 48, fun _ => 0), .inl (5, [.int 196, .int 3, .ref (a + 16), .int 0]), .inr (false, 588, fun _ => 0)] G)
  refine c_aloadn hO dX7_init_15 rfl ?_
  refine c_new hO (hfr.mono (by omega)) FX0 dX7_init_16 w_25 w_26 w_2 [.null, .null, .null, .null, .int 0, .int 0] (by decide +kernel) (by rw [hcap]; exact ⟨by omega, by omega⟩) ?_
  rw [ov_new a (sz := 17) rfl]
  show Wc Γ 17 (0 + 6 + 2667 + 6) (a + 18) 19 [some (.ref a)] [.ref (a + 17), .ref a] (ov a [.inl (6, [.ref (a + 1), .null, .null, .null, .null, .int 0]), .inl (0, [.ref (a + 2), .ref (a + 4), .ref (a + 6), .ref (a + 15), .int 0, .int 0]), .inl (3, [.ref (a + 3), .int 0]), .inr (false, 96, fun _ => 0), .inl (3, [.ref (a + 5), .int 0]), .inr (false, 33, fun _ => 0), .inl (4, [.ref (a + 7), .ref (a + 9), .ref (a + 11), .ref (a + 13)]), .inl (5, [.int 48, .int 17, .ref (a + 8), .int 0]), .inr (false, 816, fun _ => 0), .inl (5, [.int 12, .int 3, .ref (a + 10), .int 0]), .inr (false, 36, fun _ => 0), .inl (3, [.ref (a + 12), .int 0]), .inr (false, 1024, fun _ => 0), .inl (5, [.int 3, .int 16, .ref (a + 14), .int 0]), .inr (false, 48, fun _ => 0), .inl (5, [.int 196, .int 3, .ref (a + 16), .int 0]), .inr (false, 588, fun _ => 0), .inl (0, [.null, .null, .null, .null, .int 0, .int 0])] G)
  refine c_dup hO dX7_init_19 ?_
  have hc := c_X0_init (ov a [.inl (6, [.ref (a + 1), .null, .null, .null, .null, .int 0]), .inl (0, [.ref (a + 2), .ref (a + 4), .ref (a + 6), .ref (a + 15), .int 0, .int 0]), .inl (3, [.ref (a + 3), .int 0]), .inr (false, 96, fun _ => 0), .inl (3, [.ref (a + 5), .int 0]), .inr (false, 33, fun _ => 0), .inl (4, [.ref (a + 7), .ref (a + 9), .ref (a + 11), .ref (a + 13)]), .inl (5, [.int 48, .int 17, .ref (a + 8), .int 0]), .inr (false, 816, fun _ => 0), .inl (5, [.int 12, .int 3, .ref (a + 10), .int 0]), .inr (false, 36, fun _ => 0), .inl (3, [.ref (a + 12), .int 0]), .inr (false, 1024, fun _ => 0), .inl (5, [.int 3, .int 16, .ref (a + 14), .int 0]), .inr (false, 48, fun _ => 0), .inl (5, [.int 196, .int 3, .ref (a + 16), .int 0]), .inr (false, 588, fun _ => 0)] G) (a + 17)
  rw [ov_ov a (sz := 17) rfl] at hc
  try rw [ov_ov a (sz := 17) rfl] at hc
  refine c_callN hO (hfr.mono (by omega)) w_29 w_2 w_28 rfl ⟨by decide +kernel, by decide +kernel, by decide +kernel⟩ (by decide) (by decide) (host := RX7) (by decide) dX7_init_20 hc rfl (Nat.le_of_ble_eq_true rfl) (by rw [hcap]; exact ⟨by omega, by omega⟩) ?_
  show Wc Γ 32 (0 + 6 + 2667 + 6 + 2667) (a + 33) 23 [some (.ref a)] [.ref (a + 17), .ref a] (ov a [.inl (6, [.ref (a + 1), .null, .null, .null, .null, .int 0]), .inl (0, [.ref (a + 2), .ref (a + 4), .ref (a + 6), .ref (a + 15), .int 0, .int 0]), .inl (3, [.ref (a + 3), .int 0]), .inr (false, 96, fun _ => 0), .inl (3, [.ref (a + 5), .int 0]), .inr (false, 33, fun _ => 0), .inl (4, [.ref (a + 7), .ref (a + 9), .ref (a + 11), .ref (a + 13)]), .inl (5, [.int 48, .int 17, .ref (a + 8), .int 0]), .inr (false, 816, fun _ => 0), .inl (5, [.int 12, .int 3, .ref (a + 10), .int 0]), .inr (false, 36, fun _ => 0), .inl (3, [.ref (a + 12), .int 0]), .inr (false, 1024, fun _ => 0), .inl (5, [.int 3, .int 16, .ref (a + 14), .int 0]), .inr (false, 48, fun _ => 0), .inl (5, [.int 196, .int 3, .ref (a + 16), .int 0]), .inr (false, 588, fun _ => 0), .inl (0, [.ref (a + 18), .ref (a + 20), .ref (a + 22), .ref (a + 31), .int 0, .int 0]), .inl (3, [.ref (a + 19), .int 0]), .inr (false, 96, fun _ => 0), .inl (3, [.ref (a + 21), .int 0]), .inr (false, 33, fun _ => 0), .inl (4, [.ref (a + 23), .ref (a + 25), .ref (a + 27), .ref (a + 29)]), .inl (5, [.int 48, .int 17, .ref (a + 24), .int 0]), .inr (false, 816, fun _ => 0), .inl (5, [.int 12, .int 3, .ref (a + 26), .int 0]), .inr (false, 36, fun _ => 0), .inl (3, [.ref (a + 28), .int 0]), .inr (false, 1024, fun _ => 0), .inl (5, [.int 3, .int 16, .ref (a + 30), .int 0]), .inr (false, 48, fun _ => 0), .inl (5, [.int 196, .int 3, .ref (a + 32), .int 0]), .inr (false, 588, fun _ => 0)] G)
  refine c_putF hO hin FX7 1 (by decide) (by decide) rfl w_216 dX7_init_23 rfl rfl (ov_putF (j := 0) rfl (Nat.le_of_ble_eq_true rfl)) ?_
  show Wc Γ 32 (0 + 6 + 2667 + 6 + 2667) (a + 33) 26 [some (.ref a)] [] (ov a [.inl (6, [.ref (a + 1), .ref (a + 17), .null, .null, .null, .int 0]), .inl (0, [.ref (a + 2), .ref (a + 4), .ref (a + 6), .ref (a + 15), .int 0, .int 0]), .inl (3, [.ref (a + 3), .int 0]), .inr (false, 96, fun _ => 0), .inl (3, [.ref (a + 5), .int 0]), .inr (false, 33, fun _ => 0), .inl (4, [.ref (a + 7), .ref (a + 9), .ref (a + 11), .ref (a + 13)]), .inl (5, [.int 48, .int 17, .ref (a + 8), .int 0]), .inr (false, 816, fun _ => 0), .inl (5, [.int 12, .int 3, .ref (a + 10), .int 0]), .inr (false, 36, fun _ => 0), .inl (3, [.ref (a + 12), .int 0]), .inr (false, 1024, fun _ => 0), .inl (5, [.int 3, .int 16, .ref (a + 14), .int 0]), .inr (false, 48, fun _ => 0), .inl (5, [.int 196, .int 3, .ref (a + 16), .int 0]), .inr (false, 588, fun _ => 0), .inl (0, [.ref (a + 18), .ref (a + 20), .ref (a + 22), .ref (a + 31), .int 0, .int 0]), .inl (3, [.ref (a + 19), .int 0]), .inr (false, 96, fun _ => 0), .inl (3, [.ref (a + 21), .int 0]), .inr (false, 33, fun _ => 0), .inl (4, [.ref (a + 23), .ref (a + 25), .ref (a + 27), .ref (a + 29)]), .inl (5, [.int 48, .int 17, .ref (a + 24), .int 0]), .inr (false, 816, fun _ => 0), .inl (5, [.int 12, .int 3, .ref (a + 26), .int 0]), .inr (false, 36, fun _ => 0), .inl (3, [.ref (a + 28), .int 0]), .inr (false, 1024, fun _ => 0), .inl (5, [.int 3, .int 16, .ref (a + 30), .int 0]), .inr (false, 48, fun _ => 0), .inl (5, [.int 196, .int 3, .ref (a + 32), .int 0]), .inr (false, 588, fun _ => 0)] G)
  refine c_aloadn hO dX7_init_26 rfl ?_
  refine c_new hO (hfr.mono (by omega)) FX0 dX7_init_27 w_25 w_26 w_2 [.null, .null, .null, .null, .int 0, .int 0] (by decide +kernel) (by rw [hcap]; exact ⟨by omega, by omega⟩) ?_
  rw [ov_new a (sz := 33) rfl]
  show Wc Γ 33 (0 + 6 + 2667 + 6 + 2667 + 6) (a + 34) 30 [some (.ref a)] [.ref (a + 33), .ref a] (ov a [.inl (6, [.ref (a + 1), .ref (a + 17), .null, .null, .null, .int 0]), .inl (0, [.ref (a + 2), .ref (a + 4), .ref (a + 6), .ref (a + 15), .int 0, .int 0]), .inl (3, [.ref (a + 3), .int 0]), .inr (false, 96, fun _ => 0), .inl (3, [.ref (a + 5), .int 0]), .inr (false, 33, fun _ => 0), .inl (4, [.ref (a + 7), .ref (a + 9), .ref (a + 11), .ref (a + 13)]), .inl (5, [.int 48, .int 17, .ref (a + 8), .int 0]), .inr (false, 816, fun _ => 0), .inl (5, [.int 12, .int 3, .ref (a + 10), .int 0]), .inr (false, 36, fun _ => 0), .inl (3, [.ref (a + 12), .int 0]), .inr (false, 1024, fun _ => 0), .inl (5, [.int 3, .int 16, .ref (a + 14), .int 0]), .inr (false, 48, fun _ => 0), .inl (5, [.int 196, .int 3, .ref (a + 16), .int 0]), .inr (false, 588, fun _ => 0), .inl (0, [.ref (a + 18), .ref (a + 20), .ref (a + 22), .ref (a + 31), .int 0, .int 0]), .inl (3, [.ref (a + 19), .int 0]), .inr (false, 96, fun _ => 0), .inl (3, [.ref (a + 21), .int 0]), .inr (false, 33, fun _ => 0), .inl (4, [.ref (a + 23), .ref (a + 25), .ref (a + 27), .ref (a + 29)]), .inl (5, [.int 48, .int 17, .ref (a + 24), .int 0]), .inr (false, 816, fun _ => 0), .inl (5, [.int 12, .int 3, .ref (a + 26), .int 0]), .inr (false, 36, fun _ => 0), .inl (3, [.ref (a + 28), .int 0]), .inr (false, 1024, fun _ => 0), .inl (5, [.int 3, .int 16, .ref (a + 30), .int 0]), .inr (false, 48, fun _ => 0), .inl (5, [.int 196, .int 3, .ref (a + 32), .int 0]), .inr (false, 588, fun _ => 0), .inl (0, [.null, .null, .null, .null, .int 0, .int 0])] G)
  refine c_dup hO dX7_init_30 ?_
  have hc := c_X0_init (ov a [.inl (6, [.ref (a + 1), .ref (a + 17), .null, .null, .null, .int 0]), .inl (0, [.ref (a + 2), .ref (a + 4), .ref (a + 6), .ref (a + 15), .int 0, .int 0]), .inl (3, [.ref (a + 3), .int 0]), .inr (false, 96, fun _ => 0), .inl (3, [.ref (a + 5), .int 0]), .inr (false, 33, fun _ => 0), .inl (4, [.ref (a + 7), .ref (a + 9), .ref (a + 11), .ref (a + 13)]), .inl (5, [.int 48, .int 17, .ref (a + 8), .int 0]), .inr (false, 816, fun _ => 0), .inl (5, [.int 12, .int 3, .ref (a + 10), .int 0]), .inr (false, 36, fun _ => 0), .inl (3, [.ref (a + 12), .int 0]), .inr (false, 1024, fun _ => 0), .inl (5, [.int 3, .int 16, .ref (a + 14), .int 0]), .inr (false, 48, fun _ => 0), .inl (5, [.int 196, .int 3, .ref (a + 16), .int 0]), .inr (false, 588, fun _ => 0), .inl (0, [.ref (a + 18), .ref (a + 20), .ref (a + 22), .ref (a + 31), .int 0, .int 0]), .inl (3, [.ref (a + 19), .int 0]), .inr (false, 96, fun _ => 0), .inl (3, [.ref (a + 21), .int 0]), .inr (false, 33, fun _ => 0), .inl (4, [.ref (a + 23), .ref (a + 25), .ref (a + 27), .ref (a + 29)]), .inl (5, [.int 48, .int 17, .ref (a + 24), .int 0]), .inr (false, 816, fun _ => 0), .inl (5, [.int 12, .int 3, .ref (a + 26), .int 0]), .inr (false, 36, fun _ => 0), .inl (3, [.ref (a + 28), .int 0]), .inr (false, 1024, fun _ => 0), .inl (5, [.int 3, .int 16, .ref (a + 30), .int 0]), .inr (false, 48, fun _ => 0), .inl (5, [.int 196, .int 3, .ref (a + 32), .int 0]), .inr (false, 588, fun _ => 0)] G) (a + 33)
  rw [ov_ov a (sz := 33) rfl] at hc
  try rw [ov_ov a (sz := 33) rfl] at hc
  refine c_callN hO (hfr.mono (by omega)) w_29 w_2 w_28 rfl ⟨by decide +kernel, by decide +kernel, by decide +kernel⟩ (by decide) (by decide) (host := RX7) (by decide) dX7_init_31 hc rfl (Nat.le_of_ble_eq_true rfl) (by rw [hcap]; exact ⟨by omega, by omega⟩) ?_
  show Wc Γ 48 (0 + 6 + 2667 + 6 + 2667 + 6 + 2667) (a + 49) 34 [some (.ref a)] [.ref (a + 33), .ref a] (ov a [.inl (6, [.ref (a + 1), .ref (a + 17), .null, .null, .null, .int 0]), .inl (0, [.ref (a + 2), .ref (a + 4), .ref (a + 6), .ref (a + 15), .int 0, .int 0]), .inl (3, [.ref (a + 3), .int 0]), .inr (false, 96, fun _ => 0), .inl (3, [.ref (a + 5), .int 0]), .inr (false, 33, fun _ => 0), .inl (4, [.ref (a + 7), .ref (a + 9), .ref (a + 11), .ref (a + 13)]), .inl (5, [.int 48, .int 17, .ref (a + 8), .int 0]), .inr (false, 816, fun _ => 0), .inl (5, [.int 12, .int 3, .ref (a + 10), .int 0]), .inr (false, 36, fun _ => 0), .inl (3, [.ref (a + 12), .int 0]), .inr (false, 1024, fun _ => 0), .inl (5, [.int 3, .int 16, .ref (a + 14), .int 0]), .inr (false, 48, fun _ => 0), .inl (5, [.int 196, .int 3, .ref (a + 16), .int 0]), .inr (false, 588, fun _ => 0), .inl (0, [.ref (a + 18), .ref (a + 20), .ref (a + 22), .ref (a + 31), .int 0, .int 0]), .inl (3, [.ref (a + 19), .int 0]), .inr (false, 96, fun _ => 0), .inl (3, [.ref (a + 21), .int 0]), .inr (false, 33, fun _ => 0), .inl (4, [.ref (a + 23), .ref (a + 25), .ref (a + 27), .ref (a + 29)]), .inl (5, [.int 48, .int 17, .ref (a + 24), .int 0]), .inr (false, 816, fun _ => 0), .inl (5, [.int 12, .int 3, .ref (a + 26), .int 0]), .inr (false, 36, fun _ => 0), .inl (3, [.ref (a + 28), .int 0]), .inr (false, 1024, fun _ => 0), .inl (5, [.int 3, .int 16, .ref (a + 30), .int 0]), .inr (false, 48, fun _ => 0), .inl (5, [.int 196, .int 3, .ref (a + 32), .int 0]), .inr (false, 588, fun _ => 0), .inl (0, [.ref (a + 34), .ref (a + 36), .ref (a + 38), .ref (a + 47), .int 0, .int 0]), .inl (3, [.ref (a + 35), .int 0]), .inr (false, 96, fun _ => 0), .inl (3, [.ref (a + 37), .int 0]), .inr (false, 33, fun _ => 0), .inl (4, [.ref (a + 39), .ref (a + 41), .ref (a + 43), .ref (a + 45)]), .inl (5, [.int 48, .int 17, .ref (a + 40), .int 0]), .inr (false, 816, fun _ => 0), .inl (5, [.int 12, .int 3, .ref (a + 42), .int 0]), .inr (false, 36, fun _ => 0), .inl (3, [.ref (a + 44), .int 0]), .inr (false, 1024, fun _ => 0), .inl (5, [.int 3, .int 16, .ref (a + 46), .int 0]), .inr (false, 48, fun _ => 0), .inl (5, [.int 196, .int 3, .ref (a + 48), .int 0]), .inr (false, 588, fun _ => 0)] G)
  refine c_putF hO hin FX7 2 (by decide) (by decide) rfl w_217 dX7_init_34 rfl rfl (ov_putF (j := 0) rfl (Nat.le_of_ble_eq_true rfl)) ?_
  show Wc Γ 48 (0 + 6 + 2667 + 6 + 2667 + 6 + 2667) (a + 49) 37 [some (.ref a)] [] (ov a [.inl (6, [.ref (a + 1), .ref (a + 17), .ref (a + 33), .null, .null, .int 0]), .inl (0, [.ref (a + 2), .ref (a + 4), .ref (a + 6), .ref (a + 15), .int 0, .int 0]), .inl (3, [.ref (a + 3), .int 0]), .inr (false, 96, fun _ => 0), .inl (3, [.ref (a + 5), .int 0]), .inr (false, 33, fun _ => 0), .inl (4, [.ref (a + 7), .ref (a + 9), .ref (a + 11), .ref (a + 13)]), .inl (5, [.int 48, .int 17, .ref (a + 8), .int 0]), .inr (false, 816, fun _ => 0), .inl (5, [.int 12, .int 3, .ref (a + 10), .int 0]), .inr (false, 36, fun _ => 0), .inl (3, [.ref (a + 12), .int 0]), .inr (false, 1024, fun _ => 0), .inl (5, [.int 3, .int 16, .ref (a + 14), .int 0]), .inr (false, 48, fun _ => 0), .inl (5, [.int 196, .int 3, .ref (a + 16), .int 0]), .inr (false, 588, fun _ => 0), .inl (0, [.ref (a + 18), .ref (a + 20), .ref (a + 22), .ref (a + 31), .int 0, .int 0]), .inl (3, [.ref (a + 19), .int 0]), .inr (false, 96, fun _ => 0), .inl (3, [.ref (a + 21), .int 0]), .inr (false, 33, fun _ => 0), .inl (4, [.ref (a + 23), .ref (a + 25), .ref (a + 27), .ref (a + 29)]), .inl (5, [.int 48, .int 17, .ref (a + 24), .int 0]), .inr (false, 816, fun _ => 0), .inl (5, [.int 12, .int 3, .ref (a + 26), .int 0]), .inr (false, 36, fun _ => 0), .inl (3, [.ref (a + 28), .int 0]), .inr (false, 1024, fun _ => 0), .inl (5, [.int 3, .int 16, .ref (a + 30), .int 0]), .inr (false, 48, fun _ => 0), .inl (5, [.int 196, .int 3, .ref (a + 32), .int 0]), .inr (false, 588, fun _ => 0), .inl (0, [.ref (a + 34), .ref (a + 36), .ref (a + 38), .ref (a + 47), .int 0, .int 0]), .inl (3, [.ref (a + 35), .int 0]), .inr (false, 96, fun _ => 0), .inl (3, [.ref (a + 37), .int 0]), .inr (false, 33, fun _ => 0), .inl (4, [.ref (a + 39), .ref (a + 41), .ref (a + 43), .ref (a + 45)]), .inl (5, [.int 48, .int 17, .ref (a + 40), .int 0]), .inr (false, 816, fun _ => 0), .inl (5, [.int 12, .int 3, .ref (a + 42), .int 0]), .inr (false, 36, fun _ => 0), .inl (3, [.ref (a + 44), .int 0]), .inr (false, 1024, fun _ => 0), .inl (5, [.int 3, .int 16, .ref (a + 46), .int 0]), .inr (false, 48, fun _ => 0), .inl (5, [.int 196, .int 3, .ref (a + 48), .int 0]), .inr (false, 588, fun _ => 0)] G)
  refine c_aloadn hO dX7_init_37 rfl ?_
  refine c_new hO (hfr.mono (by omega)) FX2 dX7_init_38 w_122 w_123 w_7 [.null, .int 0, .int 0, .null, .null, .int 0, .int 0, .int 0, .int 0, .int 0, .int 0, .null, .int 0, .int 0] (by decide +kernel) (by rw [hcap]; exact ⟨by omega, by omega⟩) ?_
  rw [ov_new a (sz := 49) rfl]
  show Wc Γ 49 (0 + 6 + 2667 + 6 + 2667 + 6 + 2667 + 14) (a + 50) 41 [some (.ref a)] [.ref (a + 49), .ref a] (ov a [.inl (6, [.ref (a + 1), .ref (a + 17), .ref (a + 33), .null, .null, .int 0]), .inl (0, [.ref (a + 2), .ref (a + 4), .ref (a + 6), .ref (a + 15), .int 0, .int 0]), .inl (3, [.ref (a + 3), .int 0]), .inr (false, 96, fun _ => 0), .inl (3, [.ref (a + 5), .int 0]), .inr (false, 33, fun _ => 0), .inl (4, [.ref (a + 7), .ref (a + 9), .ref (a + 11), .ref (a + 13)]), .inl (5, [.int 48, .int 17, .ref (a + 8), .int 0]), .inr (false, 816, fun _ => 0), .inl (5, [.int 12, .int 3, .ref (a + 10), .int 0]), .inr (false, 36, fun _ => 0), .inl (3, [.ref (a + 12), .int 0]), .inr (false, 1024, fun _ => 0), .inl (5, [.int 3, .int 16, .ref (a + 14), .int 0]), .inr (false, 48, fun _ => 0), .inl (5, [.int 196, .int 3, .ref (a + 16), .int 0]), .inr (false, 588, fun _ => 0), .inl (0, [.ref (a + 18), .ref (a + 20), .ref (a + 22), .ref (a + 31), .int 0, .int 0]), .inl (3, [.ref (a + 19), .int 0]), .inr (false, 96, fun _ => 0), .inl (3, [.ref (a + 21), .int 0]), .inr (false, 33, fun _ => 0), .inl (4, [.ref (a + 23), .ref (a + 25), .ref (a + 27), .ref (a + 29)]), .inl (5, [.int 48, .int 17, .ref (a + 24), .int 0]), .inr (false, 816, fun _ => 0), .inl (5, [.int 12, .int 3, .ref (a + 26), .int 0]), .inr (false, 36, fun _ => 0), .inl (3, [.ref (a + 28), .int 0]), .inr (false, 1024, fun _ => 0), .inl (5, [.int 3, .int 16, .ref (a + 30), .int 0]), .inr (false, 48, fun _ => 0), .inl (5, [.int 196, .int 3, .ref (a + 32), .int 0]), .inr (false, 588, fun _ => 0), .inl (0, [.ref (a + 34), .ref (a + 36), .ref (a + 38), .ref (a + 47), .int 0, .int 0]), .inl (3, [.ref (a + 35), .int 0]), .inr (false, 96, fun _ => 0), .inl (3, [.ref (a + 37), .int 0]), .inr (false, 33, fun _ => 0), .inl (4, [.ref (a + 39), .ref (a + 41), .ref (a + 43), .ref (a + 45)]), .inl (5, [.int 48, .int 17, .ref (a + 40), .int 0]), .inr (false, 816, fun _ => 0), .inl (5, [.int 12, .int 3, .ref (a + 42), .int 0]), .inr (false, 36, fun _ => 0), .inl (3, [.ref (a + 44), .int 0]), .inr (false, 1024, fun _ => 0), .inl (5, [.int 3, .int 16, .ref (a + 46), .int 0]), .inr (false, 48, fun _ => 0), .inl (5, [.int 196, .int 3, .ref (a + 48), .int 0]), .inr (false, 588, fun _ => 0), .inl (2, [.null, .int 0, .int 0, .null, .null, .int 0, .int 0, .int 0, .int 0, .int 0, .int 0, .null, .int 0, .int 0])] G)
  refine c_dup hO dX7_init_41 ?_
  have hc := c_X2_init (ov a [.inl (6, [.ref (a + 1), .ref (a + 17), .ref (a + 33), .null, .null, .int 0]), .inl (0, [.ref (a + 2), .ref (a + 4), .ref (a + 6), .ref (a + 15), .int 0, .int 0]), .inl (3, [.ref (a + 3), .int 0]), .inr (false, 96, fun _ => 0), .inl (3, [.ref (a + 5), .int 0]), .inr (false, 33, fun _ => 0), .inl (4, [.ref (a + 7), .ref (a + 9), .ref (a + 11), .ref (a + 13)]), .inl (5, [.int 48, .int 17, .ref (a + 8), .int 0]), .inr (false, 816, fun _ => 0), .inl (5, [.int 12, .int 3, .ref (a + 10), .int 0]), .inr (false, 36, fun _ => 0), .inl (3, [.ref (a + 12), .int 0]), .inr (false, 1024, fun _ => 0), .inl (5, [.int 3, .int 16, .ref (a + 14), .int 0]), .inr (false, 48, fun _ => 0), .inl (5, [.int 196, .int 3, .ref (a + 16), .int 0]), .inr (false, 588, fun _ => 0), .inl (0, [.ref (a + 18), .ref (a + 20), .ref (a + 22), .ref (a + 31), .int 0, .int 0]), .inl (3, [.ref (a + 19), .int 0]), .inr (false, 96, fun _ => 0), .inl (3, [.ref (a + 21), .int 0]), .inr (false, 33, fun _ => 0), .inl (4, [.ref (a + 23), .ref (a + 25), .ref (a + 27), .ref (a + 29)]), .inl (5, [.int 48, .int 17, .ref (a + 24), .int 0]), .inr (false, 816, fun _ => 0), .inl (5, [.int 12, .int 3, .ref (a + 26), .int 0]), .inr (false, 36, fun _ => 0), .inl (3, [.ref (a + 28), .int 0]), .inr (false, 1024, fun _ => 0), .inl (5, [.int 3, .int 16, .ref (a + 30), .int 0]), .inr (false, 48, fun _ => 0), .inl (5, [.int 196, .int 3, .ref (a + 32), .int 0]), .inr (false, 588, fun _ => 0), .inl (0, [.ref (a + 34), .ref (a + 36), .ref (a + 38), .ref (a + 47), .int 0, .int 0]), .inl (3, [.ref (a + 35), .int 0]), .inr (false, 96, fun _ => 0), .inl (3, [.ref (a + 37), .int 0]), .inr (false, 33, fun _ => 0), .inl (4, [.ref (a + 39), .ref (a + 41), .ref (a + 43), .ref (a + 45)]), .inl (5, [.int 48, .int 17, .ref (a + 40), .int 0]), .inr (false, 816, fun _ => 0), .inl (5, [.int 12, .int 3, .ref (a + 42), .int 0]), .inr (false, 36, fun _ => 0), .inl (3, [.ref (a + 44), .int 0]), .inr (false, 1024, fun _ => 0), .inl (5, [.int 3, .int 16, .ref (a + 46), .int 0]), .inr (false, 48, fun _ => 0), .inl (5, [.int 196, .int 3, .ref (a + 48), .int 0]), .inr (false, 588, fun _ => 0)] G) (a + 49)
  rw [ov_ov a (sz := 49) rfl] at hc
  try rw [ov_ov a (sz := 49) rfl] at hc
  refine c_callN hO (hfr.mono (by omega)) w_126 w_7 w_125 rfl ⟨by decide +kernel, by decide +kernel, by decide +kernel⟩ (by decide) (by decide) (host := RX7) (by decide) dX7_init_42 hc rfl (Nat.le_of_ble_eq_true rfl) (by rw [hcap]; exact ⟨by omega, by omega⟩) ?_
  show Wc Γ 63 (0 + 6 + 2667 + 6 + 2667 + 6 + 2667 + 14 + 2010) (a + 64) 45 [some (.ref a)] [.ref (a + 49), .ref a] (ov a [.inl (6, [.ref (a + 1), .ref (a + 17), .ref (a + 33), .null, .null, .int 0]), .inl (0, [.ref (a + 2), .ref (a + 4), .ref (a + 6), .ref (a + 15), .int 0, .int 0]), .inl (3, [.ref (a + 3), .int 0]), .inr (false, 96, fun _ => 0), .inl (3, [.ref (a + 5), .int 0]), .inr (false, 33, fun _ => 0), .inl (4, [.ref (a + 7), .ref (a + 9), .ref (a + 11), .ref (a + 13)]), .inl (5, [.int 48, .int 17, .ref (a + 8), .int 0]), .inr (false, 816, fun _ => 0), .inl (5, [.int 12, .int 3, .ref (a + 10), .int 0]), .inr (false, 36, fun _ => 0), .inl (3, [.ref (a + 12), .int 0]), .inr (false, 1024, fun _ => 0), .inl (5, [.int 3, .int 16, .ref (a + 14), .int 0]), .inr (false, 48, fun _ => 0), .inl (5, [.int 196, .int 3, .ref (a + 16), .int 0]), .inr (false, 588, fun _ => 0), .inl (0, [.ref (a + 18), .ref (a + 20), .ref (a + 22), .ref (a + 31), .int 0, .int 0]), .inl (3, [.ref (a + 19), .int 0]), .inr (false, 96, fun _ => 0), .inl (3, [.ref (a + 21), .int 0]), .inr (false, 33, fun _ => 0), .inl (4, [.ref (a + 23), .ref (a + 25), .ref (a + 27), .ref (a + 29)]), .inl (5, [.int 48, .int 17, .ref (a + 24), .int 0]), .inr (false, 816, fun _ => 0), .inl (5, [.int 12, .int 3, .ref (a + 26), .int 0]), .inr (false, 36, fun _ => 0), .inl (3, [.ref (a + 28), .int 0]), .inr (false, 1024, fun _ => 0), .inl (5, [.int 3, .int 16, .ref (a + 30), .int 0]), .inr (false, 48, fun _ => 0), .inl (5, [.int 196, .int 3, .ref (a + 32), .int 0]), .inr (false, 588, fun _ => 0), .inl (0, [.ref (a + 34), .ref (a + 36), .ref (a + 38), .ref (a + 47), .int 0, .int 0]), .inl (3, [.ref (a + 35), .int 0]), .inr (false, 96, fun _ => 0), .inl (3, [.ref (a + 37), .int 0]), .inr (false, 33, fun _ => 0), .inl (4, [.ref (a + 39), .ref (a + 41), .ref (a + 43), .ref (a + 45)]), .inl (5, [.int 48, .int 17, .ref (a + 40), .int 0]), .inr (false, 816, fun _ => 0), .inl (5, [.int 12, .int 3, .ref (a + 42), .int 0]), .inr (false, 36, fun _ => 0), .inl (3, [.ref (a + 44), .int 0]), .inr (false, 1024, fun _ => 0), .inl (5, [.int 3, .int 16, .ref (a + 46), .int 0]), .inr (false, 48, fun _ => 0), .inl (5, [.int 196, .int 3, .ref (a + 48), .int 0]), .inr (false, 588, fun _ => 0), .inl (2, [.ref (a + 50), .int 0, .int 0, .ref (a + 59), .ref (a + 60), .int 0, .int 0, .int 0, .int 0, .int 0, .int 0, .ref (a + 62), .int 0, .int 0]), .inl (4, [.ref (a + 51), .ref (a + 53), .ref (a + 55), .ref (a + 57)]), .inl (5, [.int 48, .int 17, .ref (a + 52), .int 0]), .inr (false, 816, fun _ => 0), .inl (5, [.int 12, .int 3, .ref (a + 54), .int 0]), .inr (false, 36, fun _ => 0), .inl (3, [.ref (a + 56), .int 0]), .inr (false, 1024, fun _ => 0), .inl (5, [.int 3, .int 16, .ref (a + 58), .int 0]), .inr (false, 48, fun _ => 0), .inl (1, [.int 0, .int 0, .int 0, .int 0, .int 0, .int 0]), .inl (5, [.int 4, .int 6, .ref (a + 61), .int 0]), .inr (false, 24, fun _ => 0), .inl (3, [.ref (a + 63), .int 0]), .inr (false, 32, fun _ => 0)] G)
  refine c_putF hO hin FX7 3 (by decide) (by decide) rfl w_218 dX7_init_45 rfl rfl (ov_putF (j := 0) rfl (Nat.le_of_ble_eq_true rfl)) ?_
  show Wc Γ 63 (0 + 6 + 2667 + 6 + 2667 + 6 + 2667 + 14 + 2010) (a + 64) 48 [some (.ref a)] [] (ov a [.inl (6, [.ref (a + 1), .ref (a + 17), .ref (a + 33), .ref (a + 49), .null, .int 0]), .inl (0, [.ref (a + 2), .ref (a + 4), .ref (a + 6), .ref (a + 15), .int 0, .int 0]), .inl (3, [.ref (a + 3), .int 0]), .inr (false, 96, fun _ => 0), .inl (3, [.ref (a + 5), .int 0]), .inr (false, 33, fun _ => 0), .inl (4, [.ref (a + 7), .ref (a + 9), .ref (a + 11), .ref (a + 13)]), .inl (5, [.int 48, .int 17, .ref (a + 8), .int 0]), .inr (false, 816, fun _ => 0), .inl (5, [.int 12, .int 3, .ref (a + 10), .int 0]), .inr (false, 36, fun _ => 0), .inl (3, [.ref (a + 12), .int 0]), .inr (false, 1024, fun _ => 0), .inl (5, [.int 3, .int 16, .ref (a + 14), .int 0]), .inr (false, 48, fun _ => 0), .inl (5, [.int 196, .int 3, .ref (a + 16), .int 0]), .inr (false, 588, fun _ => 0), .inl (0, [.ref (a + 18), .ref (a + 20), .ref (a + 22), .ref (a + 31), .int 0, .int 0]), .inl (3, [.ref (a + 19), .int 0]), .inr (false, 96, fun _ => 0), .inl (3, [.ref (a + 21), .int 0]), .inr (false, 33, fun _ => 0), .inl (4, [.ref (a + 23), .ref (a + 25), .ref (a + 27), .ref (a + 29)]), .inl (5, [.int 48, .int 17, .ref (a + 24), .int 0]), .inr (false, 816, fun _ => 0), .inl (5, [.int 12, .int 3, .ref (a + 26), .int 0]), .inr (false, 36, fun _ => 0), .inl (3, [.ref (a + 28), .int 0]), .inr (false, 1024, fun _ => 0), .inl (5, [.int 3, .int 16, .ref (a + 30), .int 0]), .inr (false, 48, fun _ => 0), .inl (5, [.int 196, .int 3, .ref (a + 32), .int 0]), .inr (false, 588, fun _ => 0), .inl (0, [.ref (a + 34), .ref (a + 36), .ref (a + 38), .ref (a + 47), .int 0, .int 0]), .inl (3, [.ref (a + 35), .int 0]), .inr (false, 96, fun _ => 0), .inl (3, [.ref (a + 37), .int 0]), .inr (false, 33, fun _ => 0), .inl (4, [.ref (a + 39), .ref (a + 41), .ref (a + 43), .ref (a + 45)]), .inl (5, [.int 48, .int 17, .ref (a + 40), .int 0]), .inr (false, 816, fun _ => 0), .inl (5, [.int 12, .int 3, .ref (a + 42), .int 0]), .inr (false, 36, fun _ => 0), .inl (3, [.ref (a + 44), .int 0]), .inr (false, 1024, fun _ => 0), .inl (5, [.int 3, .int 16, .ref (a + 46), .int 0]), .inr (false, 48, fun _ => 0), .inl (5, [.int 196, .int 3, .ref (a + 48), .int 0]), .inr (false, 588, fun _ => 0), .inl (2, [.ref (a + 50), .int 0, .int 0, .ref (a + 59), .ref (a + 60), .int 0, .int 0, .int 0, .int 0, .int 0, .int 0, .ref (a + 62), .int 0, .int 0]), .inl (4, [.ref (a + 51), .ref (a + 53), .ref (a + 55), .ref (a + 57)]), .inl (5, [.int 48, .int 17, .ref (a + 52), .int 0]), .inr (false, 816, fun _ => 0), .inl (5, [.int 12, .int 3, .ref (a + 54), .int 0]), .inr (false, 36, fun _ => 0), .inl (3, [.ref (a + 56), .int 0]), .inr (false, 1024, fun _ => 0), .inl (5, [.int 3, .int 16, .ref (a + 58), .int 0]), .inr (false, 48, fun _ => 0), .inl (1, [.int 0, .int 0, .int 0, .int 0, .int 0, .int 0]), .inl (5, [.int 4, .int 6, .ref (a + 61), .int 0]), .inr (false, 24, fun _ => 0), .inl (3, [.ref (a + 63), .int 0]), .inr (false, 32, fun _ => 0)] G)
  refine c_aloadn hO dX7_init_48 rfl ?_
  refine c_new hO (hfr.mono (by omega)) FX1 dX7_init_49 w_213 w_131 w_8 [.int 0, .int 0, .int 0, .int 0, .int 0, .int 0] (by decide +kernel) (by rw [hcap]; exact ⟨by omega, by omega⟩) ?_
  rw [ov_new a (sz := 64) rfl]
  show Wc Γ 64 (0 + 6 + 2667 + 6 + 2667 + 6 + 2667 + 14 + 2010 + 6) (a + 65) 52 [some (.ref a)] [.ref (a + 64), .ref a] (ov a [.inl (6, [.ref (a + 1), .ref (a + 17), .ref (a + 33), .ref (a + 49), .null, .int 0]), .inl (0, [.ref (a + 2), .ref (a + 4), .ref (a + 6), .ref (a + 15), .int 0, .int 0]), .inl (3, [.ref (a + 3), .int 0]), .inr (false, 96, fun _ => 0), .inl (3, [.ref (a + 5), .int 0]), .inr (false, 33, fun _ => 0), .inl (4, [.ref (a + 7), .ref (a + 9), .ref (a + 11), .ref (a + 13)]), .inl (5, [.int 48, .int 17, .ref (a + 8), .int 0]), .inr (false, 816, fun _ => 0), .inl (5, [.int 12, .int 3, .ref (a + 10), .int 0]), .inr (false, 36, fun _ => 0), .inl (3, [.ref (a + 12), .int 0]), .inr (false, 1024, fun _ => 0), .inl (5, [.int 3, .int 16, .ref (a + 14), .int 0]), .inr (false, 48, fun _ => 0), .inl (5, [.int 196, .int 3, .ref (a + 16), .int 0]), .inr (false, 588, fun _ => 0), .inl (0, [.ref (a + 18), .ref (a + 20), .ref (a + 22), .ref (a + 31), .int 0, .int 0]), .inl (3, [.ref (a + 19), .int 0]), .inr (false, 96, fun _ => 0), .inl (3, [.ref (a + 21), .int 0]), .inr (false, 33, fun _ => 0), .inl (4, [.ref (a + 23), .ref (a + 25), .ref (a + 27), .ref (a + 29)]), .inl (5, [.int 48, .int 17, .ref (a + 24), .int 0]), .inr (false, 816, fun _ => 0), .inl (5, [.int 12, .int 3, .ref (a + 26), .int 0]), .inr (false, 36, fun _ => 0), .inl (3, [.ref (a + 28), .int 0]), .inr (false, 1024, fun _ => 0), .inl (5, [.int 3, .int 16, .ref (a + 30), .int 0]), .inr (false, 48, fun _ => 0), .inl (5, [.int 196, .int 3, .ref (a + 32), .int 0]), .inr (false, 588, fun _ => 0), .inl (0, [.ref (a + 34), .ref (a + 36), .ref (a + 38), .ref (a + 47), .int 0, .int 0]), .inl (3, [.ref (a + 35), .int 0]), .inr (false, 96, fun _ => 0), .inl (3, [.ref (a + 37), .int 0]), .inr (false, 33, fun _ => 0), .inl (4, [.ref (a + 39), .ref (a + 41), .ref (a + 43), .ref (a + 45)]), .inl (5, [.int 48, .int 17, .ref (a + 40), .int 0]), .inr (false, 816, fun _ => 0), .inl (5, [.int 12, .int 3, .ref (a + 42), .int 0]), .inr (false, 36, fun _ => 0), .inl (3, [.ref (a + 44), .int 0]), .inr (false, 1024, fun _ => 0), .inl (5, [.int 3, .int 16, .ref (a + 46), .int 0]), .inr (false, 48, fun _ => 0), .inl (5, [.int 196, .int 3, .ref (a + 48), .int 0]), .inr (false, 588, fun _ => 0), .inl (2, [.ref (a + 50), .int 0, .int 0, .ref (a + 59), .ref (a + 60), .int 0, .int 0, .int 0, .int 0, .int 0, .int 0, .ref (a + 62), .int 0, .int 0]), .inl (4, [.ref (a + 51), .ref (a + 53), .ref (a + 55), .ref (a + 57)]), .inl (5, [.int 48, .int 17, .ref (a + 52), .int 0]), .inr (false, 816, fun _ => 0), .inl (5, [.int 12, .int 3, .ref (a + 54), .int 0]), .inr (false, 36, fun _ => 0), .inl (3, [.ref (a + 56), .int 0]), .inr (false, 1024, fun _ => 0), .inl (5, [.int 3, .int 16, .ref (a + 58), .int 0]), .inr (false, 48, fun _ => 0), .inl (1, [.int 0, .int 0, .int 0, .int 0, .int 0, .int 0]), .inl (5, [.int 4, .int 6, .ref (a + 61), .int 0]), .inr (false, 24, fun _ => 0), .inl (3, [.ref (a + 63), .int 0]), .inr (false, 32, fun _ => 0), .inl (1, [.int 0, .int 0, .int 0, .int 0, .int 0, .int 0])] G)
  refine c_dup hO dX7_init_52 ?_
  have hc := c_X1_init (ov a [.inl (6, [.ref (a + 1), .ref (a + 17), .ref (a + 33), .ref (a + 49), .null, .int 0]), .inl (0, [.ref (a + 2), .ref (a + 4), .ref (a + 6), .ref (a + 15), .int 0, .int 0]), .inl (3, [.ref (a + 3), .int 0]), .inr (false, 96, fun _ => 0), .inl (3, [.ref (a + 5), .int 0]), .inr (false, 33, fun _ => 0), .inl (4, [.ref (a + 7), .ref (a + 9), .ref (a + 11), .ref (a + 13)]), .inl (5, [.int 48, .int 17, .ref (a + 8), .int 0]), .inr (false, 816, fun _ => 0), .inl (5, [.int 12, .int 3, .ref (a + 10), .int 0]), .inr (false, 36, fun _ => 0), .inl (3, [.ref (a + 12), .int 0]), .inr (false, 1024, fun _ => 0), .inl (5, [.int 3, .int 16, .ref (a + 14), .int 0]), .inr (false, 48, fun _ => 0), .inl (5, [.int 196, .int 3, .ref (a + 16), .int 0]), .inr (false, 588, fun _ => 0), .inl (0, [.ref (a + 18), .ref (a + 20), .ref (a + 22), .ref (a + 31), .int 0, .int 0]), .inl (3, [.ref (a + 19), .int 0]), .inr (false, 96, fun _ => 0), .inl (3, [.ref (a + 21), .int 0]), .inr (false, 33, fun _ => 0), .inl (4, [.ref (a + 23), .ref (a + 25), .ref (a + 27), .ref (a + 29)]), .inl (5, [.int 48, .int 17, .ref (a + 24), .int 0]), .inr (false, 816, fun _ => 0), .inl (5, [.int 12, .int 3, .ref (a + 26), .int 0]), .inr (false, 36, fun _ => 0), .inl (3, [.ref (a + 28), .int 0]), .inr (false, 1024, fun _ => 0), .inl (5, [.int 3, .int 16, .ref (a + 30), .int 0]), .inr (false, 48, fun _ => 0), .inl (5, [.int 196, .int 3, .ref (a + 32), .int 0]), .inr (false, 588, fun _ => 0), .inl (0, [.ref (a + 34), .ref (a + 36), .ref (a + 38), .ref (a + 47), .int 0, .int 0]), .inl (3, [.ref (a + 35), .int 0]), .inr (false, 96, fun _ => 0), .inl (3, [.ref (a + 37), .int 0]), .inr (false, 33, fun _ => 0), .inl (4, [.ref (a + 39), .ref (a + 41), .ref (a + 43), .ref (a + 45)]), .inl (5, [.int 48, .int 17, .ref (a + 40), .int 0]), .inr (false, 816, fun _ => 0), .inl (5, [.int 12, .int 3, .ref (a + 42), .int 0]), .inr (false, 36, fun _ => 0), .inl (3, [.ref (a + 44), .int 0]), .inr (false, 1024, fun _ => 0), .inl (5, [.int 3, .int 16, .ref (a + 46), .int 0]), .inr (false, 48, fun _ => 0), .inl (5, [.int 196, .int 3, .ref (a + 48), .int 0]), .inr (false, 588, fun _ => 0), .inl (2, [.ref (a + 50), .int 0, .int 0, .ref (a + 59), .ref (a + 60), .int 0, .int 0, .int 0, .int 0, .int 0, .int 0, .ref (a + 62), .int 0, .int 0]), .inl (4, [.ref (a + 51), .ref (a + 53), .ref (a + 55), .ref (a + 57)]), .inl (5, [.int 48, .int 17, .ref (a + 52), .int 0]), .inr (false, 816, fun _ => 0), .inl (5, [.int 12, .int 3, .ref (a + 54), .int 0]), .inr (false, 36, fun _ => 0), .inl (3, [.ref (a + 56), .int 0]), .inr (false, 1024, fun _ => 0), .inl (5, [.int 3, .int 16, .ref (a + 58), .int 0]), .inr (false, 48, fun _ => 0), .inl (1, [.int 0, .int 0, .int 0, .int 0, .int 0, .int 0]), .inl (5, [.int 4, .int 6, .ref (a + 61), .int 0]), .inr (false, 24, fun _ => 0), .inl (3, [.ref (a + 63), .int 0]), .inr (false, 32, fun _ => 0)] G) (a + 64)
  rw [ov_ov a (sz := 64) rfl] at hc
  try rw [ov_ov a (sz := 64) rfl] at hc
  refine c_callN hO (hfr.mono (by omega)) w_134 w_8 w_133 rfl ⟨by decide +kernel, by decide +kernel, by decide +kernel⟩ (by decide) (by decide) (host := RX7) (by decide) dX7_init_53 hc rfl (Nat.le_of_ble_eq_true rfl) (by rw [hcap]; exact ⟨by omega, by omega⟩) ?_
  show Wc Γ 64 (0 + 6 + 2667 + 6 + 2667 + 6 + 2667 + 14 + 2010 + 6 + 0) (a + 65) 56 [some (.ref a)] [.ref (a + 64), .ref a] (ov a [.inl (6, [.ref (a + 1), .ref (a + 17), .ref (a + 33), .ref (a + 49), .null, .int 0]), .inl (0, [.ref (a + 2), .ref (a + 4), .ref (a + 6), .ref (a + 15), .int 0, .int 0]), .inl (3, [.ref (a + 3), .int 0]), .inr (false, 96, fun _ => 0), .inl (3, [.ref (a + 5), .int 0]), .inr (false, 33, fun _ => 0), .inl (4, [.ref (a + 7), .ref (a + 9), .ref (a + 11), .ref (a + 13)]), .inl (5, [.int 48, .int 17, .ref (a + 8), .int 0]), .inr (false, 816, fun _ => 0), .inl (5, [.int 12, .int 3, .ref (a + 10), .int 0]), .inr (false, 36, fun _ => 0), .inl (3, [.ref (a + 12), .int 0]), .inr (false, 1024, fun _ => 0), .inl (5, [.int 3, .int 16, .ref (a + 14), .int 0]), .inr (false, 48, fun _ => 0), .inl (5, [.int 196, .int 3, .ref (a + 16), .int 0]), .inr (false, 588, fun _ => 0), .inl (0, [.ref (a + 18), .ref (a + 20), .ref (a + 22), .ref (a + 31), .int 0, .int 0]), .inl (3, [.ref (a + 19), .int 0]), .inr (false, 96, fun _ => 0), .inl (3, [.ref (a + 21), .int 0]), .inr (false, 33, fun _ => 0), .inl (4, [.ref (a + 23), .ref (a + 25), .ref (a + 27), .ref (a + 29)]), .inl (5, [.int 48, .int 17, .ref (a + 24), .int 0]), .inr (false, 816, fun _ => 0), .inl (5, [.int 12, .int 3, .ref (a + 26), .int 0]), .inr (false, 36, fun _ => 0), .inl (3, [.ref (a + 28), .int 0]), .inr (false, 1024, fun _ => 0), .inl (5, [.int 3, .int 16, .ref (a + 30), .int 0]), .inr (false, 48, fun _ => 0), .inl (5, [.int 196, .int 3, .ref (a + 32), .int 0]), .inr (false, 588, fun _ => 0), .inl (0, [.ref (a + 34), .ref (a + 36), .ref (a + 38), .ref (a + 47), .int 0, .int 0]), .inl (3, [.ref (a + 35), .int 0]), .inr (false, 96, fun _ => 0), .inl (3, [.ref (a + 37), .int 0]), .inr (false, 33, fun _ => 0), .inl (4, [.ref (a + 39), .ref (a + 41), .ref (a + 43), .ref (a + 45)]), .inl (5, [.int 48, .int 17, .ref (a + 40), .int 0]), .inr (false, 816, fun _ => 0), .inl (5, [.int 12, .int 3, .ref (a + 42), .int 0]), .inr (false, 36, fun _ => 0), .inl (3, [.ref (a + 44), .int 0]), .inr (false, 1024, fun _ => 0), .inl (5, [.int 3, .int 16, .ref (a + 46), .int 0]), .inr (false, 48, fun _ => 0), .inl (5, [.int 196, .int 3, .ref (a + 48), .int 0]), .inr (false, 588, fun _ => 0), .inl (2, [.ref (a + 50), .int 0, .int 0, .ref (a + 59), .ref (a + 60), .int 0, .int 0, .int 0, .int 0, .int 0, .int 0, .ref (a + 62), .int 0, .int 0]), .inl (4, [.ref (a + 51), .ref (a + 53), .ref (a + 55), .ref (a + 57)]), .inl (5, [.int 48, .int 17, .ref (a + 52), .int 0]), .inr (false, 816, fun _ => 0), .inl (5, [.int 12, .int 3, .ref (a + 54), .int 0]), .inr (false, 36, fun _ => 0), .inl (3, [.ref (a + 56), .int 0]), .inr (false, 1024, fun _ => 0), .inl (5, [.int 3, .int 16, .ref (a + 58), .int 0]), .inr (false, 48, fun _ => 0), .inl (1, [.int 0, .int 0, .int 0, .int 0, .int 0, .int 0]), .inl (5, [.int 4, .int 6, .ref (a + 61), .int 0]), .inr (false, 24, fun _ => 0), .inl (3, [.ref (a + 63), .int 0]), .inr (false, 32, fun _ => 0), .inl (1, [.int 0, .int 0, .int 0, .int 0, .int 0, .int 0])] G)
  refine c_putF hO hin FX7 4 (by decide) (by decide) rfl w_219 dX7_init_56 rfl rfl (ov_putF (j := 0) rfl (Nat.le_of_ble_eq_true rfl)) ?_
  show Wc Γ 64 (0 + 6 + 2667 + 6 + 2667 + 6 + 2667 + 14 + 2010 + 6 + 0) (a + 65) 59 [some (.ref a)] [] (ov a [.inl (6, [.ref (a + 1), .ref (a + 17), .ref (a + 33), .ref (a + 49), .ref (a + 64), .int 0]), .inl (0, [.ref (a + 2), .ref (a + 4), .ref (a + 6), .ref (a + 15), .int 0, .int 0]), .inl (3, [.ref (a + 3), .int 0]), .inr (false, 96, fun _ => 0), .inl (3, [.ref (a + 5), .int 0]), .inr (false, 33, fun _ => 0), .inl (4, [.ref (a + 7), .ref (a + 9), .ref (a + 11), .ref (a + 13)]), .inl (5, [.int 48, .int 17, .ref (a + 8), .int 0]), .inr (false, 816, fun _ => 0), .inl (5, [.int 12, .int 3, .ref (a + 10), .int 0]), .inr (false, 36, fun _ => 0), .inl (3, [.ref (a + 12), .int 0]), .inr (false, 1024, fun _ => 0), .inl (5, [.int 3, .int 16, .ref (a + 14), .int 0]), .inr (false, 48, fun _ => 0), .inl (5, [.int 196, .int 3, .ref (a + 16), .int 0]), .inr (false, 588, fun _ => 0), .inl (0, [.ref (a + 18), .ref (a + 20), .ref (a + 22), .ref (a + 31), .int 0, .int 0]), .inl (3, [.ref (a + 19), .int 0]), .inr (false, 96, fun _ => 0), .inl (3, [.ref (a + 21), .int 0]), .inr (false, 33, fun _ => 0), .inl (4, [.ref (a + 23), .ref (a + 25), .ref (a + 27), .ref (a + 29)]), .inl (5, [.int 48, .int 17, .ref (a + 24), .int 0]), .inr (false, 816, fun _ => 0), .inl (5, [.int 12, .int 3, .ref (a + 26), .int 0]), .inr (false, 36, fun _ => 0), .inl (3, [.ref (a + 28), .int 0]), .inr (false, 1024, fun _ => 0), .inl (5, [.int 3, .int 16, .ref (a + 30), .int 0]), .inr (false, 48, fun _ => 0), .inl (5, [.int 196, .int 3, .ref (a + 32), .int 0]), .inr (false, 588, fun _ => 0), .inl (0, [.ref (a + 34), .ref (a + 36), .ref (a + 38), .ref (a + 47), .int 0, .int 0]), .inl (3, [.ref (a + 35), .int 0]), .inr (false, 96, fun _ => 0), .inl (3, [.ref (a + 37), .int 0]), .inr (false, 33, fun _ => 0), .inl (4, [.ref (a + 39), .ref (a + 41), .ref (a + 43), .ref (a + 45)]), .inl (5, [.int 48, .int 17, .ref (a + 40), .int 0]), .inr (false, 816, fun _ => 0), .inl (5, [.int 12, .int 3, .ref (a + 42), .int 0]), .inr (false, 36, fun _ => 0), .inl (3, [.ref (a + 44), .int 0]), .inr (false, 1024, fun _ => 0), .inl (5, [.int 3, .int 16, .ref (a + 46), .int 0]), .inr (false, 48, fun _ => 0), .inl (5, [.int 196, .int 3, .ref (a + 48), .int 0]), .inr (false, 588, fun _ => 0), .inl (2, [.ref (a + 50), .int 0, .int 0, .ref (a + 59), .ref (a + 60), .int 0, .int 0, .int 0, .int 0, .int 0, .int 0, .ref (a + 62), .int 0, .int 0]), .inl (4, [.ref (a + 51), .ref (a + 53), .ref (a + 55), .ref (a + 57)]), .inl (5, [.int 48, .int 17, .ref (a + 52), .int 0]), .inr (false, 816, fun _ => 0), .inl (5, [.int 12, .int 3, .ref (a + 54), .int 0]), .inr (false, 36, fun _ => 0), .inl (3, [.ref (a + 56), .int 0]), .inr (false, 1024, fun _ => 0), .inl (5, [.int 3, .int 16, .ref (a + 58), .int 0]), .inr (false, 48, fun _ => 0), .inl (1, [.int 0, .int 0, .int 0, .int 0, .int 0, .int 0]), .inl (5, [.int 4, .int 6, .ref (a + 61), .int 0]), .inr (false, 24, fun _ => 0), .inl (3, [.ref (a + 63), .int 0]), .inr (false, 32, fun _ => 0), .inl (1, [.int 0, .int 0, .int 0, .int 0, .int 0, .int 0])] G)
  refine c_aloadn hO dX7_init_59 rfl ?_
  refine c_iconst hO dX7_init_60 (v := 0) (by decide) ?_
  refine c_put hO FX7 5 (by decide) (by decide) w_220 dX7_init_61 rfl rfl (ov_putF (j := 0) rfl (Nat.le_of_ble_eq_true rfl)) ?_
  show Wc Γ 64 (0 + 6 + 2667 + 6 + 2667 + 6 + 2667 + 14 + 2010 + 6 + 0) (a + 65) 64 [some (.ref a)] [] (ov a [.inl (6, [.ref (a + 1), .ref (a + 17), .ref (a + 33), .ref (a + 49), .ref (a + 64), .int 0]), .inl (0, [.ref (a + 2), .ref (a + 4), .ref (a + 6), .ref (a + 15), .int 0, .int 0]), .inl (3, [.ref (a + 3), .int 0]), .inr (false, 96, fun _ => 0), .inl (3, [.ref (a + 5), .int 0]), .inr (false, 33, fun _ => 0), .inl (4, [.ref (a + 7), .ref (a + 9), .ref (a + 11), .ref (a + 13)]), .inl (5, [.int 48, .int 17, .ref (a + 8), .int 0]), .inr (false, 816, fun _ => 0), .inl (5, [.int 12, .int 3, .ref (a + 10), .int 0]), .inr (false, 36, fun _ => 0), .inl (3, [.ref (a + 12), .int 0]), .inr (false, 1024, fun _ => 0), .inl (5, [.int 3, .int 16, .ref (a + 14), .int 0]), .inr (false, 48, fun _ => 0), .inl (5, [.int 196, .int 3, .ref (a + 16), .int 0]), .inr (false, 588, fun _ => 0), .inl (0, [.ref (a + 18), .ref (a + 20), .ref (a + 22), .ref (a + 31), .int 0, .int 0]), .inl (3, [.ref (a + 19), .int 0]), .inr (false, 96, fun _ => 0), .inl (3, [.ref (a + 21), .int 0]), .inr (false, 33, fun _ => 0), .inl (4, [.ref (a + 23), .ref (a + 25), .ref (a + 27), .ref (a + 29)]), .inl (5, [.int 48, .int 17, .ref (a + 24), .int 0]), .inr (false, 816, fun _ => 0), .inl (5, [.int 12, .int 3, .ref (a + 26), .int 0]), .inr (false, 36, fun _ => 0), .inl (3, [.ref (a + 28), .int 0]), .inr (false, 1024, fun _ => 0), .inl (5, [.int 3, .int 16, .ref (a + 30), .int 0]), .inr (false, 48, fun _ => 0), .inl (5, [.int 196, .int 3, .ref (a + 32), .int 0]), .inr (false, 588, fun _ => 0), .inl (0, [.ref (a + 34), .ref (a + 36), .ref (a + 38), .ref (a + 47), .int 0, .int 0]), .inl (3, [.ref (a + 35), .int 0]), .inr (false, 96, fun _ => 0), .inl (3, [.ref (a + 37), .int 0]), .inr (false, 33, fun _ => 0), .inl (4, [.ref (a + 39), .ref (a + 41), .ref (a + 43), .ref (a + 45)]), .inl (5, [.int 48, .int 17, .ref (a + 40), .int 0]), .inr (false, 816, fun _ => 0), .inl (5, [.int 12, .int 3, .ref (a + 42), .int 0]), .inr (false, 36, fun _ => 0), .inl (3, [.ref (a + 44), .int 0]), .inr (false, 1024, fun _ => 0), .inl (5, [.int 3, .int 16, .ref (a + 46), .int 0]), .inr (false, 48, fun _ => 0), .inl (5, [.int 196, .int 3, .ref (a + 48), .int 0]), .inr (false, 588, fun _ => 0), .inl (2, [.ref (a + 50), .int 0, .int 0, .ref (a + 59), .ref (a + 60), .int 0, .int 0, .int 0, .int 0, .int 0, .int 0, .ref (a + 62), .int 0, .int 0]), .inl (4, [.ref (a + 51), .ref (a + 53), .ref (a + 55), .ref (a + 57)]), .inl (5, [.int 48, .int 17, .ref (a + 52), .int 0]), .inr (false, 816, fun _ => 0), .inl (5, [.int 12, .int 3, .ref (a + 54), .int 0]), .inr (false, 36, fun _ => 0), .inl (3, [.ref (a + 56), .int 0]), .inr (false, 1024, fun _ => 0), .inl (5, [.int 3, .int 16, .ref (a + 58), .int 0]), .inr (false, 48, fun _ => 0), .inl (1, [.int 0, .int 0, .int 0, .int 0, .int 0, .int 0]), .inl (5, [.int 4, .int 6, .ref (a + 61), .int 0]), .inr (false, 24, fun _ => 0), .inl (3, [.ref (a + 63), .int 0]), .inr (false, 32, fun _ => 0), .inl (1, [.int 0, .int 0, .int 0, .int 0, .int 0, .int 0])] G)
  exact hend _
set_option maxRecDepth 20000 in
theorem c_X8_init (G : Hp) (a : Nat) : Ctor yX8_init cX8_init 1 1 9 10035 [.ref a] (ov a [.inl (7, [.null, .null, .null, .int 0, .int 0, .int 0, .int 0, .int 0, .null, .null, .int 0, .null, .int 0, .int 0, .null, .int 0, .int 0, .int 0, .int 0, .null, .int 0, .int 0, .int 0, .int 0, .null, .int 0])] G) (a + 1) (ov a [.inl (7, [.ref (a + 1), .ref (a + 2), .ref (a + 3), .int 0, .int 0, .int 0, .int 0, .int 0, .ref (a + 4), .ref (a + 5), .int 0, .ref (a + 6), .int 0, .int 0, .ref (a + 7), .int 0, .int 0, .int 0, .int 0, .ref (a + 8), .int 0, .int 0, .int 0, .int 0, .ref (a + 9), .int 0]), .inr (false, 3293, fun _ => 0), .inr (false, 6586, fun _ => 0), .inr (true, 2, fun _ => 0), .inr (false, 6, fun _ => 0), .inr (false, 24, fun _ => 0), .inr (false, 32, fun _ => 0), .inr (false, 12, fun _ => 0), .inr (false, 48, fun _ => 0), .inr (false, 32, fun _ => 0)] G) := by
  refine Ctor.of (by decide +kernel) (Nat.le_refl 1) rfl 77 dX8_init_77 fun Γ sa hO hfr hin hcap hend => ?_
  have hcap : cap Γ = (9, 10035) := hcap
  show Wc Γ 0 0 (a + 1) 0 [some (.ref a)] [] (ov a [.inl (7, [.null, .null, .null, .int 0, .int 0, .int 0, .int 0, .int 0, .null, .null, .int 0, .null, .int 0, .int 0, .null, .int 0, .int 0, .int 0, .int 0, .null, .int 0, .int 0, .int 0, .int 0, .null, .int 0])] G)
  refine c_aloadn hO dX8_init_0 rfl ?_
  refine c_obj hO (by decide) dX8_init_1 w_770 w_23 w_24 (Nat.le_of_ble_eq_true rfl) ?_
  refine c_aloadn hO dX8_init_4 rfl ?_
  refine c_sipush hO dX8_init_5 (v := 3293) (by decide) ?_
  refine c_newI hO (hfr.mono (by omega)) dX8_init_8 w_47 (N := 3293) (by decide) (by omega) (by rw [hcap]; exact ⟨by omega, by omega⟩) ?_
  rw [ov_new a (sz := 1) rfl]
  show Wc Γ 1 (0 + 3293) (a + 2) 10 [some (.ref a)] [.ref (a + 1), .ref a] (ov a [.inl (7, [.null, .null, .null, .int 0, .int 0, .int 0, .int 0, .int 0, .null, .null, .int 0, .null, .int 0, .int 0, .null, .int 0, .int 0, .int 0, .int 0, .null, .int 0, .int 0, .int 0, .int 0, .null, .int 0]), .inr (false, 3293, fun _ => 0)] G)
  refine c_putF hO hin FX8 0 (by decide) (by decide) rfl w_771 dX8_init_10 rfl rfl (ov_putF (j := 0) rfl (Nat.le_of_ble_eq_true rfl)) ?_
  show Wc Γ 1 (0 + 3293) (a + 2) 13 [some (.ref a)] [] (ov a [.inl (7, [.ref (a + 1), .null, .null, .int 0, .int 0, .int 0, .int 0, .int 0, .null, .null, .int 0, .null, .int 0, .int 0, .null, .int 0, .int 0, .int 0, .int 0, .null, .int 0, .int 0, .int 0, .int 0, .null, .int 0]), .inr (false, 3293, fun _ => 0)] G)
  refine c_aloadn hO dX8_init_13 rfl ?_
  refine c_sipush hO dX8_init_14 (v := 6586) (by decide) ?_
  refine c_newI hO (hfr.mono (by omega)) dX8_init_17 w_47 (N := 6586) (by decide) (by omega) (by rw [hcap]; exact ⟨by omega, by omega⟩) ?_
  rw [ov_new a (sz := 2) rfl]
  show Wc Γ 2 (0 + 3293 + 6586) (a + 3) 19 [some (.ref a)] [.ref (a + 2), .ref a] (ov a [.inl (7, [.ref (a + 1), .null, .null, .int 0, .int 0, .int 0, .int 0, .int 0, .null, .null, .int 0, .null, .int 0, .int 0, .null, .int 0, .int 0, .int 0, .int 0, .null, .int 0, .int 0, .int 0, .int 0, .null, .int 0]), .inr (false, 3293, fun _ => 0), .inr (false, 6586, fun _ => 0)] G)
  refine c_putF hO hin FX8 1 (by decide) (by decide) rfl w_772 dX8_init_19 rfl rfl (ov_putF (j := 0) rfl (Nat.le_of_ble_eq_true rfl)) ?_
  show Wc Γ 2 (0 + 3293 + 6586) (a + 3) 22 [some (.ref a)] [] (ov a [.inl (7, [.ref (a + 1), .ref (a + 2), .null, .int 0, .int 0, .int 0, .int 0, .int 0, .null, .null, .int 0, .null, .int 0, .int 0, .null, .int 0, .int 0, .int 0, .int 0, .null, .int 0, .int 0, .int 0, .int 0, .null, .int 0]), .inr (false, 3293, fun _ => 0), .inr (false, 6586, fun _ => 0)] G)
  refine c_aloadn hO dX8_init_22 rfl ?_
  refine c_iconst hO dX8_init_23 (v := 2) (by decide) ?_
  refine c_newZ hO (hfr.mono (by omega)) dX8_init_24 w_850 (N := 2) (by decide) (by omega) (by rw [hcap]; exact ⟨by omega, by omega⟩) ?_
  rw [ov_new a (sz := 3) rfl]
  show Wc Γ 3 (0 + 3293 + 6586 + 2) (a + 4) 26 [some (.ref a)] [.ref (a + 3), .ref a] (ov a [.inl (7, [.ref (a + 1), .ref (a + 2), .null, .int 0, .int 0, .int 0, .int 0, .int 0, .null, .null, .int 0, .null, .int 0, .int 0, .null, .int 0, .int 0, .int 0, .int 0, .null, .int 0, .int 0, .int 0, .int 0, .null, .int 0]), .inr (false, 3293, fun _ => 0), .inr (false, 6586, fun _ => 0), .inr (true, 2, fun _ => 0)] G)
  refine c_putF hO hin FX8 2 (by decide) (by decide) rfl w_773 dX8_init_26 rfl rfl (ov_putF (j := 0) rfl (Nat.le_of_ble_eq_true rfl)) ?_
  show Wc Γ 3 (0 + 3293 + 6586 + 2) (a + 4) 29 [some (.ref a)] [] (ov a [.inl (7, [.ref (a + 1), .ref (a + 2), .ref (a + 3), .int 0, .int 0, .int 0, .int 0, .int 0, .null, .null, .int 0, .null, .int 0, .int 0, .null, .int 0, .int 0, .int 0, .int 0, .null, .int 0, .int 0, .int 0, .int 0, .null, .int 0]), .inr (false, 3293, fun _ => 0), .inr (false, 6586, fun _ => 0), .inr (true, 2, fun _ => 0)] G)
  refine c_aloadn hO dX8_init_29 rfl ?_
  refine c_bipush hO dX8_init_30 (v := 6) (by decide) ?_
  refine c_newI hO (hfr.mono (by omega)) dX8_init_32 w_47 (N := 6) (by decide) (by omega) (by rw [hcap]; exact ⟨by omega, by omega⟩) ?_
  rw [ov_new a (sz := 4) rfl]
  show Wc Γ 4 (0 + 3293 + 6586 + 2 + 6) (a + 5) 34 [some (.ref a)] [.ref (a + 4), .ref a] (ov a [.inl (7, [.ref (a + 1), .ref (a + 2), .ref (a + 3), .int 0, .int 0, .int 0, .int 0, .int 0, .null, .null, .int 0, .null, .int 0, .int 0, .null, .int 0, .int 0, .int 0, .int 0, .null, .int 0, .int 0, .int 0, .int 0, .null, .int 0]), .inr (false, 3293, fun _ => 0), .inr (false, 6586, fun _ => 0), .inr (true, 2, fun _ => 0), .inr (false, 6, fun _ => 0)] G)
  refine c_putF hO hin FX8 8 (by decide) (by decide) rfl w_779 dX8_init_34 rfl rfl (ov_putF (j := 0) rfl (Nat.le_of_ble_eq_true rfl)) ?_
  show Wc Γ 4 (0 + 3293 + 6586 + 2 + 6) (a + 5) 37 [some (.ref a)] [] (ov a [.inl (7, [.ref (a + 1), .ref (a + 2), .ref (a + 3), .int 0, .int 0, .int 0, .int 0, .int 0, .ref (a + 4), .null, .int 0, .null, .int 0, .int 0, .null, .int 0, .int 0, .int 0, .int 0, .null, .int 0, .int 0, .int 0, .int 0, .null, .int 0]), .inr (false, 3293, fun _ => 0), .inr (false, 6586, fun _ => 0), .inr (true, 2, fun _ => 0), .inr (false, 6, fun _ => 0)] G)
  refine c_aloadn hO dX8_init_37 rfl ?_
  refine c_bipush hO dX8_init_38 (v := 24) (by decide) ?_
  refine c_newI hO (hfr.mono (by omega)) dX8_init_40 w_47 (N := 24) (by decide) (by omega) (by rw [hcap]; exact ⟨by omega, by omega⟩) ?_
  rw [ov_new a (sz := 5) rfl]
  show Wc Γ 5 (0 + 3293 + 6586 + 2 + 6 + 24) (a + 6) 42 [some (.ref a)] [.ref (a + 5), .ref a] (ov a [.inl (7, [.ref (a + 1), .ref (a + 2), .ref (a + 3), .int 0, .int 0, .int 0, .int 0, .int 0, .ref (a + 4), .null, .int 0, .null, .int 0, .int 0, .null, .int 0, .int 0, .int 0, .int 0, .null, .int 0, .int 0, .int 0, .int 0, .null, .int 0]), .inr (false, 3293, fun _ => 0), .inr (false, 6586, fun _ => 0), .inr (true, 2, fun _ => 0), .inr (false, 6, fun _ => 0), .inr (false, 24, fun _ => 0)] G)
  refine c_putF hO hin FX8 9 (by decide) (by decide) rfl w_780 dX8_init_42 rfl rfl (ov_putF (j := 0) rfl (Nat.le_of_ble_eq_true rfl)) ?_
  show Wc Γ 5 (0 + 3293 + 6586 + 2 + 6 + 24) (a + 6) 45 [some (.ref a)] [] (ov a [.inl (7, [.ref (a + 1), .ref (a + 2), .ref (a + 3), .int 0, .int 0, .int 0, .int 0, .int 0, .ref (a + 4), .ref (a + 5), .int 0, .null, .int 0, .int 0, .null, .int 0, .int 0, .int 0, .int 0, .null, .int 0, .int 0, .int 0, .int 0, .null, .int 0]), .inr (false, 3293, fun _ => 0), .inr (false, 6586, fun _ => 0), .inr (true, 2, fun _ => 0), .inr (false, 6, fun _ => 0), .inr (false, 24, fun _ => 0)] G)
  refine c_aloadn hO dX8_init_45 rfl ?_
  refine c_bipush hO dX8_init_46 (v := 32) (by decide) ?_
  refine c_newI hO (hfr.mono (by omega)) dX8_init_48 w_47 (N := 32) (by decide) (by omega) (by rw [hcap]; exact ⟨by omega, by omega⟩) ?_
  rw [ov_new a (sz := 6) rfl]
  show Wc Γ 6 (0 + 3293 + 6586 + 2 + 6 + 24 + 32) (a + 7) 50 [some (.ref a)] [.ref (a + 6), .ref a] (ov a [.inl (7, [.ref (a + 1), .ref (a + 2), .ref (a + 3), .int 0, .int 0, .int 0, .int 0, .int 0, .ref (a + 4), .ref (a + 5), .int 0, .null, .int 0, .int 0, .null, .int 0, .int 0, .int 0, .int 0, .null, .int 0, .int 0, .int 0, .int 0, .null, .int 0]), .inr (false, 3293, fun _ => 0), .inr (false, 6586, fun _ => 0), .inr (true, 2, fun _ => 0), .inr (false, 6, fun _ => 0), .inr (false, 24, fun _ => 0), .inr (false, 32, fun _ => 0)] G)
  refine c_putF hO hin FX8 11 (by decide) (by decide) rfl w_782 dX8_init_50 rfl rfl (ov_putF (j := 0) rfl (Nat.le_of_ble_eq_true rfl)) ?_
  show Wc Γ 6 (0 + 3293 + 6586 + 2 + 6 + 24 + 32) (a + 7) 53 [some (.ref a)] [] (ov a [.inl (7, [.ref (a + 1), .ref (a + 2), .ref (a + 3), .int 0, .int 0, .int 0, .int 0, .int 0, .ref (a + 4), .ref (a + 5), .int 0, .ref (a + 6), .int 0, .int 0, .null, .int 0, .int 0, .int 0, .int 0, .null, .int 0, .int 0, .int 0, .int 0, .null, .int 0]), .inr (false, 3293, fun _ => 0), .inr (false, 6586, fun _ => 0), .inr (true, 2, fun _ => 0), .inr (false, 6, fun _ => 0), .inr (false, 24, fun _ => 0), .inr (false, 32, fun _ => 0)] G)
  refine c_aloadn hO dX8_init_53 rfl ?_
  refine c_bipush hO dX8_init_54 (v := 12) (by decide) ?_
  refine c_newI hO (hfr.mono (by omega)) dX8_init_56 w_47 (N := 12) (by decide) (by omega) (by rw [hcap]; exact ⟨by omega, by omega⟩) ?_
  rw [ov_new a (sz := 7) rfl]
  show Wc Γ 7 (0 + 3293 + 6586 + 2 + 6 + 24 + 32 + 12) (a + 8) 58 [some (.ref a)] [.ref (a + 7), .ref a] (ov a [.inl (7, [.ref (a + 1), .ref (a + 2), .ref (a + 3), .int 0, .int 0, .int 0, .int 0, .int 0, .ref (a + 4), .ref (a + 5), .int 0, .ref (a + 6), .int 0, .int 0, .null, .int 0, .int 0, .int 0, .int 0, .null, .int 0, .int 0, .int 0, .int 0, .null, .int 0]), .inr (false, 3293, fun _ => 0), .inr (false, 6586, fun _ => 0), .inr (true, 2, fun _ => 0), .inr (false, 6, fun _ => 0), .inr (false, 24, fun _ => 0), .inr (false, 32, fun _ => 0), .inr (false, 12, fun _ => 0)] G)
  refine c_putF hO hin FX8 14 (by decide) (by decide) rfl w_785 dX8_init_58 rfl rfl (ov_putF (j := 0) rfl (Nat.le_of_ble_eq_true rfl)) ?_
  show Wc Γ 7 (0 + 3293 + 6586 + 2 + 6 + 24 + 32 + 12) (a + 8) 61 [some (.ref a)] [] (ov a [.inl (7, [.ref (a + 1), .ref (a + 2), .ref (a + 3), .int 0, .int 0, .int 0, .int 0, .int 0, .ref (a + 4), .ref (a + 5), .int 0, .ref (a + 6), .int 0, .int 0, .ref (a + 7), .int 0, .int 0, .int 0, .int 0, .null, .int 0, .int 0, .int 0, .int 0, .null, .int 0]), .inr (false, 3293, fun _ => 0), .inr (false, 6586, fun _ => 0), .inr (true, 2, fun _ => 0), .inr (false, 6, fun _ => 0), .inr (false, 24, fun _ => 0), .inr (false, 32, fun _ => 0), .inr (false, 12, fun _ => 0)] G)
  refine c_aloadn hO dX8_init_61 rfl ?_
  refine c_bipush hO dX8_init_62 (v := 48) (by decide) ?_
  refine c_newI hO (hfr.mono (by omega)) dX8_init_64 w_47 (N := 48) (by decide) (by omega) (by rw [hcap]; exact ⟨by omega, by omega⟩) ?_
  rw [ov_new a (sz := 8) rfl]
  show Wc Γ 8 (0 + 3293 + 6586 + 2 + 6 + 24 + 32 + 12 + 48) (a + 9) 66 [some (.ref a)] [.ref (a + 8), .ref a] (ov a [.inl (7, [.ref (a + 1), .ref (a + 2), .ref (a + 3), .int 0, .int 0, .int 0, .int 0, .int 0, .ref (a + 4), .ref (a + 5), .int 0, .ref (a + 6), .int 0, .int 0, .ref (a + 7), .int 0, .int 0, .int 0, .int 0, .null, .int 0, .int 0, .int 0, .int 0, .null, .int 0]), .inr (false, 3293, fun _ => 0), .inr (false, 6586, fun _ => 0), .inr (true, 2, fun _ => 0), .inr (false, 6, fun _ => 0), .inr (false, 24, fun _ => 0), .inr (false, 32, fun _ => 0), .inr (false, 12, fun _ => 0), .inr (false, 48, fun _ => 0)] G)
  refine c_putF hO hin FX8 19 (by decide) (by decide) rfl w_790 dX8_init_66 rfl rfl (ov_putF (j := 0) rfl (Nat.le_of_ble_eq_true rfl)) ?_
  show Wc Γ 8 (0 + 3293 + 6586 + 2 + 6 + 24 + 32 + 12 + 48) (a + 9) 69 [some (.ref a)] [] (ov a [.inl (7, [.ref (a + 1), .ref (a + 2), .ref (a + 3), .int 0, .int 0, .int 0, .int 0, .int 0, .ref (a + 4), .ref (a + 5), .int 0, .ref (a + 6), .int 0, .int 0, .ref (a + 7), .int 0, .int 0, .int 0, .int 0, .ref (a + 8), .int 0, .int 0, .int 0, .int 0, .null, .int 0]), .inr (false, 3293, fun _ => 0), .inr (false, 6586, fun _ => 0), .inr (true, 2, fun _ => 0), .inr (false, 6, fun _ => 0), .inr (false, 24, fun _ => 0), .inr (false, 32, fun _ => 0), .inr (false, 12, fun _ => 0), .inr (false, 48, fun _ => 0)] G)
  refine c_aloadn hO dX8_init_69 rfl ?_
  refine c_bipush hO dX8_init_70 (v := 32) (by decide) ?_
  refine c_newI hO (hfr.mono (by omega)) dX8_init_72 w_47 (N := 32) (by decide) (by omega) (by rw [hcap]; exact ⟨by omega, by omega⟩) ?_
  rw [ov_new a (sz := 9) rfl]
  show Wc Γ 9 (0 + 3293 + 6586 + 2 + 6 + 24 + 32 + 12 + 48 + 32) (a + 10) 74 [some (.ref a)] [.ref (a + 9), .ref a] (ov a [.inl (7, [.ref (a + 1), .ref (a + 2), .ref (a + 3), .int 0, .int 0, .int 0, .int 0, .int 0, .ref (a + 4), .ref (a + 5), .int 0, .ref (a + 6), .int 0, .int 0, .ref (a + 7), .int 0, .int 0, .int 0, .int 0, .ref (a + 8), .int 0, .int 0, .int 0, .int 0, .null, .int 0]), .inr (false, 3293, fun _ => 0), .inr (false, 6586, fun _ => 0), .inr (true, 2, fun _ => 0), .inr (false, 6, fun _ => 0), .inr (false, 24, fun _ => 0), .inr (false, 32, fun _ => 0), .inr (false, 12, fun _ => 0), .inr (false, 48, fun _ => 0), .inr (false, 32, fun _ => 0)] G)
  refine c_putF hO hin FX8 24 (by decide) (by decide) rfl w_795 dX8_init_74 rfl rfl (ov_putF (j := 0) rfl (Nat.le_of_ble_eq_true rfl)) ?_
  show Wc Γ 9 (0 + 3293 + 6586 + 2 + 6 + 24 + 32 + 12 + 48 + 32) (a + 10) 77 [some (.ref a)] [] (ov a [.inl (7, [.ref (a + 1), .ref (a + 2), .ref (a + 3), .int 0, .int 0, .int 0, .int 0, .int 0, .ref (a + 4), .ref (a + 5), .int 0, .ref (a + 6), .int 0, .int 0, .ref (a + 7), .int 0, .int 0, .int 0, .int 0, .ref (a + 8), .int 0, .int 0, .int 0, .int 0, .ref (a + 9), .int 0]), .inr (false, 3293, fun _ => 0), .inr (false, 6586, fun _ => 0), .inr (true, 2, fun _ => 0), .inr (false, 6, fun _ => 0), .inr (false, 24, fun _ => 0), .inr (false, 32, fun _ => 0), .inr (false, 12, fun _ => 0), .inr (false, 48, fun _ => 0), .inr (false, 32, fun _ => 0)] G)
  exact hend _
