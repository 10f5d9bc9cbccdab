/-! THE LAW: its script, its body's telling. -/
def Scr (Γ : Cx) (b Ls : Nat) (xs : Nat → Int32) : Prop := match Γ with
  | (_, _, _, _, s, _, _, _, _, _, _, _, _, A, _, _, _, _) => va_X b Ls xs s s.heap ∧ b < s.heap.size ∧ ¬ A b
def xI (b Ls : Nat) (xs : Nat → Int32) (g : EI) : EI := fun L G => (vA 0 L G).bind fun r => (g L r.2).bind fun q => if r.1 = b ∧ 0 ≤ q.1.toInt ∧ q.1.toInt < Ls then some (xs q.1.toNatClampNeg, q.2) else none
def xN (b Ls : Nat) : EI := fun L G => (vA 0 L G).bind fun r => if r.1 = b then some (Int32.ofNat Ls, r.2) else none
section LRules
variable {Γ : Cx} {cc : ByteArray} {own : String} {nL h d pc p1 p2 : Nat} {sa : Nat → Nat} {b Ls : Nat} {xs : Nat → Int32}
theorem Ex.sld (hO : Ok Γ cc own nL h sa) (hX : Scr Γ b Ls xs) {g : EI} (hf : Ex Γ .ref d pc p1 (vA 0)) (hg : Ex Γ .int (d + 1) p1 p2 g) (hd : decode cc p2 = .ok (.iaload, 1)) : Ex Γ .int d pc (p2 + 1) (xI b Ls xs g) := by
  intro L G x G' e st hw kk
  obtain ⟨r, e1, e2⟩ := Option.bind_eq_some_iff.mp e
  obtain ⟨q, e3, e4⟩ := Option.bind_eq_some_iff.mp e2
  split at e4
  · rename_i hc
    cases e4
    refine hf L G r.1 r.2 e1 st hw (hg L r.2 q.1 q.2 e3 (.ref r.1 :: st) (wdA hw) ?_)
    clear e1 e3 e e2 hf hg
    obtain ⟨p, l, ev, R, s, m, args, below, meth, c, Q, n', D, A, sa', sv, ck, sk⟩ := Γ
    obtain ⟨⟨hx, hb, hml, hown, hts⟩, rfl, hK, hXF, hR, hC, rfl⟩ := hO
    intro H locs ls hP hS hL
    rw [hc.1]
    exact va_sld hx hb hX.1 hX.2.1 hX.2.2 hS (vp_in_iff.mpr hc.2) hd (kk H locs ls hP hS hL)
  · cases e4
theorem Ex.slen (hO : Ok Γ cc own nL h sa) (hX : Scr Γ b Ls xs) (hf : Ex Γ .ref d pc p1 (vA 0)) (hd : decode cc p1 = .ok (.arraylength, 1)) : Ex Γ .int d pc (p1 + 1) (xN b Ls) := by
  intro L G x G' e st hw kk
  obtain ⟨r, e1, e2⟩ := Option.bind_eq_some_iff.mp e
  split at e2
  · rename_i hc
    cases e2
    refine hf L G r.1 r.2 e1 st hw ?_
    clear e1 e hf
    obtain ⟨p, l, ev, R, s, m, args, below, meth, c, Q, n', D, A, sa', sv, ck, sk⟩ := Γ
    obtain ⟨⟨hx, hb, hml, hown, hts⟩, rfl, hK, hXF, hR, hC, rfl⟩ := hO
    intro H locs ls hP hS hL
    rw [hc]
    exact va_slen hx hb hX.1 hX.2.1 hX.2.2 hS hd (kk H locs ls hP hS hL)
  · cases e2
end LRules
theorem w_234 : Cond.methodLink RL 13 yX7_say ∈ lw_g := mem_t 234 (by decide +kernel) rfl
theorem w_249 : Cond.methodLink RL 18 yX7_wipe ∈ lw_g := mem_t 249 (by decide +kernel) rfl
theorem w_257 : Cond.methodLink RL 23 yX7_item ∈ lw_g := mem_t 257 (by decide +kernel) rfl
theorem w_261 : Cond.methodLink RL 28 yX7_read ∈ lw_g := mem_t 261 (by decide +kernel) rfl
theorem w_472 : Cond.methodLink RL 32 yX7_fault ∈ lw_g := mem_t 472 (by decide +kernel) rfl
theorem w_482 : Cond.methodLink RL 36 yX7_written ∈ lw_g := mem_t 482 (by decide +kernel) rfl
theorem w_592 : Cond.methodLink RL 41 yX7_field ∈ lw_g := mem_t 592 (by decide +kernel) rfl
theorem w_601 : Cond.methodLink RL 45 yX7_group ∈ lw_g := mem_t 601 (by decide +kernel) rfl
theorem w_613 : Cond.methodLink RL 49 yX7_length ∈ lw_g := mem_t 613 (by decide +kernel) rfl
theorem w_618 : Cond.methodLink RL 53 yX7_put ∈ lw_g := mem_t 618 (by decide +kernel) rfl
theorem w_622 : Cond.methodLink RL 57 yX7_come ∈ lw_g := mem_t 622 (by decide +kernel) rfl
theorem w_700 : Cond.methodLink RL 61 yX7_event ∈ lw_g := mem_t 700 (by decide +kernel) rfl
theorem w_704 : Cond.methodLink RL 65 yX7_next ∈ lw_g := mem_t 704 (by decide +kernel) rfl
theorem w_712 : Cond.methodLink RL 69 yX7_last ∈ lw_g := mem_t 712 (by decide +kernel) rfl
theorem w_722 : Cond.methodLink RL 73 yX7_want ∈ lw_g := mem_t 722 (by decide +kernel) rfl
theorem w_728 : Cond.methodLink RL 77 yX7_made ∈ lw_g := mem_t 728 (by decide +kernel) rfl
theorem w_743 : Cond.methodLink RL 81 yX7_count ∈ lw_g := mem_t 743 (by decide +kernel) rfl
theorem w_747 : Cond.methodLink RL 85 yX7_image ∈ lw_g := mem_t 747 (by decide +kernel) rfl
theorem w_761 : Cond.methodLink RL 89 yX7_restore ∈ lw_g := mem_t 761 (by decide +kernel) rfl
theorem w_851 : Cond.methodLink RL 17 yX8_say ∈ lw_g := mem_t 851 (by decide +kernel) rfl
theorem w_858 : Cond.methodLink RL 22 yX8_wipe ∈ lw_g := mem_t 858 (by decide +kernel) rfl
theorem w_862 : Cond.methodLink RL 27 yX8_item ∈ lw_g := mem_t 862 (by decide +kernel) rfl
theorem w_867 : Cond.methodLink RL 31 yX8_read ∈ lw_g := mem_t 867 (by decide +kernel) rfl
theorem w_924 : Cond.methodLink RL 35 yX8_fault ∈ lw_g := mem_t 924 (by decide +kernel) rfl
theorem w_932 : Cond.methodLink RL 40 yX8_written ∈ lw_g := mem_t 932 (by decide +kernel) rfl
theorem w_963 : Cond.methodLink RL 44 yX8_field ∈ lw_g := mem_t 963 (by decide +kernel) rfl
theorem w_975 : Cond.methodLink RL 48 yX8_group ∈ lw_g := mem_t 975 (by decide +kernel) rfl
theorem w_983 : Cond.methodLink RL 52 yX8_length ∈ lw_g := mem_t 983 (by decide +kernel) rfl
theorem w_987 : Cond.methodLink RL 56 yX8_put ∈ lw_g := mem_t 987 (by decide +kernel) rfl
theorem w_991 : Cond.methodLink RL 60 yX8_come ∈ lw_g := mem_t 991 (by decide +kernel) rfl
theorem w_1038 : Cond.methodLink RL 64 yX8_event ∈ lw_g := mem_t 1038 (by decide +kernel) rfl
theorem w_1042 : Cond.methodLink RL 68 yX8_next ∈ lw_g := mem_t 1042 (by decide +kernel) rfl
theorem w_1046 : Cond.methodLink RL 72 yX8_last ∈ lw_g := mem_t 1046 (by decide +kernel) rfl
theorem w_1050 : Cond.methodLink RL 76 yX8_want ∈ lw_g := mem_t 1050 (by decide +kernel) rfl
theorem w_1054 : Cond.methodLink RL 80 yX8_made ∈ lw_g := mem_t 1054 (by decide +kernel) rfl
theorem w_1062 : Cond.methodLink RL 84 yX8_count ∈ lw_g := mem_t 1062 (by decide +kernel) rfl
theorem w_1066 : Cond.methodLink RL 88 yX8_image ∈ lw_g := mem_t 1066 (by decide +kernel) rfl
theorem w_1070 : Cond.methodLink RL 92 yX8_restore ∈ lw_g := mem_t 1070 (by decide +kernel) rfl
theorem w_17 : Cond.classLink RL 7 RX7 ∈ lw_g := mem_t 17 (by decide +kernel) rfl
theorem w_765 : Cond.classLink RL 10 RX8 ∈ lw_g := mem_t 765 (by decide +kernel) rfl
theorem w_18 : Cond.instantiable RX7 6 ∈ lw_g := mem_t 18 (by decide +kernel) rfl
theorem w_766 : Cond.instantiable RX8 26 ∈ lw_g := mem_t 766 (by decide +kernel) rfl
theorem w_19 : Cond.methodLink RL 9 yX7_init ∈ lw_g := mem_t 19 (by decide +kernel) rfl
theorem w_767 : Cond.methodLink RL 12 yX8_init ∈ lw_g := mem_t 767 (by decide +kernel) rfl
theorem w_20 : Cond.instanceMethod yX7_init ∈ lw_g := mem_t 20 (by decide +kernel) rfl
theorem w_768 : Cond.instanceMethod yX8_init ∈ lw_g := mem_t 768 (by decide +kernel) rfl
theorem w_21 : Cond.code yX7_init cX7_init 1 none ∈ lw_g := mem_t 21 (by decide +kernel) rfl
theorem w_769 : Cond.code yX8_init cX8_init 1 none ∈ lw_g := mem_t 769 (by decide +kernel) rfl
theorem dL_law_0 : decode cL_law 0 = .ok (.new 7, 3) := by decide +kernel
theorem dL_law_3 : decode cL_law 3 = .ok (.dup, 1) := by decide +kernel
theorem dL_law_4 : decode cL_law 4 = .ok (.invokespecial 9, 3) := by decide +kernel
theorem dL_law_7 : decode cL_law 7 = .ok (.astore_n 1, 1) := by decide +kernel
theorem dL_law_8 : decode cL_law 8 = .ok (.new 10, 3) := by decide +kernel
theorem dL_law_11 : decode cL_law 11 = .ok (.dup, 1) := by decide +kernel
theorem dL_law_12 : decode cL_law 12 = .ok (.invokespecial 12, 3) := by decide +kernel
theorem dL_law_15 : decode cL_law 15 = .ok (.astore_n 2, 1) := by decide +kernel
theorem dL_law_16 : decode cL_law 16 = .ok (.iconst 0, 1) := by decide +kernel
theorem dL_law_17 : decode cL_law 17 = .ok (.istore_n 3, 1) := by decide +kernel
theorem dL_law_18 : decode cL_law 18 = .ok (.iload_n 3, 1) := by decide +kernel
theorem dL_law_19 : decode cL_law 19 = .ok (.aload_n 0, 1) := by decide +kernel
theorem dL_law_20 : decode cL_law 20 = .ok (.arraylength, 1) := by decide +kernel
theorem dL_law_21 : decode cL_law 21 = .ok (.iconst 4, 1) := by decide +kernel
theorem dL_law_22 : decode cL_law 22 = .ok (.isub, 1) := by decide +kernel
theorem dL_law_23 : decode cL_law 23 = .ok (.if_icmp .gt 594, 3) := by decide +kernel
theorem dL_law_26 : decode cL_law 26 = .ok (.aload_n 0, 1) := by decide +kernel
theorem dL_law_27 : decode cL_law 27 = .ok (.iload_n 3, 1) := by decide +kernel
theorem dL_law_28 : decode cL_law 28 = .ok (.iaload, 1) := by decide +kernel
theorem dL_law_29 : decode cL_law 29 = .ok (.bipush 31, 2) := by decide +kernel
theorem dL_law_31 : decode cL_law 31 = .ok (.iand, 1) := by decide +kernel
theorem dL_law_32 : decode cL_law 32 = .ok (.tableswitch 579 0 18 #[92, 115, 128, 171, 184, 207, 240, 273, 306, 339, 362, 375, 398, 411, 434, 467, 510, 533, 556], 92) := by decide +kernel
theorem dL_law_124 : decode cL_law 124 = .ok (.aload_n 1, 1) := by decide +kernel
theorem dL_law_125 : decode cL_law 125 = .ok (.aload_n 0, 1) := by decide +kernel
theorem dL_law_126 : decode cL_law 126 = .ok (.iload_n 3, 1) := by decide +kernel
theorem dL_law_127 : decode cL_law 127 = .ok (.iconst 1, 1) := by decide +kernel
theorem dL_law_128 : decode cL_law 128 = .ok (.iadd, 1) := by decide +kernel
theorem dL_law_129 : decode cL_law 129 = .ok (.iaload, 1) := by decide +kernel
theorem dL_law_130 : decode cL_law 130 = .ok (.invokevirtual 13, 3) := by decide +kernel
theorem dL_law_133 : decode cL_law 133 = .ok (.aload_n 2, 1) := by decide +kernel
theorem dL_law_134 : decode cL_law 134 = .ok (.aload_n 0, 1) := by decide +kernel
theorem dL_law_135 : decode cL_law 135 = .ok (.iload_n 3, 1) := by decide +kernel
theorem dL_law_136 : decode cL_law 136 = .ok (.iconst 1, 1) := by decide +kernel
theorem dL_law_137 : decode cL_law 137 = .ok (.iadd, 1) := by decide +kernel
theorem dL_law_138 : decode cL_law 138 = .ok (.iaload, 1) := by decide +kernel
theorem dL_law_139 : decode cL_law 139 = .ok (.invokevirtual 17, 3) := by decide +kernel
theorem dL_law_142 : decode cL_law 142 = .ok (.if_icmp .eq 469, 3) := by decide +kernel
theorem dL_law_145 : decode cL_law 145 = .ok (.iconst 0, 1) := by decide +kernel
theorem dL_law_146 : decode cL_law 146 = .ok (.ireturn, 1) := by decide +kernel
theorem dL_law_147 : decode cL_law 147 = .ok (.aload_n 1, 1) := by decide +kernel
theorem dL_law_148 : decode cL_law 148 = .ok (.invokevirtual 18, 3) := by decide +kernel
theorem dL_law_151 : decode cL_law 151 = .ok (.aload_n 2, 1) := by decide +kernel
theorem dL_law_152 : decode cL_law 152 = .ok (.invokevirtual 22, 3) := by decide +kernel
theorem dL_law_155 : decode cL_law 155 = .ok (.if_icmp .eq 456, 3) := by decide +kernel
theorem dL_law_158 : decode cL_law 158 = .ok (.iconst 0, 1) := by decide +kernel
theorem dL_law_159 : decode cL_law 159 = .ok (.ireturn, 1) := by decide +kernel
theorem dL_law_160 : decode cL_law 160 = .ok (.aload_n 1, 1) := by decide +kernel
theorem dL_law_161 : decode cL_law 161 = .ok (.aload_n 0, 1) := by decide +kernel
theorem dL_law_162 : decode cL_law 162 = .ok (.iload_n 3, 1) := by decide +kernel
theorem dL_law_163 : decode cL_law 163 = .ok (.iconst 1, 1) := by decide +kernel
theorem dL_law_164 : decode cL_law 164 = .ok (.iadd, 1) := by decide +kernel
theorem dL_law_165 : decode cL_law 165 = .ok (.iaload, 1) := by decide +kernel
theorem dL_law_166 : decode cL_law 166 = .ok (.aload_n 0, 1) := by decide +kernel
theorem dL_law_167 : decode cL_law 167 = .ok (.iload_n 3, 1) := by decide +kernel
theorem dL_law_168 : decode cL_law 168 = .ok (.iconst 2, 1) := by decide +kernel
theorem dL_law_169 : decode cL_law 169 = .ok (.iadd, 1) := by decide +kernel
theorem dL_law_170 : decode cL_law 170 = .ok (.iaload, 1) := by decide +kernel
theorem dL_law_171 : decode cL_law 171 = .ok (.aload_n 0, 1) := by decide +kernel
theorem dL_law_172 : decode cL_law 172 = .ok (.iload_n 3, 1) := by decide +kernel
theorem dL_law_173 : decode cL_law 173 = .ok (.iconst 3, 1) := by decide +kernel
theorem dL_law_174 : decode cL_law 174 = .ok (.iadd, 1) := by decide +kernel
theorem dL_law_175 : decode cL_law 175 = .ok (.iaload, 1) := by decide +kernel
theorem dL_law_176 : decode cL_law 176 = .ok (.invokevirtual 23, 3) := by decide +kernel
theorem dL_law_179 : decode cL_law 179 = .ok (.aload_n 2, 1) := by decide +kernel
theorem dL_law_180 : decode cL_law 180 = .ok (.aload_n 0, 1) := by decide +kernel
theorem dL_law_181 : decode cL_law 181 = .ok (.iload_n 3, 1) := by decide +kernel
theorem dL_law_182 : decode cL_law 182 = .ok (.iconst 1, 1) := by decide +kernel
theorem dL_law_183 : decode cL_law 183 = .ok (.iadd, 1) := by decide +kernel
theorem dL_law_184 : decode cL_law 184 = .ok (.iaload, 1) := by decide +kernel
theorem dL_law_185 : decode cL_law 185 = .ok (.aload_n 0, 1) := by decide +kernel
theorem dL_law_186 : decode cL_law 186 = .ok (.iload_n 3, 1) := by decide +kernel
theorem dL_law_187 : decode cL_law 187 = .ok (.iconst 2, 1) := by decide +kernel
theorem dL_law_188 : decode cL_law 188 = .ok (.iadd, 1) := by decide +kernel
theorem dL_law_189 : decode cL_law 189 = .ok (.iaload, 1) := by decide +kernel
theorem dL_law_190 : decode cL_law 190 = .ok (.aload_n 0, 1) := by decide +kernel
theorem dL_law_191 : decode cL_law 191 = .ok (.iload_n 3, 1) := by decide +kernel
theorem dL_law_192 : decode cL_law 192 = .ok (.iconst 3, 1) := by decide +kernel
theorem dL_law_193 : decode cL_law 193 = .ok (.iadd, 1) := by decide +kernel
theorem dL_law_194 : decode cL_law 194 = .ok (.iaload, 1) := by decide +kernel
theorem dL_law_195 : decode cL_law 195 = .ok (.invokevirtual 27, 3) := by decide +kernel
theorem dL_law_198 : decode cL_law 198 = .ok (.if_icmp .eq 413, 3) := by decide +kernel
theorem dL_law_201 : decode cL_law 201 = .ok (.iconst 0, 1) := by decide +kernel
theorem dL_law_202 : decode cL_law 202 = .ok (.ireturn, 1) := by decide +kernel
theorem dL_law_203 : decode cL_law 203 = .ok (.aload_n 1, 1) := by decide +kernel
theorem dL_law_204 : decode cL_law 204 = .ok (.invokevirtual 28, 3) := by decide +kernel
theorem dL_law_207 : decode cL_law 207 = .ok (.aload_n 2, 1) := by decide +kernel
theorem dL_law_208 : decode cL_law 208 = .ok (.invokevirtual 31, 3) := by decide +kernel
theorem dL_law_211 : decode cL_law 211 = .ok (.if_icmp .eq 400, 3) := by decide +kernel
theorem dL_law_214 : decode cL_law 214 = .ok (.iconst 0, 1) := by decide +kernel
theorem dL_law_215 : decode cL_law 215 = .ok (.ireturn, 1) := by decide +kernel
theorem dL_law_216 : decode cL_law 216 = .ok (.aload_n 1, 1) := by decide +kernel
theorem dL_law_217 : decode cL_law 217 = .ok (.aload_n 0, 1) := by decide +kernel
theorem dL_law_218 : decode cL_law 218 = .ok (.iload_n 3, 1) := by decide +kernel
theorem dL_law_219 : decode cL_law 219 = .ok (.iconst 1, 1) := by decide +kernel
theorem dL_law_220 : decode cL_law 220 = .ok (.iadd, 1) := by decide +kernel
theorem dL_law_221 : decode cL_law 221 = .ok (.iaload, 1) := by decide +kernel
theorem dL_law_222 : decode cL_law 222 = .ok (.invokevirtual 32, 3) := by decide +kernel
theorem dL_law_225 : decode cL_law 225 = .ok (.aload_n 2, 1) := by decide +kernel
theorem dL_law_226 : decode cL_law 226 = .ok (.aload_n 0, 1) := by decide +kernel
theorem dL_law_227 : decode cL_law 227 = .ok (.iload_n 3, 1) := by decide +kernel
theorem dL_law_228 : decode cL_law 228 = .ok (.iconst 1, 1) := by decide +kernel
theorem dL_law_229 : decode cL_law 229 = .ok (.iadd, 1) := by decide +kernel
theorem dL_law_230 : decode cL_law 230 = .ok (.iaload, 1) := by decide +kernel
theorem dL_law_231 : decode cL_law 231 = .ok (.invokevirtual 35, 3) := by decide +kernel
theorem dL_law_234 : decode cL_law 234 = .ok (.if_icmp .eq 377, 3) := by decide +kernel
theorem dL_law_237 : decode cL_law 237 = .ok (.iconst 0, 1) := by decide +kernel
theorem dL_law_238 : decode cL_law 238 = .ok (.ireturn, 1) := by decide +kernel
theorem dL_law_239 : decode cL_law 239 = .ok (.aload_n 1, 1) := by decide +kernel
theorem dL_law_240 : decode cL_law 240 = .ok (.aload_n 0, 1) := by decide +kernel
theorem dL_law_241 : decode cL_law 241 = .ok (.iload_n 3, 1) := by decide +kernel
theorem dL_law_242 : decode cL_law 242 = .ok (.iconst 1, 1) := by decide +kernel
theorem dL_law_243 : decode cL_law 243 = .ok (.iadd, 1) := by decide +kernel
theorem dL_law_244 : decode cL_law 244 = .ok (.iaload, 1) := by decide +kernel
theorem dL_law_245 : decode cL_law 245 = .ok (.aload_n 0, 1) := by decide +kernel
theorem dL_law_246 : decode cL_law 246 = .ok (.iload_n 3, 1) := by decide +kernel
theorem dL_law_247 : decode cL_law 247 = .ok (.iconst 2, 1) := by decide +kernel
theorem dL_law_248 : decode cL_law 248 = .ok (.iadd, 1) := by decide +kernel
theorem dL_law_249 : decode cL_law 249 = .ok (.iaload, 1) := by decide +kernel
theorem dL_law_250 : decode cL_law 250 = .ok (.invokevirtual 36, 3) := by decide +kernel
theorem dL_law_253 : decode cL_law 253 = .ok (.aload_n 2, 1) := by decide +kernel
theorem dL_law_254 : decode cL_law 254 = .ok (.aload_n 0, 1) := by decide +kernel
theorem dL_law_255 : decode cL_law 255 = .ok (.iload_n 3, 1) := by decide +kernel
theorem dL_law_256 : decode cL_law 256 = .ok (.iconst 1, 1) := by decide +kernel
theorem dL_law_257 : decode cL_law 257 = .ok (.iadd, 1) := by decide +kernel
theorem dL_law_258 : decode cL_law 258 = .ok (.iaload, 1) := by decide +kernel
theorem dL_law_259 : decode cL_law 259 = .ok (.aload_n 0, 1) := by decide +kernel
theorem dL_law_260 : decode cL_law 260 = .ok (.iload_n 3, 1) := by decide +kernel
theorem dL_law_261 : decode cL_law 261 = .ok (.iconst 2, 1) := by decide +kernel
theorem dL_law_262 : decode cL_law 262 = .ok (.iadd, 1) := by decide +kernel
theorem dL_law_263 : decode cL_law 263 = .ok (.iaload, 1) := by decide +kernel
theorem dL_law_264 : decode cL_law 264 = .ok (.invokevirtual 40, 3) := by decide +kernel
theorem dL_law_267 : decode cL_law 267 = .ok (.if_icmp .eq 344, 3) := by decide +kernel
theorem dL_law_270 : decode cL_law 270 = .ok (.iconst 0, 1) := by decide +kernel
theorem dL_law_271 : decode cL_law 271 = .ok (.ireturn, 1) := by decide +kernel
theorem dL_law_272 : decode cL_law 272 = .ok (.aload_n 1, 1) := by decide +kernel
theorem dL_law_273 : decode cL_law 273 = .ok (.aload_n 0, 1) := by decide +kernel
theorem dL_law_274 : decode cL_law 274 = .ok (.iload_n 3, 1) := by decide +kernel
theorem dL_law_275 : decode cL_law 275 = .ok (.iconst 1, 1) := by decide +kernel
theorem dL_law_276 : decode cL_law 276 = .ok (.iadd, 1) := by decide +kernel
theorem dL_law_277 : decode cL_law 277 = .ok (.iaload, 1) := by decide +kernel
theorem dL_law_278 : decode cL_law 278 = .ok (.aload_n 0, 1) := by decide +kernel
theorem dL_law_279 : decode cL_law 279 = .ok (.iload_n 3, 1) := by decide +kernel
theorem dL_law_280 : decode cL_law 280 = .ok (.iconst 2, 1) := by decide +kernel
theorem dL_law_281 : decode cL_law 281 = .ok (.iadd, 1) := by decide +kernel
theorem dL_law_282 : decode cL_law 282 = .ok (.iaload, 1) := by decide +kernel
theorem dL_law_283 : decode cL_law 283 = .ok (.invokevirtual 41, 3) := by decide +kernel
theorem dL_law_286 : decode cL_law 286 = .ok (.aload_n 2, 1) := by decide +kernel
theorem dL_law_287 : decode cL_law 287 = .ok (.aload_n 0, 1) := by decide +kernel
theorem dL_law_288 : decode cL_law 288 = .ok (.iload_n 3, 1) := by decide +kernel
theorem dL_law_289 : decode cL_law 289 = .ok (.iconst 1, 1) := by decide +kernel
theorem dL_law_290 : decode cL_law 290 = .ok (.iadd, 1) := by decide +kernel
theorem dL_law_291 : decode cL_law 291 = .ok (.iaload, 1) := by decide +kernel
theorem dL_law_292 : decode cL_law 292 = .ok (.aload_n 0, 1) := by decide +kernel
theorem dL_law_293 : decode cL_law 293 = .ok (.iload_n 3, 1) := by decide +kernel
theorem dL_law_294 : decode cL_law 294 = .ok (.iconst 2, 1) := by decide +kernel
theorem dL_law_295 : decode cL_law 295 = .ok (.iadd, 1) := by decide +kernel
theorem dL_law_296 : decode cL_law 296 = .ok (.iaload, 1) := by decide +kernel
theorem dL_law_297 : decode cL_law 297 = .ok (.invokevirtual 44, 3) := by decide +kernel
theorem dL_law_300 : decode cL_law 300 = .ok (.if_icmp .eq 311, 3) := by decide +kernel
theorem dL_law_303 : decode cL_law 303 = .ok (.iconst 0, 1) := by decide +kernel
theorem dL_law_304 : decode cL_law 304 = .ok (.ireturn, 1) := by decide +kernel
theorem dL_law_305 : decode cL_law 305 = .ok (.aload_n 1, 1) := by decide +kernel
theorem dL_law_306 : decode cL_law 306 = .ok (.aload_n 0, 1) := by decide +kernel
theorem dL_law_307 : decode cL_law 307 = .ok (.iload_n 3, 1) := by decide +kernel
theorem dL_law_308 : decode cL_law 308 = .ok (.iconst 1, 1) := by decide +kernel
theorem dL_law_309 : decode cL_law 309 = .ok (.iadd, 1) := by decide +kernel
theorem dL_law_310 : decode cL_law 310 = .ok (.iaload, 1) := by decide +kernel
theorem dL_law_311 : decode cL_law 311 = .ok (.aload_n 0, 1) := by decide +kernel
theorem dL_law_312 : decode cL_law 312 = .ok (.iload_n 3, 1) := by decide +kernel
theorem dL_law_313 : decode cL_law 313 = .ok (.iconst 2, 1) := by decide +kernel
theorem dL_law_314 : decode cL_law 314 = .ok (.iadd, 1) := by decide +kernel
theorem dL_law_315 : decode cL_law 315 = .ok (.iaload, 1) := by decide +kernel
theorem dL_law_316 : decode cL_law 316 = .ok (.invokevirtual 45, 3) := by decide +kernel
theorem dL_law_319 : decode cL_law 319 = .ok (.aload_n 2, 1) := by decide +kernel
theorem dL_law_320 : decode cL_law 320 = .ok (.aload_n 0, 1) := by decide +kernel
theorem dL_law_321 : decode cL_law 321 = .ok (.iload_n 3, 1) := by decide +kernel
theorem dL_law_322 : decode cL_law 322 = .ok (.iconst 1, 1) := by decide +kernel
theorem dL_law_323 : decode cL_law 323 = .ok (.iadd, 1) := by decide +kernel
theorem dL_law_324 : decode cL_law 324 = .ok (.iaload, 1) := by decide +kernel
theorem dL_law_325 : decode cL_law 325 = .ok (.aload_n 0, 1) := by decide +kernel
theorem dL_law_326 : decode cL_law 326 = .ok (.iload_n 3, 1) := by decide +kernel
theorem dL_law_327 : decode cL_law 327 = .ok (.iconst 2, 1) := by decide +kernel
theorem dL_law_328 : decode cL_law 328 = .ok (.iadd, 1) := by decide +kernel
theorem dL_law_329 : decode cL_law 329 = .ok (.iaload, 1) := by decide +kernel
theorem dL_law_330 : decode cL_law 330 = .ok (.invokevirtual 48, 3) := by decide +kernel
theorem dL_law_333 : decode cL_law 333 = .ok (.if_icmp .eq 278, 3) := by decide +kernel
theorem dL_law_336 : decode cL_law 336 = .ok (.iconst 0, 1) := by decide +kernel
theorem dL_law_337 : decode cL_law 337 = .ok (.ireturn, 1) := by decide +kernel
theorem dL_law_338 : decode cL_law 338 = .ok (.aload_n 1, 1) := by decide +kernel
theorem dL_law_339 : decode cL_law 339 = .ok (.aload_n 0, 1) := by decide +kernel
theorem dL_law_340 : decode cL_law 340 = .ok (.iload_n 3, 1) := by decide +kernel
theorem dL_law_341 : decode cL_law 341 = .ok (.iconst 1, 1) := by decide +kernel
theorem dL_law_342 : decode cL_law 342 = .ok (.iadd, 1) := by decide +kernel
theorem dL_law_343 : decode cL_law 343 = .ok (.iaload, 1) := by decide +kernel
theorem dL_law_344 : decode cL_law 344 = .ok (.aload_n 0, 1) := by decide +kernel
theorem dL_law_345 : decode cL_law 345 = .ok (.iload_n 3, 1) := by decide +kernel
theorem dL_law_346 : decode cL_law 346 = .ok (.iconst 2, 1) := by decide +kernel
theorem dL_law_347 : decode cL_law 347 = .ok (.iadd, 1) := by decide +kernel
theorem dL_law_348 : decode cL_law 348 = .ok (.iaload, 1) := by decide +kernel
theorem dL_law_349 : decode cL_law 349 = .ok (.invokevirtual 49, 3) := by decide +kernel
theorem dL_law_352 : decode cL_law 352 = .ok (.aload_n 2, 1) := by decide +kernel
theorem dL_law_353 : decode cL_law 353 = .ok (.aload_n 0, 1) := by decide +kernel
theorem dL_law_354 : decode cL_law 354 = .ok (.iload_n 3, 1) := by decide +kernel
theorem dL_law_355 : decode cL_law 355 = .ok (.iconst 1, 1) := by decide +kernel
theorem dL_law_356 : decode cL_law 356 = .ok (.iadd, 1) := by decide +kernel
theorem dL_law_357 : decode cL_law 357 = .ok (.iaload, 1) := by decide +kernel
theorem dL_law_358 : decode cL_law 358 = .ok (.aload_n 0, 1) := by decide +kernel
theorem dL_law_359 : decode cL_law 359 = .ok (.iload_n 3, 1) := by decide +kernel
theorem dL_law_360 : decode cL_law 360 = .ok (.iconst 2, 1) := by decide +kernel
theorem dL_law_361 : decode cL_law 361 = .ok (.iadd, 1) := by decide +kernel
theorem dL_law_362 : decode cL_law 362 = .ok (.iaload, 1) := by decide +kernel
theorem dL_law_363 : decode cL_law 363 = .ok (.invokevirtual 52, 3) := by decide +kernel
theorem dL_law_366 : decode cL_law 366 = .ok (.if_icmp .eq 245, 3) := by decide +kernel
theorem dL_law_369 : decode cL_law 369 = .ok (.iconst 0, 1) := by decide +kernel
theorem dL_law_370 : decode cL_law 370 = .ok (.ireturn, 1) := by decide +kernel
theorem dL_law_371 : decode cL_law 371 = .ok (.aload_n 1, 1) := by decide +kernel
theorem dL_law_372 : decode cL_law 372 = .ok (.aload_n 0, 1) := by decide +kernel
theorem dL_law_373 : decode cL_law 373 = .ok (.iload_n 3, 1) := by decide +kernel
theorem dL_law_374 : decode cL_law 374 = .ok (.iconst 1, 1) := by decide +kernel
theorem dL_law_375 : decode cL_law 375 = .ok (.iadd, 1) := by decide +kernel
theorem dL_law_376 : decode cL_law 376 = .ok (.iaload, 1) := by decide +kernel
theorem dL_law_377 : decode cL_law 377 = .ok (.invokevirtual 53, 3) := by decide +kernel
theorem dL_law_380 : decode cL_law 380 = .ok (.aload_n 2, 1) := by decide +kernel
theorem dL_law_381 : decode cL_law 381 = .ok (.aload_n 0, 1) := by decide +kernel
theorem dL_law_382 : decode cL_law 382 = .ok (.iload_n 3, 1) := by decide +kernel
theorem dL_law_383 : decode cL_law 383 = .ok (.iconst 1, 1) := by decide +kernel
theorem dL_law_384 : decode cL_law 384 = .ok (.iadd, 1) := by decide +kernel
theorem dL_law_385 : decode cL_law 385 = .ok (.iaload, 1) := by decide +kernel
theorem dL_law_386 : decode cL_law 386 = .ok (.invokevirtual 56, 3) := by decide +kernel
theorem dL_law_389 : decode cL_law 389 = .ok (.if_icmp .eq 222, 3) := by decide +kernel
theorem dL_law_392 : decode cL_law 392 = .ok (.iconst 0, 1) := by decide +kernel
theorem dL_law_393 : decode cL_law 393 = .ok (.ireturn, 1) := by decide +kernel
theorem dL_law_394 : decode cL_law 394 = .ok (.aload_n 1, 1) := by decide +kernel
theorem dL_law_395 : decode cL_law 395 = .ok (.invokevirtual 57, 3) := by decide +kernel
theorem dL_law_398 : decode cL_law 398 = .ok (.aload_n 2, 1) := by decide +kernel
theorem dL_law_399 : decode cL_law 399 = .ok (.invokevirtual 60, 3) := by decide +kernel
theorem dL_law_402 : decode cL_law 402 = .ok (.if_icmp .eq 209, 3) := by decide +kernel
theorem dL_law_405 : decode cL_law 405 = .ok (.iconst 0, 1) := by decide +kernel
theorem dL_law_406 : decode cL_law 406 = .ok (.ireturn, 1) := by decide +kernel
theorem dL_law_407 : decode cL_law 407 = .ok (.aload_n 1, 1) := by decide +kernel
theorem dL_law_408 : decode cL_law 408 = .ok (.aload_n 0, 1) := by decide +kernel
theorem dL_law_409 : decode cL_law 409 = .ok (.iload_n 3, 1) := by decide +kernel
theorem dL_law_410 : decode cL_law 410 = .ok (.iconst 1, 1) := by decide +kernel
theorem dL_law_411 : decode cL_law 411 = .ok (.iadd, 1) := by decide +kernel
theorem dL_law_412 : decode cL_law 412 = .ok (.iaload, 1) := by decide +kernel
theorem dL_law_413 : decode cL_law 413 = .ok (.invokevirtual 61, 3) := by decide +kernel
theorem dL_law_416 : decode cL_law 416 = .ok (.aload_n 2, 1) := by decide +kernel
theorem dL_law_417 : decode cL_law 417 = .ok (.aload_n 0, 1) := by decide +kernel
theorem dL_law_418 : decode cL_law 418 = .ok (.iload_n 3, 1) := by decide +kernel
theorem dL_law_419 : decode cL_law 419 = .ok (.iconst 1, 1) := by decide +kernel
theorem dL_law_420 : decode cL_law 420 = .ok (.iadd, 1) := by decide +kernel
theorem dL_law_421 : decode cL_law 421 = .ok (.iaload, 1) := by decide +kernel
theorem dL_law_422 : decode cL_law 422 = .ok (.invokevirtual 64, 3) := by decide +kernel
theorem dL_law_425 : decode cL_law 425 = .ok (.if_icmp .eq 186, 3) := by decide +kernel
theorem dL_law_428 : decode cL_law 428 = .ok (.iconst 0, 1) := by decide +kernel
theorem dL_law_429 : decode cL_law 429 = .ok (.ireturn, 1) := by decide +kernel
theorem dL_law_430 : decode cL_law 430 = .ok (.aload_n 1, 1) := by decide +kernel
theorem dL_law_431 : decode cL_law 431 = .ok (.invokevirtual 65, 3) := by decide +kernel
theorem dL_law_434 : decode cL_law 434 = .ok (.aload_n 2, 1) := by decide +kernel
theorem dL_law_435 : decode cL_law 435 = .ok (.invokevirtual 68, 3) := by decide +kernel
theorem dL_law_438 : decode cL_law 438 = .ok (.if_icmp .eq 173, 3) := by decide +kernel
theorem dL_law_441 : decode cL_law 441 = .ok (.iconst 0, 1) := by decide +kernel
theorem dL_law_442 : decode cL_law 442 = .ok (.ireturn, 1) := by decide +kernel
theorem dL_law_443 : decode cL_law 443 = .ok (.aload_n 1, 1) := by decide +kernel
theorem dL_law_444 : decode cL_law 444 = .ok (.aload_n 0, 1) := by decide +kernel
theorem dL_law_445 : decode cL_law 445 = .ok (.iload_n 3, 1) := by decide +kernel
theorem dL_law_446 : decode cL_law 446 = .ok (.iconst 1, 1) := by decide +kernel
theorem dL_law_447 : decode cL_law 447 = .ok (.iadd, 1) := by decide +kernel
theorem dL_law_448 : decode cL_law 448 = .ok (.iaload, 1) := by decide +kernel
theorem dL_law_449 : decode cL_law 449 = .ok (.invokevirtual 69, 3) := by decide +kernel
theorem dL_law_452 : decode cL_law 452 = .ok (.aload_n 2, 1) := by decide +kernel
theorem dL_law_453 : decode cL_law 453 = .ok (.aload_n 0, 1) := by decide +kernel
theorem dL_law_454 : decode cL_law 454 = .ok (.iload_n 3, 1) := by decide +kernel
theorem dL_law_455 : decode cL_law 455 = .ok (.iconst 1, 1) := by decide +kernel
theorem dL_law_456 : decode cL_law 456 = .ok (.iadd, 1) := by decide +kernel
theorem dL_law_457 : decode cL_law 457 = .ok (.iaload, 1) := by decide +kernel
theorem dL_law_458 : decode cL_law 458 = .ok (.invokevirtual 72, 3) := by decide +kernel
theorem dL_law_461 : decode cL_law 461 = .ok (.if_icmp .eq 150, 3) := by decide +kernel
theorem dL_law_464 : decode cL_law 464 = .ok (.iconst 0, 1) := by decide +kernel
theorem dL_law_465 : decode cL_law 465 = .ok (.ireturn, 1) := by decide +kernel
theorem dL_law_466 : decode cL_law 466 = .ok (.aload_n 1, 1) := by decide +kernel
theorem dL_law_467 : decode cL_law 467 = .ok (.aload_n 0, 1) := by decide +kernel
theorem dL_law_468 : decode cL_law 468 = .ok (.iload_n 3, 1) := by decide +kernel
theorem dL_law_469 : decode cL_law 469 = .ok (.iconst 1, 1) := by decide +kernel
theorem dL_law_470 : decode cL_law 470 = .ok (.iadd, 1) := by decide +kernel
theorem dL_law_471 : decode cL_law 471 = .ok (.iaload, 1) := by decide +kernel
theorem dL_law_472 : decode cL_law 472 = .ok (.aload_n 0, 1) := by decide +kernel
theorem dL_law_473 : decode cL_law 473 = .ok (.iload_n 3, 1) := by decide +kernel
theorem dL_law_474 : decode cL_law 474 = .ok (.iconst 2, 1) := by decide +kernel
theorem dL_law_475 : decode cL_law 475 = .ok (.iadd, 1) := by decide +kernel
theorem dL_law_476 : decode cL_law 476 = .ok (.iaload, 1) := by decide +kernel
theorem dL_law_477 : decode cL_law 477 = .ok (.invokevirtual 73, 3) := by decide +kernel
theorem dL_law_480 : decode cL_law 480 = .ok (.aload_n 2, 1) := by decide +kernel
theorem dL_law_481 : decode cL_law 481 = .ok (.aload_n 0, 1) := by decide +kernel
theorem dL_law_482 : decode cL_law 482 = .ok (.iload_n 3, 1) := by decide +kernel
theorem dL_law_483 : decode cL_law 483 = .ok (.iconst 1, 1) := by decide +kernel
theorem dL_law_484 : decode cL_law 484 = .ok (.iadd, 1) := by decide +kernel
theorem dL_law_485 : decode cL_law 485 = .ok (.iaload, 1) := by decide +kernel
theorem dL_law_486 : decode cL_law 486 = .ok (.aload_n 0, 1) := by decide +kernel
theorem dL_law_487 : decode cL_law 487 = .ok (.iload_n 3, 1) := by decide +kernel
theorem dL_law_488 : decode cL_law 488 = .ok (.iconst 2, 1) := by decide +kernel
theorem dL_law_489 : decode cL_law 489 = .ok (.iadd, 1) := by decide +kernel
theorem dL_law_490 : decode cL_law 490 = .ok (.iaload, 1) := by decide +kernel
theorem dL_law_491 : decode cL_law 491 = .ok (.invokevirtual 76, 3) := by decide +kernel
theorem dL_law_494 : decode cL_law 494 = .ok (.if_icmp .eq 117, 3) := by decide +kernel
theorem dL_law_497 : decode cL_law 497 = .ok (.iconst 0, 1) := by decide +kernel
theorem dL_law_498 : decode cL_law 498 = .ok (.ireturn, 1) := by decide +kernel
theorem dL_law_499 : decode cL_law 499 = .ok (.aload_n 1, 1) := by decide +kernel
theorem dL_law_500 : decode cL_law 500 = .ok (.aload_n 0, 1) := by decide +kernel
theorem dL_law_501 : decode cL_law 501 = .ok (.iload_n 3, 1) := by decide +kernel
theorem dL_law_502 : decode cL_law 502 = .ok (.iconst 1, 1) := by decide +kernel
theorem dL_law_503 : decode cL_law 503 = .ok (.iadd, 1) := by decide +kernel
theorem dL_law_504 : decode cL_law 504 = .ok (.iaload, 1) := by decide +kernel
theorem dL_law_505 : decode cL_law 505 = .ok (.aload_n 0, 1) := by decide +kernel
theorem dL_law_506 : decode cL_law 506 = .ok (.iload_n 3, 1) := by decide +kernel
theorem dL_law_507 : decode cL_law 507 = .ok (.iconst 2, 1) := by decide +kernel
theorem dL_law_508 : decode cL_law 508 = .ok (.iadd, 1) := by decide +kernel
theorem dL_law_509 : decode cL_law 509 = .ok (.iaload, 1) := by decide +kernel
theorem dL_law_510 : decode cL_law 510 = .ok (.aload_n 0, 1) := by decide +kernel
theorem dL_law_511 : decode cL_law 511 = .ok (.iload_n 3, 1) := by decide +kernel
theorem dL_law_512 : decode cL_law 512 = .ok (.iconst 3, 1) := by decide +kernel
theorem dL_law_513 : decode cL_law 513 = .ok (.iadd, 1) := by decide +kernel
theorem dL_law_514 : decode cL_law 514 = .ok (.iaload, 1) := by decide +kernel
theorem dL_law_515 : decode cL_law 515 = .ok (.invokevirtual 77, 3) := by decide +kernel
theorem dL_law_518 : decode cL_law 518 = .ok (.aload_n 2, 1) := by decide +kernel
theorem dL_law_519 : decode cL_law 519 = .ok (.aload_n 0, 1) := by decide +kernel
theorem dL_law_520 : decode cL_law 520 = .ok (.iload_n 3, 1) := by decide +kernel
theorem dL_law_521 : decode cL_law 521 = .ok (.iconst 1, 1) := by decide +kernel
theorem dL_law_522 : decode cL_law 522 = .ok (.iadd, 1) := by decide +kernel
theorem dL_law_523 : decode cL_law 523 = .ok (.iaload, 1) := by decide +kernel
theorem dL_law_524 : decode cL_law 524 = .ok (.aload_n 0, 1) := by decide +kernel
theorem dL_law_525 : decode cL_law 525 = .ok (.iload_n 3, 1) := by decide +kernel
theorem dL_law_526 : decode cL_law 526 = .ok (.iconst 2, 1) := by decide +kernel
theorem dL_law_527 : decode cL_law 527 = .ok (.iadd, 1) := by decide +kernel
theorem dL_law_528 : decode cL_law 528 = .ok (.iaload, 1) := by decide +kernel
theorem dL_law_529 : decode cL_law 529 = .ok (.aload_n 0, 1) := by decide +kernel
theorem dL_law_530 : decode cL_law 530 = .ok (.iload_n 3, 1) := by decide +kernel
theorem dL_law_531 : decode cL_law 531 = .ok (.iconst 3, 1) := by decide +kernel
theorem dL_law_532 : decode cL_law 532 = .ok (.iadd, 1) := by decide +kernel
theorem dL_law_533 : decode cL_law 533 = .ok (.iaload, 1) := by decide +kernel
theorem dL_law_534 : decode cL_law 534 = .ok (.invokevirtual 80, 3) := by decide +kernel
theorem dL_law_537 : decode cL_law 537 = .ok (.if_icmp .eq 74, 3) := by decide +kernel
theorem dL_law_540 : decode cL_law 540 = .ok (.iconst 0, 1) := by decide +kernel
theorem dL_law_541 : decode cL_law 541 = .ok (.ireturn, 1) := by decide +kernel
theorem dL_law_542 : decode cL_law 542 = .ok (.aload_n 1, 1) := by decide +kernel
theorem dL_law_543 : decode cL_law 543 = .ok (.aload_n 0, 1) := by decide +kernel
theorem dL_law_544 : decode cL_law 544 = .ok (.iload_n 3, 1) := by decide +kernel
theorem dL_law_545 : decode cL_law 545 = .ok (.iconst 1, 1) := by decide +kernel
theorem dL_law_546 : decode cL_law 546 = .ok (.iadd, 1) := by decide +kernel
theorem dL_law_547 : decode cL_law 547 = .ok (.iaload, 1) := by decide +kernel
theorem dL_law_548 : decode cL_law 548 = .ok (.invokevirtual 81, 3) := by decide +kernel
theorem dL_law_551 : decode cL_law 551 = .ok (.aload_n 2, 1) := by decide +kernel
theorem dL_law_552 : decode cL_law 552 = .ok (.aload_n 0, 1) := by decide +kernel
theorem dL_law_553 : decode cL_law 553 = .ok (.iload_n 3, 1) := by decide +kernel
theorem dL_law_554 : decode cL_law 554 = .ok (.iconst 1, 1) := by decide +kernel
theorem dL_law_555 : decode cL_law 555 = .ok (.iadd, 1) := by decide +kernel
theorem dL_law_556 : decode cL_law 556 = .ok (.iaload, 1) := by decide +kernel
theorem dL_law_557 : decode cL_law 557 = .ok (.invokevirtual 84, 3) := by decide +kernel
theorem dL_law_560 : decode cL_law 560 = .ok (.if_icmp .eq 51, 3) := by decide +kernel
theorem dL_law_563 : decode cL_law 563 = .ok (.iconst 0, 1) := by decide +kernel
theorem dL_law_564 : decode cL_law 564 = .ok (.ireturn, 1) := by decide +kernel
theorem dL_law_565 : decode cL_law 565 = .ok (.aload_n 1, 1) := by decide +kernel
theorem dL_law_566 : decode cL_law 566 = .ok (.aload_n 0, 1) := by decide +kernel
theorem dL_law_567 : decode cL_law 567 = .ok (.iload_n 3, 1) := by decide +kernel
theorem dL_law_568 : decode cL_law 568 = .ok (.iconst 1, 1) := by decide +kernel
theorem dL_law_569 : decode cL_law 569 = .ok (.iadd, 1) := by decide +kernel
theorem dL_law_570 : decode cL_law 570 = .ok (.iaload, 1) := by decide +kernel
theorem dL_law_571 : decode cL_law 571 = .ok (.invokevirtual 85, 3) := by decide +kernel
theorem dL_law_574 : decode cL_law 574 = .ok (.aload_n 2, 1) := by decide +kernel
theorem dL_law_575 : decode cL_law 575 = .ok (.aload_n 0, 1) := by decide +kernel
theorem dL_law_576 : decode cL_law 576 = .ok (.iload_n 3, 1) := by decide +kernel
theorem dL_law_577 : decode cL_law 577 = .ok (.iconst 1, 1) := by decide +kernel
theorem dL_law_578 : decode cL_law 578 = .ok (.iadd, 1) := by decide +kernel
theorem dL_law_579 : decode cL_law 579 = .ok (.iaload, 1) := by decide +kernel
theorem dL_law_580 : decode cL_law 580 = .ok (.invokevirtual 88, 3) := by decide +kernel
theorem dL_law_583 : decode cL_law 583 = .ok (.if_icmp .eq 28, 3) := by decide +kernel
theorem dL_law_586 : decode cL_law 586 = .ok (.iconst 0, 1) := by decide +kernel
theorem dL_law_587 : decode cL_law 587 = .ok (.ireturn, 1) := by decide +kernel
theorem dL_law_588 : decode cL_law 588 = .ok (.aload_n 1, 1) := by decide +kernel
theorem dL_law_589 : decode cL_law 589 = .ok (.aload_n 0, 1) := by decide +kernel
theorem dL_law_590 : decode cL_law 590 = .ok (.iload_n 3, 1) := by decide +kernel
theorem dL_law_591 : decode cL_law 591 = .ok (.iconst 1, 1) := by decide +kernel
theorem dL_law_592 : decode cL_law 592 = .ok (.iadd, 1) := by decide +kernel
theorem dL_law_593 : decode cL_law 593 = .ok (.iaload, 1) := by decide +kernel
theorem dL_law_594 : decode cL_law 594 = .ok (.invokevirtual 89, 3) := by decide +kernel
theorem dL_law_597 : decode cL_law 597 = .ok (.aload_n 2, 1) := by decide +kernel
theorem dL_law_598 : decode cL_law 598 = .ok (.aload_n 0, 1) := by decide +kernel
theorem dL_law_599 : decode cL_law 599 = .ok (.iload_n 3, 1) := by decide +kernel
theorem dL_law_600 : decode cL_law 600 = .ok (.iconst 1, 1) := by decide +kernel
theorem dL_law_601 : decode cL_law 601 = .ok (.iadd, 1) := by decide +kernel
theorem dL_law_602 : decode cL_law 602 = .ok (.iaload, 1) := by decide +kernel
theorem dL_law_603 : decode cL_law 603 = .ok (.invokevirtual 92, 3) := by decide +kernel
theorem dL_law_606 : decode cL_law 606 = .ok (.if_icmp .eq 5, 3) := by decide +kernel
theorem dL_law_609 : decode cL_law 609 = .ok (.iconst 0, 1) := by decide +kernel
theorem dL_law_610 : decode cL_law 610 = .ok (.ireturn, 1) := by decide +kernel
theorem dL_law_611 : decode cL_law 611 = .ok (.iinc 3 4, 3) := by decide +kernel
theorem dL_law_614 : decode cL_law 614 = .ok (.goto (-596), 3) := by decide +kernel
theorem dL_law_617 : decode cL_law 617 = .ok (.iconst 1, 1) := by decide +kernel
theorem dL_law_618 : decode cL_law 618 = .ok (.ireturn, 1) := by decide +kernel
def b_law (sa : Nat → Nat) (b Ls : Nat) (xs : Nat → Int32) : Sm := sSeq (sSeq (sI 3 (kI 0)) (sWh (qI p_le (vI 3) (bI o_sub (xN b Ls) (kI 4))) (sSw (bI o_and (xI b Ls xs (vI 3)) (kI 31)) [([0], sSeq (sIf (qI p_ne (mV unI 6 (f_X7_say sa) (vA 1) (aCons .int (xI b Ls xs (bI o_add (vI 3) (kI 1))) (aNil))) (mV unI 7 (f_X8_say sa) (vA 2) (aCons .int (xI b Ls xs (bI o_add (vI 3) (kI 1))) (aNil)))) (rI (kI 0)) sSkip) (sBrk)), ([1], sSeq (sIf (qI p_ne (mV unI 6 (f_X7_wipe sa) (vA 1) (aNil)) (mV unI 7 (f_X8_wipe sa) (vA 2) (aNil))) (rI (kI 0)) sSkip) (sBrk)), ([2], sSeq (sIf (qI p_ne (mV unI 6 (f_X7_item sa) (vA 1) (aCons .int (xI b Ls xs (bI o_add (vI 3) (kI 1))) (aCons .int (xI b Ls xs (bI o_add (vI 3) (kI 2))) (aCons .int (xI b Ls xs (bI o_add (vI 3) (kI 3))) (aNil))))) (mV unI 7 (f_X8_item sa) (vA 2) (aCons .int (xI b Ls xs (bI o_add (vI 3) (kI 1))) (aCons .int (xI b Ls xs (bI o_add (vI 3) (kI 2))) (aCons .int (xI b Ls xs (bI o_add (vI 3) (kI 3))) (aNil)))))) (rI (kI 0)) sSkip) (sBrk)), ([3], sSeq (sIf (qI p_ne (mV unI 6 (f_X7_read sa) (vA 1) (aNil)) (mV unI 7 (f_X8_read sa) (vA 2) (aNil))) (rI (kI 0)) sSkip) (sBrk)), ([4], sSeq (sIf (qI p_ne (mV unI 6 (f_X7_fault sa) (vA 1) (aCons .int (xI b Ls xs (bI o_add (vI 3) (kI 1))) (aNil))) (mV unI 7 (f_X8_fault sa) (vA 2) (aCons .int (xI b Ls xs (bI o_add (vI 3) (kI 1))) (aNil)))) (rI (kI 0)) sSkip) (sBrk)), ([5], sSeq (sIf (qI p_ne (mV unI 6 (f_X7_written sa) (vA 1) (aCons .int (xI b Ls xs (bI o_add (vI 3) (kI 1))) (aCons .int (xI b Ls xs (bI o_add (vI 3) (kI 2))) (aNil)))) (mV unI 7 (f_X8_written sa) (vA 2) (aCons .int (xI b Ls xs (bI o_add (vI 3) (kI 1))) (aCons .int (xI b Ls xs (bI o_add (vI 3) (kI 2))) (aNil))))) (rI (kI 0)) sSkip) (sBrk)), ([6], sSeq (sIf (qI p_ne (mV unI 6 (f_X7_field sa) (vA 1) (aCons .int (xI b Ls xs (bI o_add (vI 3) (kI 1))) (aCons .int (xI b Ls xs (bI o_add (vI 3) (kI 2))) (aNil)))) (mV unI 7 (f_X8_field sa) (vA 2) (aCons .int (xI b Ls xs (bI o_add (vI 3) (kI 1))) (aCons .int (xI b Ls xs (bI o_add (vI 3) (kI 2))) (aNil))))) (rI (kI 0)) sSkip) (sBrk)), ([7], sSeq (sIf (qI p_ne (mV unI 6 (f_X7_group sa) (vA 1) (aCons .int (xI b Ls xs (bI o_add (vI 3) (kI 1))) (aCons .int (xI b Ls xs (bI o_add (vI 3) (kI 2))) (aNil)))) (mV unI 7 (f_X8_group sa) (vA 2) (aCons .int (xI b Ls xs (bI o_add (vI 3) (kI 1))) (aCons .int (xI b Ls xs (bI o_add (vI 3) (kI 2))) (aNil))))) (rI (kI 0)) sSkip) (sBrk)), ([8], sSeq (sIf (qI p_ne (mV unI 6 (f_X7_length sa) (vA 1) (aCons .int (xI b Ls xs (bI o_add (vI 3) (kI 1))) (aCons .int (xI b Ls xs (bI o_add (vI 3) (kI 2))) (aNil)))) (mV unI 7 (f_X8_length sa) (vA 2) (aCons .int (xI b Ls xs (bI o_add (vI 3) (kI 1))) (aCons .int (xI b Ls xs (bI o_add (vI 3) (kI 2))) (aNil))))) (rI (kI 0)) sSkip) (sBrk)), ([9], sSeq (sIf (qI p_ne (mV unI 6 (f_X7_put sa) (vA 1) (aCons .int (xI b Ls xs (bI o_add (vI 3) (kI 1))) (aNil))) (mV unI 7 (f_X8_put sa) (vA 2) (aCons .int (xI b Ls xs (bI o_add (vI 3) (kI 1))) (aNil)))) (rI (kI 0)) sSkip) (sBrk)), ([10], sSeq (sIf (qI p_ne (mV unI 6 (f_X7_come sa) (vA 1) (aNil)) (mV unI 7 (f_X8_come sa) (vA 2) (aNil))) (rI (kI 0)) sSkip) (sBrk)), ([11], sSeq (sIf (qI p_ne (mV unI 6 (f_X7_event sa) (vA 1) (aCons .int (xI b Ls xs (bI o_add (vI 3) (kI 1))) (aNil))) (mV unI 7 (f_X8_event sa) (vA 2) (aCons .int (xI b Ls xs (bI o_add (vI 3) (kI 1))) (aNil)))) (rI (kI 0)) sSkip) (sBrk)), ([12], sSeq (sIf (qI p_ne (mV unI 6 (f_X7_next sa) (vA 1) (aNil)) (mV unI 7 (f_X8_next sa) (vA 2) (aNil))) (rI (kI 0)) sSkip) (sBrk)), ([13], sSeq (sIf (qI p_ne (mV unI 6 (f_X7_last sa) (vA 1) (aCons .int (xI b Ls xs (bI o_add (vI 3) (kI 1))) (aNil))) (mV unI 7 (f_X8_last sa) (vA 2) (aCons .int (xI b Ls xs (bI o_add (vI 3) (kI 1))) (aNil)))) (rI (kI 0)) sSkip) (sBrk)), ([14], sSeq (sIf (qI p_ne (mV unI 6 (f_X7_want sa) (vA 1) (aCons .int (xI b Ls xs (bI o_add (vI 3) (kI 1))) (aCons .int (xI b Ls xs (bI o_add (vI 3) (kI 2))) (aNil)))) (mV unI 7 (f_X8_want sa) (vA 2) (aCons .int (xI b Ls xs (bI o_add (vI 3) (kI 1))) (aCons .int (xI b Ls xs (bI o_add (vI 3) (kI 2))) (aNil))))) (rI (kI 0)) sSkip) (sBrk)), ([15], sSeq (sIf (qI p_ne (mV unI 6 (f_X7_made sa) (vA 1) (aCons .int (xI b Ls xs (bI o_add (vI 3) (kI 1))) (aCons .int (xI b Ls xs (bI o_add (vI 3) (kI 2))) (aCons .int (xI b Ls xs (bI o_add (vI 3) (kI 3))) (aNil))))) (mV unI 7 (f_X8_made sa) (vA 2) (aCons .int (xI b Ls xs (bI o_add (vI 3) (kI 1))) (aCons .int (xI b Ls xs (bI o_add (vI 3) (kI 2))) (aCons .int (xI b Ls xs (bI o_add (vI 3) (kI 3))) (aNil)))))) (rI (kI 0)) sSkip) (sBrk)), ([16], sSeq (sIf (qI p_ne (mV unI 6 (f_X7_count sa) (vA 1) (aCons .int (xI b Ls xs (bI o_add (vI 3) (kI 1))) (aNil))) (mV unI 7 (f_X8_count sa) (vA 2) (aCons .int (xI b Ls xs (bI o_add (vI 3) (kI 1))) (aNil)))) (rI (kI 0)) sSkip) (sBrk)), ([17], sSeq (sIf (qI p_ne (mV unI 6 (f_X7_image sa) (vA 1) (aCons .int (xI b Ls xs (bI o_add (vI 3) (kI 1))) (aNil))) (mV unI 7 (f_X8_image sa) (vA 2) (aCons .int (xI b Ls xs (bI o_add (vI 3) (kI 1))) (aNil)))) (rI (kI 0)) sSkip) (sBrk)), ([18], sSeq (sIf (qI p_ne (mV unI 6 (f_X7_restore sa) (vA 1) (aCons .int (xI b Ls xs (bI o_add (vI 3) (kI 1))) (aNil))) (mV unI 7 (f_X8_restore sa) (vA 2) (aCons .int (xI b Ls xs (bI o_add (vI 3) (kI 1))) (aNil)))) (rI (kI 0)) sSkip) (sBrk))] (sBrk)) (sInc 3 4) FU)) (rI (kI 1))
set_option maxRecDepth 20000 in
theorem i_law {Γ : Cx} {sa : Nat → Nat} {b Ls : Nat} {xs : Nat → Int32} (hO : Ok Γ cL_law RL 4 9 sa) (hX : Scr Γ b Ls xs) : St Γ cL_law 16 0 0 0 (b_law sa b Ls xs) := (St.seq (St.seq (St.istoren hO (Ex.iconst hO dL_law_16 (by decide)) dL_law_17 (by decide)) (St.wh (CJ.inle hO (tgt := 617) (Ex.iloadn hO dL_law_18) (Ex.bin (Ex.slen hO hX (Ex.aloadn hO dL_law_19) dL_law_20) (Ex.iconst hO dL_law_21 (by decide)) (Bin.sub hO dL_law_22)) dL_law_23 (by decide)) (St.sw (ps := [([0], 124), ([1], 147), ([2], 160), ([3], 203), ([4], 216), ([5], 239), ([6], 272), ([7], 305), ([8], 338), ([9], 371), ([10], 394), ([11], 407), ([12], 430), ([13], 443), ([14], 466), ([15], 499), ([16], 542), ([17], 565), ([18], 588)]) (cs := [([0], sSeq (sIf (qI p_ne (mV unI 6 (f_X7_say sa) (vA 1) (aCons .int (xI b Ls xs (bI o_add (vI 3) (kI 1))) (aNil))) (mV unI 7 (f_X8_say sa) (vA 2) (aCons .int (xI b Ls xs (bI o_add (vI 3) (kI 1))) (aNil)))) (rI (kI 0)) sSkip) (sBrk)), ([1], sSeq (sIf (qI p_ne (mV unI 6 (f_X7_wipe sa) (vA 1) (aNil)) (mV unI 7 (f_X8_wipe sa) (vA 2) (aNil))) (rI (kI 0)) sSkip) (sBrk)), ([2], sSeq (sIf (qI p_ne (mV unI 6 (f_X7_item sa) (vA 1) (aCons .int (xI b Ls xs (bI o_add (vI 3) (kI 1))) (aCons .int (xI b Ls xs (bI o_add (vI 3) (kI 2))) (aCons .int (xI b Ls xs (bI o_add (vI 3) (kI 3))) (aNil))))) (mV unI 7 (f_X8_item sa) (vA 2) (aCons .int (xI b Ls xs (bI o_add (vI 3) (kI 1))) (aCons .int (xI b Ls xs (bI o_add (vI 3) (kI 2))) (aCons .int (xI b Ls xs (bI o_add (vI 3) (kI 3))) (aNil)))))) (rI (kI 0)) sSkip) (sBrk)), ([3], sSeq (sIf (qI p_ne (mV unI 6 (f_X7_read sa) (vA 1) (aNil)) (mV unI 7 (f_X8_read sa) (vA 2) (aNil))) (rI (kI 0)) sSkip) (sBrk)), ([4], sSeq (sIf (qI p_ne (mV unI 6 (f_X7_fault sa) (vA 1) (aCons .int (xI b Ls xs (bI o_add (vI 3) (kI 1))) (aNil))) (mV unI 7 (f_X8_fault sa) (vA 2) (aCons .int (xI b Ls xs (bI o_add (vI 3) (kI 1))) (aNil)))) (rI (kI 0)) sSkip) (sBrk)), ([5], sSeq (sIf (qI p_ne (mV unI 6 (f_X7_written sa) (vA 1) (aCons .int (xI b Ls xs (bI o_add (vI 3) (kI 1))) (aCons .int (xI b Ls xs (bI o_add (vI 3) (kI 2))) (aNil)))) (mV unI 7 (f_X8_written sa) (vA 2) (aCons .int (xI b Ls xs (bI o_add (vI 3) (kI 1))) (aCons .int (xI b Ls xs (bI o_add (vI 3) (kI 2))) (aNil))))) (rI (kI 0)) sSkip) (sBrk)), ([6], sSeq (sIf (qI p_ne (mV unI 6 (f_X7_field sa) (vA 1) (aCons .int (xI b Ls xs (bI o_add (vI 3) (kI 1))) (aCons .int (xI b Ls xs (bI o_add (vI 3) (kI 2))) (aNil)))) (mV unI 7 (f_X8_field sa) (vA 2) (aCons .int (xI b Ls xs (bI o_add (vI 3) (kI 1))) (aCons .int (xI b Ls xs (bI o_add (vI 3) (kI 2))) (aNil))))) (rI (kI 0)) sSkip) (sBrk)), ([7], sSeq (sIf (qI p_ne (mV unI 6 (f_X7_group sa) (vA 1) (aCons .int (xI b Ls xs (bI o_add (vI 3) (kI 1))) (aCons .int (xI b Ls xs (bI o_add (vI 3) (kI 2))) (aNil)))) (mV unI 7 (f_X8_group sa) (vA 2) (aCons .int (xI b Ls xs (bI o_add (vI 3) (kI 1))) (aCons .int (xI b Ls xs (bI o_add (vI 3) (kI 2))) (aNil))))) (rI (kI 0)) sSkip) (sBrk)), ([8], sSeq (sIf (qI p_ne (mV unI 6 (f_X7_length sa) (vA 1) (aCons .int (xI b Ls xs (bI o_add (vI 3) (kI 1))) (aCons .int (xI b Ls xs (bI o_add (vI 3) (kI 2))) (aNil)))) (mV unI 7 (f_X8_length sa) (vA 2) (aCons .int (xI b Ls xs (bI o_add (vI 3) (kI 1))) (aCons .int (xI b Ls xs (bI o_add (vI 3) (kI 2))) (aNil))))) (rI (kI 0)) sSkip) (sBrk)), ([9], sSeq (sIf (qI p_ne (mV unI 6 (f_X7_put sa) (vA 1) (aCons .int (xI b Ls xs (bI o_add (vI 3) (kI 1))) (aNil))) (mV unI 7 (f_X8_put sa) (vA 2) (aCons .int (xI b Ls xs (bI o_add (vI 3) (kI 1))) (aNil)))) (rI (kI 0)) sSkip) (sBrk)), ([10], sSeq (sIf (qI p_ne (mV unI 6 (f_X7_come sa) (vA 1) (aNil)) (mV unI 7 (f_X8_come sa) (vA 2) (aNil))) (rI (kI 0)) sSkip) (sBrk)), ([11], sSeq (sIf (qI p_ne (mV unI 6 (f_X7_event sa) (vA 1) (aCons .int (xI b Ls xs (bI o_add (vI 3) (kI 1))) (aNil))) (mV unI 7 (f_X8_event sa) (vA 2) (aCons .int (xI b Ls xs (bI o_add (vI 3) (kI 1))) (aNil)))) (rI (kI 0)) sSkip) (sBrk)), ([12], sSeq (sIf (qI p_ne (mV unI 6 (f_X7_next sa) (vA 1) (aNil)) (mV unI 7 (f_X8_next sa) (vA 2) (aNil))) (rI (kI 0)) sSkip) (sBrk)), ([13], sSeq (sIf (qI p_ne (mV unI 6 (f_X7_last sa) (vA 1) (aCons .int (xI b Ls xs (bI o_add (vI 3) (kI 1))) (aNil))) (mV unI 7 (f_X8_last sa) (vA 2) (aCons .int (xI b Ls xs (bI o_add (vI 3) (kI 1))) (aNil)))) (rI (kI 0)) sSkip) (sBrk)), ([14], sSeq (sIf (qI p_ne (mV unI 6 (f_X7_want sa) (vA 1) (aCons .int (xI b Ls xs (bI o_add (vI 3) (kI 1))) (aCons .int (xI b Ls xs (bI o_add (vI 3) (kI 2))) (aNil)))) (mV unI 7 (f_X8_want sa) (vA 2) (aCons .int (xI b Ls xs (bI o_add (vI 3) (kI 1))) (aCons .int (xI b Ls xs (bI o_add (vI 3) (kI 2))) (aNil))))) (rI (kI 0)) sSkip) (sBrk)), ([15], sSeq (sIf (qI p_ne (mV unI 6 (f_X7_made sa) (vA 1) (aCons .int (xI b Ls xs (bI o_add (vI 3) (kI 1))) (aCons .int (xI b Ls xs (bI o_add (vI 3) (kI 2))) (aCons .int (xI b Ls xs (bI o_add (vI 3) (kI 3))) (aNil))))) (mV unI 7 (f_X8_made sa) (vA 2) (aCons .int (xI b Ls xs (bI o_add (vI 3) (kI 1))) (aCons .int (xI b Ls xs (bI o_add (vI 3) (kI 2))) (aCons .int (xI b Ls xs (bI o_add (vI 3) (kI 3))) (aNil)))))) (rI (kI 0)) sSkip) (sBrk)), ([16], sSeq (sIf (qI p_ne (mV unI 6 (f_X7_count sa) (vA 1) (aCons .int (xI b Ls xs (bI o_add (vI 3) (kI 1))) (aNil))) (mV unI 7 (f_X8_count sa) (vA 2) (aCons .int (xI b Ls xs (bI o_add (vI 3) (kI 1))) (aNil)))) (rI (kI 0)) sSkip) (sBrk)), ([17], sSeq (sIf (qI p_ne (mV unI 6 (f_X7_image sa) (vA 1) (aCons .int (xI b Ls xs (bI o_add (vI 3) (kI 1))) (aNil))) (mV unI 7 (f_X8_image sa) (vA 2) (aCons .int (xI b Ls xs (bI o_add (vI 3) (kI 1))) (aNil)))) (rI (kI 0)) sSkip) (sBrk)), ([18], sSeq (sIf (qI p_ne (mV unI 6 (f_X7_restore sa) (vA 1) (aCons .int (xI b Ls xs (bI o_add (vI 3) (kI 1))) (aNil))) (mV unI 7 (f_X8_restore sa) (vA 2) (aCons .int (xI b Ls xs (bI o_add (vI 3) (kI 1))) (aNil)))) (rI (kI 0)) sSkip) (sBrk))]) (pd := 611) (pe := 611) (Ex.bin (Ex.sld hO hX (Ex.aloadn hO dL_law_26) (Ex.iloadn hO dL_law_27) dL_law_28) (Ex.bipush hO dL_law_29 (by decide)) (Bin.and hO dL_law_31)) (SwTo.table hO dL_law_32 (by decide) (sw_table 579 0 18 32 [([0], 124), ([1], 147), ([2], 160), ([3], 203), ([4], 216), ([5], 239), ([6], 272), ([7], 305), ([8], 338), ([9], 371), ([10], 394), ([11], 407), ([12], 430), ([13], 443), ([14], 466), ([15], 499), ([16], 542), ([17], 565), ([18], 588)] 611 (by decide +kernel))) ⟨rfl, (St.seq (St.iff (CJ.inne hO (tgt := 611) (Ex.callV (fun h => unI_ok h) hO m_X7_say i_X7_say (by decide) w_234 (Ex.aloadn hO dL_law_124) (XS.i (Ex.sld hO hX (Ex.aloadn hO dL_law_125) (Ex.bin (Ex.iloadn hO dL_law_126) (Ex.iconst hO dL_law_127 (by decide)) (Bin.add hO dL_law_128)) dL_law_129) XS.nil) (ALen.cons ALen.nil) dL_law_130 (by decide)) (Ex.callV (fun h => unI_ok h) hO m_X8_say i_X8_say (by decide) w_851 (Ex.aloadn hO dL_law_133) (XS.i (Ex.sld hO hX (Ex.aloadn hO dL_law_134) (Ex.bin (Ex.iloadn hO dL_law_135) (Ex.iconst hO dL_law_136 (by decide)) (Bin.add hO dL_law_137)) dL_law_138) XS.nil) (ALen.cons ALen.nil) dL_law_139 (by decide)) dL_law_142 (by decide)) (St.retI (Ex.iconst hO dL_law_145 (by decide)) dL_law_146) St.skip) St.brk0), ⟨rfl, (St.seq (St.iff (CJ.inne hO (tgt := 611) (Ex.callV (fun h => unI_ok h) hO m_X7_wipe i_X7_wipe (by decide) w_249 (Ex.aloadn hO dL_law_147) XS.nil ALen.nil dL_law_148 (by decide)) (Ex.callV (fun h => unI_ok h) hO m_X8_wipe i_X8_wipe (by decide) w_858 (Ex.aloadn hO dL_law_151) XS.nil ALen.nil dL_law_152 (by decide)) dL_law_155 (by decide)) (St.retI (Ex.iconst hO dL_law_158 (by decide)) dL_law_159) St.skip) St.brk0), ⟨rfl, (St.seq (St.iff (CJ.inne hO (tgt := 611) (Ex.callV (fun h => unI_ok h) hO m_X7_item i_X7_item (by decide) w_257 (Ex.aloadn hO dL_law_160) (XS.i (Ex.sld hO hX (Ex.aloadn hO dL_law_161) (Ex.bin (Ex.iloadn hO dL_law_162) (Ex.iconst hO dL_law_163 (by decide)) (Bin.add hO dL_law_164)) dL_law_165) (XS.i (Ex.sld hO hX (Ex.aloadn hO dL_law_166) (Ex.bin (Ex.iloadn hO dL_law_167) (Ex.iconst hO dL_law_168 (by decide)) (Bin.add hO dL_law_169)) dL_law_170) (XS.i (Ex.sld hO hX (Ex.aloadn hO dL_law_171) (Ex.bin (Ex.iloadn hO dL_law_172) (Ex.iconst hO dL_law_173 (by decide)) (Bin.add hO dL_law_174)) dL_law_175) XS.nil))) (ALen.cons (ALen.cons (ALen.cons ALen.nil))) dL_law_176 (by decide)) (Ex.callV (fun h => unI_ok h) hO m_X8_item i_X8_item (by decide) w_862 (Ex.aloadn hO dL_law_179) (XS.i (Ex.sld hO hX (Ex.aloadn hO dL_law_180) (Ex.bin (Ex.iloadn hO dL_law_181) (Ex.iconst hO dL_law_182 (by decide)) (Bin.add hO dL_law_183)) dL_law_184) (XS.i (Ex.sld hO hX (Ex.aloadn hO dL_law_185) (Ex.bin (Ex.iloadn hO dL_law_186) (Ex.iconst hO dL_law_187 (by decide)) (Bin.add hO dL_law_188)) dL_law_189) (XS.i (Ex.sld hO hX (Ex.aloadn hO dL_law_190) (Ex.bin (Ex.iloadn hO dL_law_191) (Ex.iconst hO dL_law_192 (by decide)) (Bin.add hO dL_law_193)) dL_law_194) XS.nil))) (ALen.cons (ALen.cons (ALen.cons ALen.nil))) dL_law_195 (by decide)) dL_law_198 (by decide)) (St.retI (Ex.iconst hO dL_law_201 (by decide)) dL_law_202) St.skip) St.brk0), ⟨rfl, (St.seq (St.iff (CJ.inne hO (tgt := 611) (Ex.callV (fun h => unI_ok h) hO m_X7_read i_X7_read (by decide) w_261 (Ex.aloadn hO dL_law_203) XS.nil ALen.nil dL_law_204 (by decide)) (Ex.callV (fun h => unI_ok h) hO m_X8_read i_X8_read (by decide) w_867 (Ex.aloadn hO dL_law_207) XS.nil ALen.nil dL_law_208 (by decide)) dL_law_211 (by decide)) (St.retI (Ex.iconst hO dL_law_214 (by decide)) dL_law_215) St.skip) St.brk0), ⟨rfl, (St.seq (St.iff (CJ.inne hO (tgt := 611) (Ex.callV (fun h => unI_ok h) hO m_X7_fault i_X7_fault (by decide) w_472 (Ex.aloadn hO dL_law_216) (XS.i (Ex.sld hO hX (Ex.aloadn hO dL_law_217) (Ex.bin (Ex.iloadn hO dL_law_218) (Ex.iconst hO dL_law_219 (by decide)) (Bin.add hO dL_law_220)) dL_law_221) XS.nil) (ALen.cons ALen.nil) dL_law_222 (by decide)) (Ex.callV (fun h => unI_ok h) hO m_X8_fault i_X8_fault (by decide) w_924 (Ex.aloadn hO dL_law_225) (XS.i (Ex.sld hO hX (Ex.aloadn hO dL_law_226) (Ex.bin (Ex.iloadn hO dL_law_227) (Ex.iconst hO dL_law_228 (by decide)) (Bin.add hO dL_law_229)) dL_law_230) XS.nil) (ALen.cons ALen.nil) dL_law_231 (by decide)) dL_law_234 (by decide)) (St.retI (Ex.iconst hO dL_law_237 (by decide)) dL_law_238) St.skip) St.brk0), ⟨rfl, (St.seq (St.iff (CJ.inne hO (tgt := 611) (Ex.callV (fun h => unI_ok h) hO m_X7_written i_X7_written (by decide) w_482 (Ex.aloadn hO dL_law_239) (XS.i (Ex.sld hO hX (Ex.aloadn hO dL_law_240) (Ex.bin (Ex.iloadn hO dL_law_241) (Ex.iconst hO dL_law_242 (by decide)) (Bin.add hO dL_law_243)) dL_law_244) (XS.i (Ex.sld hO hX (Ex.aloadn hO dL_law_245) (Ex.bin (Ex.iloadn hO dL_law_246) (Ex.iconst hO dL_law_247 (by decide)) (Bin.add hO dL_law_248)) dL_law_249) XS.nil)) (ALen.cons (ALen.cons ALen.nil)) dL_law_250 (by decide)) (Ex.callV (fun h => unI_ok h) hO m_X8_written i_X8_written (by decide) w_932 (Ex.aloadn hO dL_law_253) (XS.i (Ex.sld hO hX (Ex.aloadn hO dL_law_254) (Ex.bin (Ex.iloadn hO dL_law_255) (Ex.iconst hO dL_law_256 (by decide)) (Bin.add hO dL_law_257)) dL_law_258) (XS.i (Ex.sld hO hX (Ex.aloadn hO dL_law_259) (Ex.bin (Ex.iloadn hO dL_law_260) (Ex.iconst hO dL_law_261 (by decide)) (Bin.add hO dL_law_262)) dL_law_263) XS.nil)) (ALen.cons (ALen.cons ALen.nil)) dL_law_264 (by decide)) dL_law_267 (by decide)) (St.retI (Ex.iconst hO dL_law_270 (by decide)) dL_law_271) St.skip) St.brk0), ⟨rfl, (St.seq (St.iff (CJ.inne hO (tgt := 611) (Ex.callV (fun h => unI_ok h) hO m_X7_field i_X7_field (by decide) w_592 (Ex.aloadn hO dL_law_272) (XS.i (Ex.sld hO hX (Ex.aloadn hO dL_law_273) (Ex.bin (Ex.iloadn hO dL_law_274) (Ex.iconst hO dL_law_275 (by decide)) (Bin.add hO dL_law_276)) dL_law_277) (XS.i (Ex.sld hO hX (Ex.aloadn hO dL_law_278) (Ex.bin (Ex.iloadn hO dL_law_279) (Ex.iconst hO dL_law_280 (by decide)) (Bin.add hO dL_law_281)) dL_law_282) XS.nil)) (ALen.cons (ALen.cons ALen.nil)) dL_law_283 (by decide)) (Ex.callV (fun h => unI_ok h) hO m_X8_field i_X8_field (by decide) w_963 (Ex.aloadn hO dL_law_286) (XS.i (Ex.sld hO hX (Ex.aloadn hO dL_law_287) (Ex.bin (Ex.iloadn hO dL_law_288) (Ex.iconst hO dL_law_289 (by decide)) (Bin.add hO dL_law_290)) dL_law_291) (XS.i (Ex.sld hO hX (Ex.aloadn hO dL_law_292) (Ex.bin (Ex.iloadn hO dL_law_293) (Ex.iconst hO dL_law_294 (by decide)) (Bin.add hO dL_law_295)) dL_law_296) XS.nil)) (ALen.cons (ALen.cons ALen.nil)) dL_law_297 (by decide)) dL_law_300 (by decide)) (St.retI (Ex.iconst hO dL_law_303 (by decide)) dL_law_304) St.skip) St.brk0), ⟨rfl, (St.seq (St.iff (CJ.inne hO (tgt := 611) (Ex.callV (fun h => unI_ok h) hO m_X7_group i_X7_group (by decide) w_601 (Ex.aloadn hO dL_law_305) (XS.i (Ex.sld hO hX (Ex.aloadn hO dL_law_306) (Ex.bin (Ex.iloadn hO dL_law_307) (Ex.iconst hO dL_law_308 (by decide)) (Bin.add hO dL_law_309)) dL_law_310) (XS.i (Ex.sld hO hX (Ex.aloadn hO dL_law_311) (Ex.bin (Ex.iloadn hO dL_law_312) (Ex.iconst hO dL_law_313 (by decide)) (Bin.add hO dL_law_314)) dL_law_315) XS.nil)) (ALen.cons (ALen.cons ALen.nil)) dL_law_316 (by decide)) (Ex.callV (fun h => unI_ok h) hO m_X8_group i_X8_group (by decide) w_975 (Ex.aloadn hO dL_law_319) (XS.i (Ex.sld hO hX (Ex.aloadn hO dL_law_320) (Ex.bin (Ex.iloadn hO dL_law_321) (Ex.iconst hO dL_law_322 (by decide)) (Bin.add hO dL_law_323)) dL_law_324) (XS.i (Ex.sld hO hX (Ex.aloadn hO dL_law_325) (Ex.bin (Ex.iloadn hO dL_law_326) (Ex.iconst hO dL_law_327 (by decide)) (Bin.add hO dL_law_328)) dL_law_329) XS.nil)) (ALen.cons (ALen.cons ALen.nil)) dL_law_330 (by decide)) dL_law_333 (by decide)) (St.retI (Ex.iconst hO dL_law_336 (by decide)) dL_law_337) St.skip) St.brk0), ⟨rfl, (St.seq (St.iff (CJ.inne hO (tgt := 611) (Ex.callV (fun h => unI_ok h) hO m_X7_length i_X7_length (by decide) w_613 (Ex.aloadn hO dL_law_338) (XS.i (Ex.sld hO hX (Ex.aloadn hO dL_law_339) (Ex.bin (Ex.iloadn hO dL_law_340) (Ex.iconst hO dL_law_341 (by decide)) (Bin.add hO dL_law_342)) dL_law_343) (XS.i (Ex.sld hO hX (Ex.aloadn hO dL_law_344) (Ex.bin (Ex.iloadn hO dL_law_345) (Ex.iconst hO dL_law_346 (by decide)) (Bin.add hO dL_law_347)) dL_law_348) XS.nil)) (ALen.cons (ALen.cons ALen.nil)) dL_law_349 (by decide)) (Ex.callV (fun h => unI_ok h) hO m_X8_length i_X8_length (by decide) w_983 (Ex.aloadn hO dL_law_352) (XS.i (Ex.sld hO hX (Ex.aloadn hO dL_law_353) (Ex.bin (Ex.iloadn hO dL_law_354) (Ex.iconst hO dL_law_355 (by decide)) (Bin.add hO dL_law_356)) dL_law_357) (XS.i (Ex.sld hO hX (Ex.aloadn hO dL_law_358) (Ex.bin (Ex.iloadn hO dL_law_359) (Ex.iconst hO dL_law_360 (by decide)) (Bin.add hO dL_law_361)) dL_law_362) XS.nil)) (ALen.cons (ALen.cons ALen.nil)) dL_law_363 (by decide)) dL_law_366 (by decide)) (St.retI (Ex.iconst hO dL_law_369 (by decide)) dL_law_370) St.skip) St.brk0), ⟨rfl, (St.seq (St.iff (CJ.inne hO (tgt := 611) (Ex.callV (fun h => unI_ok h) hO m_X7_put i_X7_put (by decide) w_618 (Ex.aloadn hO dL_law_371) (XS.i (Ex.sld hO hX (Ex.aloadn hO dL_law_372) (Ex.bin (Ex.iloadn hO dL_law_373) (Ex.iconst hO dL_law_374 (by decide)) (Bin.add hO dL_law_375)) dL_law_376) XS.nil) (ALen.cons ALen.nil) dL_law_377 (by decide)) (Ex.callV (fun h => unI_ok h) hO m_X8_put i_X8_put (by decide) w_987 (Ex.aloadn hO dL_law_380) (XS.i (Ex.sld hO hX (Ex.aloadn hO dL_law_381) (Ex.bin (Ex.iloadn hO dL_law_382) (Ex.iconst hO dL_law_383 (by decide)) (Bin.add hO dL_law_384)) dL_law_385) XS.nil) (ALen.cons ALen.nil) dL_law_386 (by decide)) dL_law_389 (by decide)) (St.retI (Ex.iconst hO dL_law_392 (by decide)) dL_law_393) St.skip) St.brk0), ⟨rfl, (St.seq (St.iff (CJ.inne hO (tgt := 611) (Ex.callV (fun h => unI_ok h) hO m_X7_come i_X7_come (by decide) w_622 (Ex.aloadn hO dL_law_394) XS.nil ALen.nil dL_law_395 (by decide)) (Ex.callV (fun h => unI_ok h) hO m_X8_come i_X8_come (by decide) w_991 (Ex.aloadn hO dL_law_398) XS.nil ALen.nil dL_law_399 (by decide)) dL_law_402 (by decide)) (St.retI (Ex.iconst hO dL_law_405 (by decide)) dL_law_406) St.skip) St.brk0), ⟨rfl, (St.seq (St.iff (CJ.inne hO (tgt := 611) (Ex.callV (fun h => unI_ok h) hO m_X7_event i_X7_event (by decide) w_700 (Ex.aloadn hO dL_law_407) (XS.i (Ex.sld hO hX (Ex.aloadn hO dL_law_408) (Ex.bin (Ex.iloadn hO dL_law_409) (Ex.iconst hO dL_law_410 (by decide)) (Bin.add hO dL_law_411)) dL_law_412) XS.nil) (ALen.cons ALen.nil) dL_law_413 (by decide)) (Ex.callV (fun h => unI_ok h) hO m_X8_event i_X8_event (by decide) w_1038 (Ex.aloadn hO dL_law_416) (XS.i (Ex.sld hO hX (Ex.aloadn hO dL_law_417) (Ex.bin (Ex.iloadn hO dL_law_418) (Ex.iconst hO dL_law_419 (by decide)) (Bin.add hO dL_law_420)) dL_law_421) XS.nil) (ALen.cons ALen.nil) dL_law_422 (by decide)) dL_law_425 (by decide)) (St.retI (Ex.iconst hO dL_law_428 (by decide)) dL_law_429) St.skip) St.brk0), ⟨rfl, (St.seq (St.iff (CJ.inne hO (tgt := 611) (Ex.callV (fun h => unI_ok h) hO m_X7_next i_X7_next (by decide) w_704 (Ex.aloadn hO dL_law_430) XS.nil ALen.nil dL_law_431 (by decide)) (Ex.callV (fun h => unI_ok h) hO m_X8_next i_X8_next (by decide) w_1042 (Ex.aloadn hO dL_law_434) XS.nil ALen.nil dL_law_435 (by decide)) dL_law_438 (by decide)) (St.retI (Ex.iconst hO dL_law_441 (by decide)) dL_law_442) St.skip) St.brk0), ⟨rfl, (St.seq (St.iff (CJ.inne hO (tgt := 611) (Ex.callV (fun h => unI_ok h) hO m_X7_last i_X7_last (by decide) w_712 (Ex.aloadn hO dL_law_443) (XS.i (Ex.sld hO hX (Ex.aloadn hO dL_law_444) (Ex.bin (Ex.iloadn hO dL_law_445) (Ex.iconst hO dL_law_446 (by decide)) (Bin.add hO dL_law_447)) dL_law_448) XS.nil) (ALen.cons ALen.nil) dL_law_449 (by decide)) (Ex.callV (fun h => unI_ok h) hO m_X8_last i_X8_last (by decide) w_1046 (Ex.aloadn hO dL_law_452) (XS.i (Ex.sld hO hX (Ex.aloadn hO dL_law_453) (Ex.bin (Ex.iloadn hO dL_law_454) (Ex.iconst hO dL_law_455 (by decide)) (Bin.add hO dL_law_456)) dL_law_457) XS.nil) (ALen.cons ALen.nil) dL_law_458 (by decide)) dL_law_461 (by decide)) (St.retI (Ex.iconst hO dL_law_464 (by decide)) dL_law_465) St.skip) St.brk0), ⟨rfl, (St.seq (St.iff (CJ.inne hO (tgt := 611) (Ex.callV (fun h => unI_ok h) hO m_X7_want i_X7_want (by decide) w_722 (Ex.aloadn hO dL_law_466) (XS.i (Ex.sld hO hX (Ex.aloadn hO dL_law_467) (Ex.bin (Ex.iloadn hO dL_law_468) (Ex.iconst hO dL_law_469 (by decide)) (Bin.add hO dL_law_470)) dL_law_471) (XS.i (Ex.sld hO hX (Ex.aloadn hO dL_law_472) (Ex.bin (Ex.iloadn hO dL_law_473) (Ex.iconst hO dL_law_474 (by decide)) (Bin.add hO dL_law_475)) dL_law_476) XS.nil)) (ALen.cons (ALen.cons ALen.nil)) dL_law_477 (by decide)) (Ex.callV (fun h => unI_ok h) hO m_X8_want i_X8_want (by decide) w_1050 (Ex.aloadn hO dL_law_480) (XS.i (Ex.sld hO hX (Ex.aloadn hO dL_law_481) (Ex.bin (Ex.iloadn hO dL_law_482) (Ex.iconst hO dL_law_483 (by decide)) (Bin.add hO dL_law_484)) dL_law_485) (XS.i (Ex.sld hO hX (Ex.aloadn hO dL_law_486) (Ex.bin (Ex.iloadn hO dL_law_487) (Ex.iconst hO dL_law_488 (by decide)) (Bin.add hO dL_law_489)) dL_law_490) XS.nil)) (ALen.cons (ALen.cons ALen.nil)) dL_law_491 (by decide)) dL_law_494 (by decide)) (St.retI (Ex.iconst hO dL_law_497 (by decide)) dL_law_498) St.skip) St.brk0), ⟨rfl, (St.seq (St.iff (CJ.inne hO (tgt := 611) (Ex.callV (fun h => unI_ok h) hO m_X7_made i_X7_made (by decide) w_728 (Ex.aloadn hO dL_law_499) (XS.i (Ex.sld hO hX (Ex.aloadn hO dL_law_500) (Ex.bin (Ex.iloadn hO dL_law_501) (Ex.iconst hO dL_law_502 (by decide)) (Bin.add hO dL_law_503)) dL_law_504) (XS.i (Ex.sld hO hX (Ex.aloadn hO dL_law_505) (Ex.bin (Ex.iloadn hO dL_law_506) (Ex.iconst hO dL_law_507 (by decide)) (Bin.add hO dL_law_508)) dL_law_509) (XS.i (Ex.sld hO hX (Ex.aloadn hO dL_law_510) (Ex.bin (Ex.iloadn hO dL_law_511) (Ex.iconst hO dL_law_512 (by decide)) (Bin.add hO dL_law_513)) dL_law_514) XS.nil))) (ALen.cons (ALen.cons (ALen.cons ALen.nil))) dL_law_515 (by decide)) (Ex.callV (fun h => unI_ok h) hO m_X8_made i_X8_made (by decide) w_1054 (Ex.aloadn hO dL_law_518) (XS.i (Ex.sld hO hX (Ex.aloadn hO dL_law_519) (Ex.bin (Ex.iloadn hO dL_law_520) (Ex.iconst hO dL_law_521 (by decide)) (Bin.add hO dL_law_522)) dL_law_523) (XS.i (Ex.sld hO hX (Ex.aloadn hO dL_law_524) (Ex.bin (Ex.iloadn hO dL_law_525) (Ex.iconst hO dL_law_526 (by decide)) (Bin.add hO dL_law_527)) dL_law_528) (XS.i (Ex.sld hO hX (Ex.aloadn hO dL_law_529) (Ex.bin (Ex.iloadn hO dL_law_530) (Ex.iconst hO dL_law_531 (by decide)) (Bin.add hO dL_law_532)) dL_law_533) XS.nil))) (ALen.cons (ALen.cons (ALen.cons ALen.nil))) dL_law_534 (by decide)) dL_law_537 (by decide)) (St.retI (Ex.iconst hO dL_law_540 (by decide)) dL_law_541) St.skip) St.brk0), ⟨rfl, (St.seq (St.iff (CJ.inne hO (tgt := 611) (Ex.callV (fun h => unI_ok h) hO m_X7_count i_X7_count (by decide) w_743 (Ex.aloadn hO dL_law_542) (XS.i (Ex.sld hO hX (Ex.aloadn hO dL_law_543) (Ex.bin (Ex.iloadn hO dL_law_544) (Ex.iconst hO dL_law_545 (by decide)) (Bin.add hO dL_law_546)) dL_law_547) XS.nil) (ALen.cons ALen.nil) dL_law_548 (by decide)) (Ex.callV (fun h => unI_ok h) hO m_X8_count i_X8_count (by decide) w_1062 (Ex.aloadn hO dL_law_551) (XS.i (Ex.sld hO hX (Ex.aloadn hO dL_law_552) (Ex.bin (Ex.iloadn hO dL_law_553) (Ex.iconst hO dL_law_554 (by decide)) (Bin.add hO dL_law_555)) dL_law_556) XS.nil) (ALen.cons ALen.nil) dL_law_557 (by decide)) dL_law_560 (by decide)) (St.retI (Ex.iconst hO dL_law_563 (by decide)) dL_law_564) St.skip) St.brk0), ⟨rfl, (St.seq (St.iff (CJ.inne hO (tgt := 611) (Ex.callV (fun h => unI_ok h) hO m_X7_image i_X7_image (by decide) w_747 (Ex.aloadn hO dL_law_565) (XS.i (Ex.sld hO hX (Ex.aloadn hO dL_law_566) (Ex.bin (Ex.iloadn hO dL_law_567) (Ex.iconst hO dL_law_568 (by decide)) (Bin.add hO dL_law_569)) dL_law_570) XS.nil) (ALen.cons ALen.nil) dL_law_571 (by decide)) (Ex.callV (fun h => unI_ok h) hO m_X8_image i_X8_image (by decide) w_1066 (Ex.aloadn hO dL_law_574) (XS.i (Ex.sld hO hX (Ex.aloadn hO dL_law_575) (Ex.bin (Ex.iloadn hO dL_law_576) (Ex.iconst hO dL_law_577 (by decide)) (Bin.add hO dL_law_578)) dL_law_579) XS.nil) (ALen.cons ALen.nil) dL_law_580 (by decide)) dL_law_583 (by decide)) (St.retI (Ex.iconst hO dL_law_586 (by decide)) dL_law_587) St.skip) St.brk0), ⟨rfl, (St.seq (St.iff (CJ.inne hO (tgt := 611) (Ex.callV (fun h => unI_ok h) hO m_X7_restore i_X7_restore (by decide) w_761 (Ex.aloadn hO dL_law_588) (XS.i (Ex.sld hO hX (Ex.aloadn hO dL_law_589) (Ex.bin (Ex.iloadn hO dL_law_590) (Ex.iconst hO dL_law_591 (by decide)) (Bin.add hO dL_law_592)) dL_law_593) XS.nil) (ALen.cons ALen.nil) dL_law_594 (by decide)) (Ex.callV (fun h => unI_ok h) hO m_X8_restore i_X8_restore (by decide) w_1070 (Ex.aloadn hO dL_law_597) (XS.i (Ex.sld hO hX (Ex.aloadn hO dL_law_598) (Ex.bin (Ex.iloadn hO dL_law_599) (Ex.iconst hO dL_law_600 (by decide)) (Bin.add hO dL_law_601)) dL_law_602) XS.nil) (ALen.cons ALen.nil) dL_law_603 (by decide)) dL_law_606 (by decide)) (St.retI (Ex.iconst hO dL_law_609 (by decide)) dL_law_610) St.skip) St.brk0), trivial⟩⟩⟩⟩⟩⟩⟩⟩⟩⟩⟩⟩⟩⟩⟩⟩⟩⟩⟩ St.brk0) (St.goto hO (St.iinc hO dL_law_611 (by decide) (by decide)) dL_law_614 (by decide)) FU)) (St.retI (Ex.iconst hO dL_law_617 (by decide)) dL_law_618))
/-- the cells that the law makes, from address a on -/
def cells0 (a : Nat) : List Cel := [.inl (6, [.ref (a + 1), .ref (a + 17), .ref (a + 33), .ref (a + 49), .ref (a + 64), .int 0]),
  .inl (0, [.ref (a + 2), .ref (a + 4), .ref (a + 6), .ref (a + 15), .int 0, .int 0]),
  .inl (3, [.ref (a + 3), .int 0]),
  .inr (false, 96, fun _ => 0),
  .inl (3, [.ref (a + 5), .int 0]),
  .inr (false, 33, fun _ => 0),
  .inl (4, [.ref (a + 7), .ref (a + 9), .ref (a + 11), .ref (a + 13)]),
  .inl (5, [.int 48, .int 17, .ref (a + 8), .int 0]),
  .inr (false, 816, fun _ => 0),
  .inl (5, [.int 12, .int 3, .ref (a + 10), .int 0]),
  .inr (false, 36, fun _ => 0),
  .inl (3, [.ref (a + 12), .int 0]),
  .inr (false, 1024, fun _ => 0),
  .inl (5, [.int 3, .int 16, .ref (a + 14), .int 0]),
  .inr (false, 48, fun _ => 0),
  .inl (5, [.int 196, .int 3, .ref (a + 16), .int 0]),
  .inr (false, 588, fun _ => 0),
  .inl (0, [.ref (a + 18), .ref (a + 20), .ref (a + 22), .ref (a + 31), .int 0, .int 0]),
  .inl (3, [.ref (a + 19), .int 0]),
  .inr (false, 96, fun _ => 0),
  .inl (3, [.ref (a + 21), .int 0]),
  .inr (false, 33, fun _ => 0),
  .inl (4, [.ref (a + 23), .ref (a + 25), .ref (a + 27), .ref (a + 29)]),
  .inl (5, [.int 48, .int 17, .ref (a + 24), .int 0]),
  .inr (false, 816, fun _ => 0),
  .inl (5, [.int 12, .int 3, .ref (a + 26), .int 0]),
  .inr (false, 36, fun _ => 0),
  .inl (3, [.ref (a + 28), .int 0]),
  .inr (false, 1024, fun _ => 0),
  .inl (5, [.int 3, .int 16, .ref (a + 30), .int 0]),
  .inr (false, 48, fun _ => 0),
  .inl (5, [.int 196, .int 3, .ref (a + 32), .int 0]),
  .inr (false, 588, fun _ => 0),
  .inl (0, [.ref (a + 34), .ref (a + 36), .ref (a + 38), .ref (a + 47), .int 0, .int 0]),
  .inl (3, [.ref (a + 35), .int 0]),
  .inr (false, 96, fun _ => 0),
  .inl (3, [.ref (a + 37), .int 0]),
  .inr (false, 33, fun _ => 0),
  .inl (4, [.ref (a + 39), .ref (a + 41), .ref (a + 43), .ref (a + 45)]),
  .inl (5, [.int 48, .int 17, .ref (a + 40), .int 0]),
  .inr (false, 816, fun _ => 0),
  .inl (5, [.int 12, .int 3, .ref (a + 42), .int 0]),
  .inr (false, 36, fun _ => 0),
  .inl (3, [.ref (a + 44), .int 0]),
  .inr (false, 1024, fun _ => 0),
  .inl (5, [.int 3, .int 16, .ref (a + 46), .int 0]),
  .inr (false, 48, fun _ => 0),
  .inl (5, [.int 196, .int 3, .ref (a + 48), .int 0]),
  .inr (false, 588, fun _ => 0),
  .inl (2, [.ref (a + 50), .int 0, .int 0, .ref (a + 59), .ref (a + 60), .int 0, .int 0, .int 0, .int 0, .int 0, .int 0, .ref (a + 62), .int 0, .int 0]),
  .inl (4, [.ref (a + 51), .ref (a + 53), .ref (a + 55), .ref (a + 57)]),
  .inl (5, [.int 48, .int 17, .ref (a + 52), .int 0]),
  .inr (false, 816, fun _ => 0),
  .inl (5, [.int 12, .int 3, .ref (a + 54), .int 0]),
  .inr (false, 36, fun _ => 0),
  .inl (3, [.ref (a + 56), .int 0]),
  .inr (false, 1024, fun _ => 0),
  .inl (5, [.int 3, .int 16, .ref (a + 58), .int 0]),
  .inr (false, 48, fun _ => 0),
  .inl (1, [.int 0, .int 0, .int 0, .int 0, .int 0, .int 0]),
  .inl (5, [.int 4, .int 6, .ref (a + 61), .int 0]),
  .inr (false, 24, fun _ => 0),
  .inl (3, [.ref (a + 63), .int 0]),
  .inr (false, 32, fun _ => 0),
  .inl (1, [.int 0, .int 0, .int 0, .int 0, .int 0, .int 0])]
def cells1 (a : Nat) : List Cel := [.inl (7, [.ref (a + 66), .ref (a + 67), .ref (a + 68), .int 0, .int 0, .int 0, .int 0, .int 0, .ref (a + 69), .ref (a + 70), .int 0, .ref (a + 71), .int 0, .int 0, .ref (a + 72), .int 0, .int 0, .int 0, .int 0, .ref (a + 73), .int 0, .int 0, .int 0, .int 0, .ref (a + 74), .int 0]),
  .inr (false, 3293, fun _ => 0),
  .inr (false, 6586, fun _ => 0),
  .inr (true, 2, fun _ => 0),
  .inr (false, 6, fun _ => 0),
  .inr (false, 24, fun _ => 0),
  .inr (false, 32, fun _ => 0),
  .inr (false, 12, fun _ => 0),
  .inr (false, 48, fun _ => 0),
  .inr (false, 32, fun _ => 0)]
/-- what is left to say of the tellings alone -/
def LawGoal : Prop := ∀ (sa : Nat → Nat), (∀ i j : Nat, i < 17 → j < 17 → sa i = sa j → i = j) → ∀ (b Ls : Nat) (xs : Nat → Int32) (a : Nat), Ls ≤ 2048 → ∃ (L' : Lo) (G' : Hp), b_law sa b Ls xs [some (.ref b), some (.ref a), some (.ref (a + 65)), none] (ov a (cells0 a ++ cells1 a) (fun _ => none)) = some (.inr (some (.int 1)), L', G')
