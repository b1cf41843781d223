/-! The reference's reader: a part begins, a policy is read. -/
/-- all that is known while a policy is read, at the character q -/
def rI (t q M O : Nat) (kd ar cn en cl op : Nat → Nat) (ch : Nat → Nat → Nat) (u : ab_S) : Prop := rS M O (lcn kd M) kd ar cn op ch u ∧ rt M O kd ar cn en cl op ch ∧ lcn kd M ≤ 10 ∧ 3 * M ≤ q ∧ q ≤ t ∧ (0 < O → op 0 = 0) ∧ ∀ p, p < M → kd p = 7 → 1 ≤ ar p ∧ ar p ≤ 4
/-- there is room for a part more -/
def rR (O : Nat) (kd cn op : Nat → Nat) : Prop := 0 < O ∧ cn (op (O - 1)) < 4 ∧ (kd (op (O - 1)) < 7 → cn (op (O - 1)) < 2)
theorem mr_nn {k : Nat} (h : k < 7) : mr_n k = nI (ab_sl.getD k 0) := by
  have h' : k = 0 ∨ k = 1 ∨ k = 2 ∨ k = 3 ∨ k = 4 ∨ k = 5 ∨ k = 6 := by omega
  rcases h' with rfl | rfl | rfl | rfl | rfl | rfl | rfl <;> decide
theorem ab_sl3 {i : Nat} (h : i < 7) : 3 ≤ ab_sl.getD i 0 := by
  have h' : i = 0 ∨ i = 1 ∨ i = 2 ∨ i = 3 ∨ i = 4 ∨ i = 5 ∨ i = 6 := by omega
  rcases h' with rfl | rfl | rfl | rfl | rfl | rfl | rfl <;> decide
theorem rS.cn4 {M O : Nat} {kd ar cn en cl op : Nat → Nat} {ch : Nat → Nat → Nat} (R : rt M O kd ar cn en cl op ch) {p : Nat} (hp : p < M) : cn p ≤ 4 := by
  obtain ⟨-, a2, a3, -⟩ := R.1 p hp
  by_cases z : kd p < 5
  · rw [(a2 z).1]; decide
  · exact (a3 (by omega)).1
section SaMBegin
variable {l : Launch} {D : va_G} {ca : Nat → ClassId}
abbrev b_MO_begin : ByteArray := prog_10_method_6_code
def y_MO_begin : MethodName := ⟨"PolicyForgeModel", "begin", "(I)I"⟩
theorem d_MO_begin_0 : decode b_MO_begin 0 = .ok (.iconst 0, 1) := by decide +kernel
theorem d_MO_begin_1 : decode b_MO_begin 1 = .ok (.istore_n 2, 1) := by decide +kernel
theorem d_MO_begin_2 : decode b_MO_begin 2 = .ok (.iconst 0, 1) := by decide +kernel
theorem d_MO_begin_3 : decode b_MO_begin 3 = .ok (.istore_n 3, 1) := by decide +kernel
theorem d_MO_begin_4 : decode b_MO_begin 4 = .ok (.iconst 1, 1) := by decide +kernel
theorem d_MO_begin_5 : decode b_MO_begin 5 = .ok (.istore 4, 2) := by decide +kernel
theorem d_MO_begin_7 : decode b_MO_begin 7 = .ok (.iload 4, 2) := by decide +kernel
theorem d_MO_begin_9 : decode b_MO_begin 9 = .ok (.bipush 8, 2) := by decide +kernel
theorem d_MO_begin_11 : decode b_MO_begin 11 = .ok (.if_icmp .ge 43, 3) := by decide +kernel
theorem d_MO_begin_14 : decode b_MO_begin 14 = .ok (.aload_n 0, 1) := by decide +kernel
theorem d_MO_begin_15 : decode b_MO_begin 15 = .ok (.iload_n 1, 1) := by decide +kernel
theorem d_MO_begin_16 : decode b_MO_begin 16 = .ok (.iload 4, 2) := by decide +kernel
theorem d_MO_begin_18 : decode b_MO_begin 18 = .ok (.invokestatic 163, 3) := by decide +kernel
theorem d_MO_begin_21 : decode b_MO_begin 21 = .ok (.invokevirtual 167, 3) := by decide +kernel
theorem d_MO_begin_24 : decode b_MO_begin 24 = .ok (.istore 5, 2) := by decide +kernel
theorem d_MO_begin_26 : decode b_MO_begin 26 = .ok (.iload 5, 2) := by decide +kernel
theorem d_MO_begin_28 : decode b_MO_begin 28 = .ok (.iload_n 2, 1) := by decide +kernel
theorem d_MO_begin_29 : decode b_MO_begin 29 = .ok (.if_icmp .le 6, 3) := by decide +kernel
theorem d_MO_begin_32 : decode b_MO_begin 32 = .ok (.iload 5, 2) := by decide +kernel
theorem d_MO_begin_34 : decode b_MO_begin 34 = .ok (.istore_n 2, 1) := by decide +kernel
theorem d_MO_begin_35 : decode b_MO_begin 35 = .ok (.iload 5, 2) := by decide +kernel
theorem d_MO_begin_37 : decode b_MO_begin 37 = .ok (.iload 4, 2) := by decide +kernel
theorem d_MO_begin_39 : decode b_MO_begin 39 = .ok (.invokestatic 171, 3) := by decide +kernel
theorem d_MO_begin_42 : decode b_MO_begin 42 = .ok (.if_icmp .ne 6, 3) := by decide +kernel
theorem d_MO_begin_45 : decode b_MO_begin 45 = .ok (.iload 4, 2) := by decide +kernel
theorem d_MO_begin_47 : decode b_MO_begin 47 = .ok (.istore_n 3, 1) := by decide +kernel
theorem d_MO_begin_48 : decode b_MO_begin 48 = .ok (.iinc 4 1, 3) := by decide +kernel
theorem d_MO_begin_51 : decode b_MO_begin 51 = .ok (.goto (-44), 3) := by decide +kernel
theorem d_MO_begin_54 : decode b_MO_begin 54 = .ok (.iload_n 3, 1) := by decide +kernel
theorem d_MO_begin_55 : decode b_MO_begin 55 = .ok (.ifCond .ne 9, 3) := by decide +kernel
theorem d_MO_begin_58 : decode b_MO_begin 58 = .ok (.iconst (-1), 1) := by decide +kernel
theorem d_MO_begin_59 : decode b_MO_begin 59 = .ok (.iload_n 1, 1) := by decide +kernel
theorem d_MO_begin_60 : decode b_MO_begin 60 = .ok (.iload_n 2, 1) := by decide +kernel
theorem d_MO_begin_61 : decode b_MO_begin 61 = .ok (.iadd, 1) := by decide +kernel
theorem d_MO_begin_62 : decode b_MO_begin 62 = .ok (.isub, 1) := by decide +kernel
theorem d_MO_begin_63 : decode b_MO_begin 63 = .ok (.ireturn, 1) := by decide +kernel
theorem d_MO_begin_64 : decode b_MO_begin 64 = .ok (.iload_n 3, 1) := by decide +kernel
theorem d_MO_begin_65 : decode b_MO_begin 65 = .ok (.iconst 5, 1) := by decide +kernel
theorem d_MO_begin_66 : decode b_MO_begin 66 = .ok (.if_icmp .ge 16, 3) := by decide +kernel
theorem d_MO_begin_69 : decode b_MO_begin 69 = .ok (.aload_n 0, 1) := by decide +kernel
theorem d_MO_begin_70 : decode b_MO_begin 70 = .ok (.getfield 30, 3) := by decide +kernel
theorem d_MO_begin_73 : decode b_MO_begin 73 = .ok (.bipush 10, 2) := by decide +kernel
theorem d_MO_begin_75 : decode b_MO_begin 75 = .ok (.if_icmp .ne 7, 3) := by decide +kernel
theorem d_MO_begin_78 : decode b_MO_begin 78 = .ok (.iconst (-1), 1) := by decide +kernel
theorem d_MO_begin_79 : decode b_MO_begin 79 = .ok (.iload_n 1, 1) := by decide +kernel
theorem d_MO_begin_80 : decode b_MO_begin 80 = .ok (.isub, 1) := by decide +kernel
theorem d_MO_begin_81 : decode b_MO_begin 81 = .ok (.ireturn, 1) := by decide +kernel
theorem d_MO_begin_82 : decode b_MO_begin 82 = .ok (.aload_n 0, 1) := by decide +kernel
theorem d_MO_begin_83 : decode b_MO_begin 83 = .ok (.getfield 129, 3) := by decide +kernel
theorem d_MO_begin_86 : decode b_MO_begin 86 = .ok (.ifCond .le 53, 3) := by decide +kernel
theorem d_MO_begin_89 : decode b_MO_begin 89 = .ok (.aload_n 0, 1) := by decide +kernel
theorem d_MO_begin_90 : decode b_MO_begin 90 = .ok (.getfield 126, 3) := by decide +kernel
theorem d_MO_begin_93 : decode b_MO_begin 93 = .ok (.aload_n 0, 1) := by decide +kernel
theorem d_MO_begin_94 : decode b_MO_begin 94 = .ok (.getfield 129, 3) := by decide +kernel
theorem d_MO_begin_97 : decode b_MO_begin 97 = .ok (.iconst 1, 1) := by decide +kernel
theorem d_MO_begin_98 : decode b_MO_begin 98 = .ok (.isub, 1) := by decide +kernel
theorem d_MO_begin_99 : decode b_MO_begin 99 = .ok (.iaload, 1) := by decide +kernel
theorem d_MO_begin_100 : decode b_MO_begin 100 = .ok (.istore 4, 2) := by decide +kernel
theorem d_MO_begin_102 : decode b_MO_begin 102 = .ok (.aload_n 0, 1) := by decide +kernel
theorem d_MO_begin_103 : decode b_MO_begin 103 = .ok (.getfield 42, 3) := by decide +kernel
theorem d_MO_begin_106 : decode b_MO_begin 106 = .ok (.iconst 4, 1) := by decide +kernel
theorem d_MO_begin_107 : decode b_MO_begin 107 = .ok (.iload 4, 2) := by decide +kernel
theorem d_MO_begin_109 : decode b_MO_begin 109 = .ok (.imul, 1) := by decide +kernel
theorem d_MO_begin_110 : decode b_MO_begin 110 = .ok (.aload_n 0, 1) := by decide +kernel
theorem d_MO_begin_111 : decode b_MO_begin 111 = .ok (.getfield 39, 3) := by decide +kernel
theorem d_MO_begin_114 : decode b_MO_begin 114 = .ok (.iload 4, 2) := by decide +kernel
theorem d_MO_begin_116 : decode b_MO_begin 116 = .ok (.iaload, 1) := by decide +kernel
theorem d_MO_begin_117 : decode b_MO_begin 117 = .ok (.iadd, 1) := by decide +kernel
theorem d_MO_begin_118 : decode b_MO_begin 118 = .ok (.aload_n 0, 1) := by decide +kernel
theorem d_MO_begin_119 : decode b_MO_begin 119 = .ok (.getfield 27, 3) := by decide +kernel
theorem d_MO_begin_122 : decode b_MO_begin 122 = .ok (.iastore, 1) := by decide +kernel
theorem d_MO_begin_123 : decode b_MO_begin 123 = .ok (.aload_n 0, 1) := by decide +kernel
theorem d_MO_begin_124 : decode b_MO_begin 124 = .ok (.getfield 39, 3) := by decide +kernel
theorem d_MO_begin_127 : decode b_MO_begin 127 = .ok (.iload 4, 2) := by decide +kernel
theorem d_MO_begin_129 : decode b_MO_begin 129 = .ok (.aload_n 0, 1) := by decide +kernel
theorem d_MO_begin_130 : decode b_MO_begin 130 = .ok (.getfield 39, 3) := by decide +kernel
theorem d_MO_begin_133 : decode b_MO_begin 133 = .ok (.iload 4, 2) := by decide +kernel
theorem d_MO_begin_135 : decode b_MO_begin 135 = .ok (.iaload, 1) := by decide +kernel
theorem d_MO_begin_136 : decode b_MO_begin 136 = .ok (.iconst 1, 1) := by decide +kernel
theorem d_MO_begin_137 : decode b_MO_begin 137 = .ok (.iadd, 1) := by decide +kernel
theorem d_MO_begin_138 : decode b_MO_begin 138 = .ok (.iastore, 1) := by decide +kernel
theorem d_MO_begin_139 : decode b_MO_begin 139 = .ok (.aload_n 0, 1) := by decide +kernel
theorem d_MO_begin_140 : decode b_MO_begin 140 = .ok (.getfield 33, 3) := by decide +kernel
theorem d_MO_begin_143 : decode b_MO_begin 143 = .ok (.aload_n 0, 1) := by decide +kernel
theorem d_MO_begin_144 : decode b_MO_begin 144 = .ok (.getfield 27, 3) := by decide +kernel
theorem d_MO_begin_147 : decode b_MO_begin 147 = .ok (.iload_n 3, 1) := by decide +kernel
theorem d_MO_begin_148 : decode b_MO_begin 148 = .ok (.iastore, 1) := by decide +kernel
theorem d_MO_begin_149 : decode b_MO_begin 149 = .ok (.aload_n 0, 1) := by decide +kernel
theorem d_MO_begin_150 : decode b_MO_begin 150 = .ok (.getfield 39, 3) := by decide +kernel
theorem d_MO_begin_153 : decode b_MO_begin 153 = .ok (.aload_n 0, 1) := by decide +kernel
theorem d_MO_begin_154 : decode b_MO_begin 154 = .ok (.getfield 27, 3) := by decide +kernel
theorem d_MO_begin_157 : decode b_MO_begin 157 = .ok (.iconst 0, 1) := by decide +kernel
theorem d_MO_begin_158 : decode b_MO_begin 158 = .ok (.iastore, 1) := by decide +kernel
theorem d_MO_begin_159 : decode b_MO_begin 159 = .ok (.aload_n 0, 1) := by decide +kernel
theorem d_MO_begin_160 : decode b_MO_begin 160 = .ok (.getfield 36, 3) := by decide +kernel
theorem d_MO_begin_163 : decode b_MO_begin 163 = .ok (.aload_n 0, 1) := by decide +kernel
theorem d_MO_begin_164 : decode b_MO_begin 164 = .ok (.getfield 27, 3) := by decide +kernel
theorem d_MO_begin_167 : decode b_MO_begin 167 = .ok (.iconst 0, 1) := by decide +kernel
theorem d_MO_begin_168 : decode b_MO_begin 168 = .ok (.iastore, 1) := by decide +kernel
theorem d_MO_begin_169 : decode b_MO_begin 169 = .ok (.iload_n 1, 1) := by decide +kernel
theorem d_MO_begin_170 : decode b_MO_begin 170 = .ok (.iload_n 3, 1) := by decide +kernel
theorem d_MO_begin_171 : decode b_MO_begin 171 = .ok (.invokestatic 171, 3) := by decide +kernel
theorem d_MO_begin_174 : decode b_MO_begin 174 = .ok (.iadd, 1) := by decide +kernel
theorem d_MO_begin_175 : decode b_MO_begin 175 = .ok (.istore 4, 2) := by decide +kernel
theorem d_MO_begin_177 : decode b_MO_begin 177 = .ok (.aload_n 0, 1) := by decide +kernel
theorem d_MO_begin_178 : decode b_MO_begin 178 = .ok (.dup, 1) := by decide +kernel
theorem d_MO_begin_179 : decode b_MO_begin 179 = .ok (.getfield 27, 3) := by decide +kernel
theorem d_MO_begin_182 : decode b_MO_begin 182 = .ok (.iconst 1, 1) := by decide +kernel
theorem d_MO_begin_183 : decode b_MO_begin 183 = .ok (.iadd, 1) := by decide +kernel
theorem d_MO_begin_184 : decode b_MO_begin 184 = .ok (.putfield 27, 3) := by decide +kernel
theorem d_MO_begin_187 : decode b_MO_begin 187 = .ok (.iload_n 3, 1) := by decide +kernel
theorem d_MO_begin_188 : decode b_MO_begin 188 = .ok (.iconst 5, 1) := by decide +kernel
theorem d_MO_begin_189 : decode b_MO_begin 189 = .ok (.if_icmp .ge 16, 3) := by decide +kernel
theorem d_MO_begin_192 : decode b_MO_begin 192 = .ok (.aload_n 0, 1) := by decide +kernel
theorem d_MO_begin_193 : decode b_MO_begin 193 = .ok (.aload_n 0, 1) := by decide +kernel
theorem d_MO_begin_194 : decode b_MO_begin 194 = .ok (.getfield 27, 3) := by decide +kernel
theorem d_MO_begin_197 : decode b_MO_begin 197 = .ok (.iconst 1, 1) := by decide +kernel
theorem d_MO_begin_198 : decode b_MO_begin 198 = .ok (.isub, 1) := by decide +kernel
theorem d_MO_begin_199 : decode b_MO_begin 199 = .ok (.iload 4, 2) := by decide +kernel
theorem d_MO_begin_201 : decode b_MO_begin 201 = .ok (.invokevirtual 174, 3) := by decide +kernel
theorem d_MO_begin_204 : decode b_MO_begin 204 = .ok (.ireturn, 1) := by decide +kernel
theorem d_MO_begin_205 : decode b_MO_begin 205 = .ok (.aload_n 0, 1) := by decide +kernel
theorem d_MO_begin_206 : decode b_MO_begin 206 = .ok (.getfield 126, 3) := by decide +kernel
theorem d_MO_begin_209 : decode b_MO_begin 209 = .ok (.aload_n 0, 1) := by decide +kernel
theorem d_MO_begin_210 : decode b_MO_begin 210 = .ok (.getfield 129, 3) := by decide +kernel
theorem d_MO_begin_213 : decode b_MO_begin 213 = .ok (.aload_n 0, 1) := by decide +kernel
theorem d_MO_begin_214 : decode b_MO_begin 214 = .ok (.getfield 27, 3) := by decide +kernel
theorem d_MO_begin_217 : decode b_MO_begin 217 = .ok (.iconst 1, 1) := by decide +kernel
theorem d_MO_begin_218 : decode b_MO_begin 218 = .ok (.isub, 1) := by decide +kernel
theorem d_MO_begin_219 : decode b_MO_begin 219 = .ok (.iastore, 1) := by decide +kernel
theorem d_MO_begin_220 : decode b_MO_begin 220 = .ok (.aload_n 0, 1) := by decide +kernel
theorem d_MO_begin_221 : decode b_MO_begin 221 = .ok (.dup, 1) := by decide +kernel
theorem d_MO_begin_222 : decode b_MO_begin 222 = .ok (.getfield 129, 3) := by decide +kernel
theorem d_MO_begin_225 : decode b_MO_begin 225 = .ok (.iconst 1, 1) := by decide +kernel
theorem d_MO_begin_226 : decode b_MO_begin 226 = .ok (.iadd, 1) := by decide +kernel
theorem d_MO_begin_227 : decode b_MO_begin 227 = .ok (.putfield 129, 3) := by decide +kernel
theorem d_MO_begin_230 : decode b_MO_begin 230 = .ok (.iload_n 3, 1) := by decide +kernel
theorem d_MO_begin_231 : decode b_MO_begin 231 = .ok (.bipush 7, 2) := by decide +kernel
theorem d_MO_begin_233 : decode b_MO_begin 233 = .ok (.if_icmp .ge 6, 3) := by decide +kernel
theorem d_MO_begin_236 : decode b_MO_begin 236 = .ok (.iload 4, 2) := by decide +kernel
theorem d_MO_begin_238 : decode b_MO_begin 238 = .ok (.ireturn, 1) := by decide +kernel
theorem d_MO_begin_239 : decode b_MO_begin 239 = .ok (.aload_n 0, 1) := by decide +kernel
theorem d_MO_begin_240 : decode b_MO_begin 240 = .ok (.iload 4, 2) := by decide +kernel
theorem d_MO_begin_242 : decode b_MO_begin 242 = .ok (.invokevirtual 145, 3) := by decide +kernel
theorem d_MO_begin_245 : decode b_MO_begin 245 = .ok (.istore 5, 2) := by decide +kernel
theorem d_MO_begin_247 : decode b_MO_begin 247 = .ok (.iload 5, 2) := by decide +kernel
theorem d_MO_begin_249 : decode b_MO_begin 249 = .ok (.bipush 49, 2) := by decide +kernel
theorem d_MO_begin_251 : decode b_MO_begin 251 = .ok (.if_icmp .lt 10, 3) := by decide +kernel
theorem d_MO_begin_254 : decode b_MO_begin 254 = .ok (.iload 5, 2) := by decide +kernel
theorem d_MO_begin_256 : decode b_MO_begin 256 = .ok (.bipush 52, 2) := by decide +kernel
theorem d_MO_begin_258 : decode b_MO_begin 258 = .ok (.if_icmp .le 8, 3) := by decide +kernel
theorem d_MO_begin_261 : decode b_MO_begin 261 = .ok (.iconst (-1), 1) := by decide +kernel
theorem d_MO_begin_262 : decode b_MO_begin 262 = .ok (.iload 4, 2) := by decide +kernel
theorem d_MO_begin_264 : decode b_MO_begin 264 = .ok (.isub, 1) := by decide +kernel
theorem d_MO_begin_265 : decode b_MO_begin 265 = .ok (.ireturn, 1) := by decide +kernel
theorem d_MO_begin_266 : decode b_MO_begin 266 = .ok (.aload_n 0, 1) := by decide +kernel
theorem d_MO_begin_267 : decode b_MO_begin 267 = .ok (.getfield 36, 3) := by decide +kernel
theorem d_MO_begin_270 : decode b_MO_begin 270 = .ok (.aload_n 0, 1) := by decide +kernel
theorem d_MO_begin_271 : decode b_MO_begin 271 = .ok (.getfield 27, 3) := by decide +kernel
theorem d_MO_begin_274 : decode b_MO_begin 274 = .ok (.iconst 1, 1) := by decide +kernel
theorem d_MO_begin_275 : decode b_MO_begin 275 = .ok (.isub, 1) := by decide +kernel
theorem d_MO_begin_276 : decode b_MO_begin 276 = .ok (.iload 5, 2) := by decide +kernel
theorem d_MO_begin_278 : decode b_MO_begin 278 = .ok (.bipush 48, 2) := by decide +kernel
theorem d_MO_begin_280 : decode b_MO_begin 280 = .ok (.isub, 1) := by decide +kernel
theorem d_MO_begin_281 : decode b_MO_begin 281 = .ok (.iastore, 1) := by decide +kernel
theorem d_MO_begin_282 : decode b_MO_begin 282 = .ok (.aload_n 0, 1) := by decide +kernel
theorem d_MO_begin_283 : decode b_MO_begin 283 = .ok (.iload 4, 2) := by decide +kernel
theorem d_MO_begin_285 : decode b_MO_begin 285 = .ok (.iconst 1, 1) := by decide +kernel
theorem d_MO_begin_286 : decode b_MO_begin 286 = .ok (.iadd, 1) := by decide +kernel
theorem d_MO_begin_287 : decode b_MO_begin 287 = .ok (.invokevirtual 145, 3) := by decide +kernel
theorem d_MO_begin_290 : decode b_MO_begin 290 = .ok (.bipush 44, 2) := by decide +kernel
theorem d_MO_begin_292 : decode b_MO_begin 292 = .ok (.if_icmp .ne 10, 3) := by decide +kernel
theorem d_MO_begin_295 : decode b_MO_begin 295 = .ok (.iload 4, 2) := by decide +kernel
theorem d_MO_begin_297 : decode b_MO_begin 297 = .ok (.iconst 2, 1) := by decide +kernel
theorem d_MO_begin_298 : decode b_MO_begin 298 = .ok (.iadd, 1) := by decide +kernel
theorem d_MO_begin_299 : decode b_MO_begin 299 = .ok (.goto 9, 3) := by decide +kernel
theorem d_MO_begin_302 : decode b_MO_begin 302 = .ok (.iconst (-1), 1) := by decide +kernel
theorem d_MO_begin_303 : decode b_MO_begin 303 = .ok (.iload 4, 2) := by decide +kernel
theorem d_MO_begin_305 : decode b_MO_begin 305 = .ok (.iconst 1, 1) := by decide +kernel
theorem d_MO_begin_306 : decode b_MO_begin 306 = .ok (.iadd, 1) := by decide +kernel
theorem d_MO_begin_307 : decode b_MO_begin 307 = .ok (.isub, 1) := by decide +kernel
theorem d_MO_begin_308 : decode b_MO_begin 308 = .ok (.ireturn, 1) := by decide +kernel
theorem ls_MO_163 : ab_ls "PolicyForgeModel" 163 y_MO_wordOf b_MO_wordOf 1 (some FieldType.long) 1 := ⟨List.forall_mem_cons.mpr ⟨(ab_in 1080 (by decide +kernel) (by decide +kernel)), List.forall_mem_cons.mpr ⟨(ab_in 1081 (by decide +kernel) (by decide +kernel)), List.forall_mem_cons.mpr ⟨(ab_in 100 (by decide +kernel) (by decide +kernel)), List.forall_mem_cons.mpr ⟨(ab_in 1082 (by decide +kernel) (by decide +kernel)), fun _ h => absurd h List.not_mem_nil⟩⟩⟩⟩, ⟨by decide +kernel, by decide +kernel, by decide +kernel⟩, by decide⟩
theorem lk_MO_167 : ab_lk "PolicyForgeModel" 167 y_MO_fits b_MO_fits 7 (some FieldType.int) 2 17 := ⟨⟨rfl, T_MO, 44, rfl⟩, List.forall_mem_cons.mpr ⟨(ab_in 1090 (by decide +kernel) (by decide +kernel)), List.forall_mem_cons.mpr ⟨(ab_in 1092 (by decide +kernel) (by decide +kernel)), List.forall_mem_cons.mpr ⟨(ab_in 48 (by decide +kernel) (by decide +kernel)), List.forall_mem_cons.mpr ⟨(ab_in 100 (by decide +kernel) (by decide +kernel)), List.forall_mem_cons.mpr ⟨(ab_in 1093 (by decide +kernel) (by decide +kernel)), fun _ h => absurd h List.not_mem_nil⟩⟩⟩⟩⟩, ⟨by decide +kernel, by decide +kernel, by decide +kernel⟩, by decide⟩
theorem ls_MO_171 : ab_ls "PolicyForgeModel" 171 y_MO_lettersOf b_MO_lettersOf 1 (some FieldType.int) 1 := ⟨List.forall_mem_cons.mpr ⟨(ab_in 1098 (by decide +kernel) (by decide +kernel)), List.forall_mem_cons.mpr ⟨(ab_in 1099 (by decide +kernel) (by decide +kernel)), List.forall_mem_cons.mpr ⟨(ab_in 100 (by decide +kernel) (by decide +kernel)), List.forall_mem_cons.mpr ⟨(ab_in 1100 (by decide +kernel) (by decide +kernel)), fun _ h => absurd h List.not_mem_nil⟩⟩⟩⟩, ⟨by decide +kernel, by decide +kernel, by decide +kernel⟩, by decide⟩
theorem fl_MO_129 : ab_fl "PolicyForgeModel" 129 17 39 0 := ⟨rfl, R_MO, T_MO, 44, rfl, uw_MO, by decide, rfl, (ab_in 965 (by decide +kernel) (by decide +kernel))⟩
theorem fl_MO_126 : ab_fl "PolicyForgeModel" 126 17 38 1 := ⟨rfl, R_MO, T_MO, 44, rfl, uw_MO, by decide, rfl, (ab_in 964 (by decide +kernel) (by decide +kernel))⟩
theorem lk_MO_174 : ab_lk "PolicyForgeModel" 174 y_MO_leaf b_MO_leaf 6 (some FieldType.int) 2 17 := ⟨⟨rfl, T_MO, 44, rfl⟩, List.forall_mem_cons.mpr ⟨(ab_in 1101 (by decide +kernel) (by decide +kernel)), List.forall_mem_cons.mpr ⟨(ab_in 1103 (by decide +kernel) (by decide +kernel)), List.forall_mem_cons.mpr ⟨(ab_in 50 (by decide +kernel) (by decide +kernel)), List.forall_mem_cons.mpr ⟨(ab_in 100 (by decide +kernel) (by decide +kernel)), List.forall_mem_cons.mpr ⟨(ab_in 1104 (by decide +kernel) (by decide +kernel)), fun _ h => absurd h List.not_mem_nil⟩⟩⟩⟩⟩, ⟨by decide +kernel, by decide +kernel, by decide +kernel⟩, by decide⟩
set_option maxRecDepth 100000 in
set_option maxHeartbeats 4000000 in
theorem s_MO_begin (u : ab_S) (q : Nat) (t : Nat) (ht : t ≤ 100) (et : u.1 17 0 2 = nI t) (M O : Nat) (kd ar cn en cl op : Nat → Nat) (ch : Nat → Nat → Nat) (h : mR u.2.1) (I : rI t q M O kd ar cn en cl op ch u) (hO : (O = 0 ∧ M = 0) ∨ rR O kd cn op) : ab_C false l D ca y_MO_begin b_MO_begin 6 (some FieldType.int) 2 ab_nQ u [ab_O 17 0, ab_I (nI q)] (fun u' v => gP [5, 6, 39, 101, 102, 103, 104, 120] u u' ∧ ∃ x : Int32, (x < 0 ∨ ∃ (q' O' : Nat) (kd' ar' cn' en' cl' op' : Nat → Nat) (ch' : Nat → Nat → Nat), x = nI q' ∧ q + 3 ≤ q' ∧ rI t q' (M + 1) O' kd' ar' cn' en' cl' op' ch' u' ∧ (O' = O ∨ (O' = O + 1 ∧ rR O' kd' cn' op'))) ∧ v = some (ab_I x)) := by
  refine ab_C.of (by decide) (Nat.le_of_ble_eq_true rfl) ?_
  intro p e s m args below meth c ad X hZ hr0 hlk
  have P0 : gP [5, 6, 39, 101, 102, 103, 104, 120] u u := gP.rf h
  obtain ⟨S, R, hL, hM, hqt, h0, hA⟩ := I
  obtain ⟨eM, eL, eO, eS, eop⟩ := S
  have bad : ∀ (u1 : ab_S) (y : Nat), gP [5, 6, 39, 101, 102, 103, 104, 120] u u1 → y ≤ 1000 → ((fun u' v => gP [5, 6, 39, 101, 102, 103, 104, 120] u u' ∧ ∃ x : Int32, (x < 0 ∨ ∃ (q' O' : Nat) (kd' ar' cn' en' cl' op' : Nat → Nat) (ch' : Nat → Nat → Nat), x = nI q' ∧ q + 3 ≤ q' ∧ rI t q' (M + 1) O' kd' ar' cn' en' cl' op' ch' u' ∧ (O' = O ∨ (O' = O + 1 ∧ rR O' kd' cn' op'))) ∧ v = some (ab_I x)) : ab_S → Option ab_V → Prop) u1 (some (ab_I (-1 - nI y))) := fun u1 y a1 hy => ⟨a1, _, Or.inl (neg_sub y (by omega)), rfl⟩
  have OM : O ≤ M := by
    by_cases z : O = 0
    · omega
    · have mono := rt.mono (h := R.2)
      have : ∀ j, j < O → j ≤ op j := by
        intro j
        induction j with
        | zero => intro _; exact Nat.zero_le _
        | succ j ih => intro hj; have := ih (by omega); have := mono (j + 1) j (by omega) hj; omega
      have z1 := this (O - 1) (by omega)
      have z2 := (R.2.2.1 (O - 1) (by omega)).1
      omega
  have K139 : ∀ (kk : Nat) (u1 : ab_S), kk < 7 → q + ab_sl.getD kk 0 ≤ t → (kk + 1 < 5 → lcn kd M < 10) → gP [5, 6, 39, 101, 102, 103, 104, 120] u u1 → u1.1 17 0 5 = nI M → u1.1 17 0 6 = nI (lcn kd M) → u1.1 17 0 39 = nI O → (∀ p, p < M → u1.1 18 1 p = nI (kd p) ∧ u1.1 18 2 p = nI (ar p) ∧ u1.1 18 3 p = nI ((if 0 < O then up1 cn (op (O - 1)) (cn (op (O - 1)) + 1) else cn) p) ∧ ∀ i, i < (if 0 < O then up1 cn (op (O - 1)) (cn (op (O - 1)) + 1) else cn) p → u1.1 18 4 (4 * p + i) = nI ((if 0 < O then up2 ch (op (O - 1)) (cn (op (O - 1))) M else ch) p i)) → (∀ j, j < O → u1.1 18 20 j = nI (op j)) → ab_J p l e (ab_rm 2 0 0) s m args below meth c (MQ below (ab_Q D ca ad ab_nQ s.heap.size (fun u' v => gP [5, 6, 39, 101, 102, 103, 104, 120] u u' ∧ ∃ x : Int32, (x < 0 ∨ ∃ (q' O' : Nat) (kd' ar' cn' en' cl' op' : Nat → Nat) (ch' : Nat → Nat → Nat), x = nI q' ∧ q + 3 ≤ q' ∧ rI t q' (M + 1) O' kd' ar' cn' en' cl' op' ch' u' ∧ (O' = O ∨ (O' = O + 1 ∧ rR O' kd' cn' op'))) ∧ v = some (ab_I x))) args s 0 0 (ab_A ad ab_nQ s.heap.size)) D ca (ab_A ad ab_nQ s.heap.size) s.heap 6 0 0 ad ab_nQ u1 139 [(3, ab_I (nI (kk + 1))), (0, ab_O 17 0), (1, ab_I (nI q))] [] := by
    intro kk u1 hkk hqk hL9 P1 b1 b2 b3 b4 b5
    have l3 := ab_sl3 hkk
    have l6 := ab_sl6 hkk
    have add := fun a ha => rt.add R (kk + 1) a (by omega) (by omega) ha (fun z => by rcases hO with z1 | z1; exact z1.2; exact absurd z1.1 (by omega)) (fun z => by rcases hO with z1 | z1; (exact absurd z1.1 (by omega)); exact z1.2) (up1 (if 0 < O then up1 cn (op (O - 1)) (cn (op (O - 1)) + 1) else cn) M 0) (if 0 < O then up2 ch (op (O - 1)) (cn (op (O - 1))) M else ch) rfl rfl
    have lc1 : lcn (up1 kd M (kk + 1)) (M + 1) = lcn kd M + (if kk + 1 < 5 then 1 else 0) := by
      show lcn (up1 kd M (kk + 1)) M + (if up1 kd M (kk + 1) M < 5 then 1 else 0) = _
      rw [up1_s, lcn_congr M (fun i hi => up1_n _ (by omega))]
    have hA2 : ∀ a, (kk + 1 = 7 → 1 ≤ a ∧ a ≤ 4) → ∀ p, p < M + 1 → up1 kd M (kk + 1) p = 7 → 1 ≤ up1 ar M a p ∧ up1 ar M a p ≤ 4 := fun a ha p hp hk => by
      by_cases z : p = M
      · rw [z, up1_s] at hk ⊢; exact ha hk
      · rw [up1_n _ z] at hk ⊢; exact hA p (by omega) hk
    -- the cells of the parts, once kind, count and argument of the new one are there
    have cells : ∀ (u2 : ab_S) (a : Nat), (∀ p, p < M → u2.1 18 1 p = u1.1 18 1 p ∧ u2.1 18 2 p = u1.1 18 2 p ∧ u2.1 18 3 p = u1.1 18 3 p) → (∀ x, u2.1 18 4 x = u1.1 18 4 x) → u2.1 18 1 M = nI (kk + 1) → u2.1 18 2 M = nI a → u2.1 18 3 M = nI 0 → ∀ p, p < M + 1 → u2.1 18 1 p = nI (up1 kd M (kk + 1) p) ∧ u2.1 18 2 p = nI (up1 ar M a p) ∧ u2.1 18 3 p = nI (up1 (if 0 < O then up1 cn (op (O - 1)) (cn (op (O - 1)) + 1) else cn) M 0 p) ∧ ∀ i, i < up1 (if 0 < O then up1 cn (op (O - 1)) (cn (op (O - 1)) + 1) else cn) M 0 p → u2.1 18 4 (4 * p + i) = nI ((if 0 < O then up2 ch (op (O - 1)) (cn (op (O - 1))) M else ch) p i) := by
      intro u2 a x1 x2 x3 x4 x5 p hp
      by_cases z : p = M
      · rw [z, up1_s, up1_s, up1_s]
        exact ⟨x3, x4, x5, fun i hi => absurd hi (by omega)⟩
      · obtain ⟨y1, y2, y3, y4⟩ := b4 p (by omega)
        obtain ⟨w1, w2, w3⟩ := x1 p (by omega)
        rw [up1_n _ z, up1_n _ z, up1_n _ z]
        exact ⟨w1.trans y1, w2.trans y2, w3.trans y3, fun i hi => (x2 _).trans (y4 i hi)⟩
    refine ab_aload_n X 1 d_MO_begin_139 rfl rfl ?_
    refine ab_gR X fl_MO_33 d_MO_begin_140 (by first | assumption | decide | (show _ < 124; omega) | (show _ < 61; omega) | (show _ < 20; omega)) (P1.1.mo7) ?_
    refine ab_aload_n X 1 d_MO_begin_143 rfl rfl ?_
    refine ab_gI X fl_MO_27 d_MO_begin_144 (by first | assumption | decide | (show _ < 124; omega) | (show _ < 61; omega) | (show _ < 20; omega)) (b1) ?_
    refine ab_iload_n X 0 d_MO_begin_147 rfl rfl ?_
    refine ab_iast X (M) ⟨rfl, rfl⟩ d_MO_begin_148 (by first | assumption | decide | (show _ < 124; omega) | (show _ < 61; omega) | (show _ < 20; omega)) (rfl) (show M < 40 by omega) (ab_ln_lt _ _) ?_
    refine ab_gen (fun u148 e148 => ?_)
    have P148 : gP [5, 6, 39, 101, 102, 103, 104, 120] u u148 := by rw [e148]; exact P1.ui rfl (by decide)
    refine ab_aload_n X 1 d_MO_begin_149 rfl rfl ?_
    refine ab_gR X fl_MO_39 d_MO_begin_150 (by first | assumption | decide | (show _ < 124; omega) | (show _ < 61; omega) | (show _ < 20; omega)) (P148.1.mo9) ?_
    refine ab_aload_n X 1 d_MO_begin_153 rfl rfl ?_
    refine ab_gI X fl_MO_27 d_MO_begin_154 (by first | assumption | decide | (show _ < 124; omega) | (show _ < 61; omega) | (show _ < 20; omega)) ((show _ = nI M by rw [e148]; simpa [ab_up] using b1)) ?_
    refine ab_iconst (v := 0) X d_MO_begin_157 (by decide) ?_
    refine ab_iast X (M) ⟨rfl, rfl⟩ d_MO_begin_158 (by first | assumption | decide | (show _ < 124; omega) | (show _ < 61; omega) | (show _ < 20; omega)) (rfl) (show M < 40 by omega) (ab_ln_lt _ _) ?_
    refine ab_gen (fun u158 e158 => ?_)
    have P158 : gP [5, 6, 39, 101, 102, 103, 104, 120] u u158 := by rw [e158]; exact P148.ui rfl (by decide)
    refine ab_aload_n X 1 d_MO_begin_159 rfl rfl ?_
    refine ab_gR X fl_MO_36 d_MO_begin_160 (by first | assumption | decide | (show _ < 124; omega) | (show _ < 61; omega) | (show _ < 20; omega)) (P158.1.mo8) ?_
    refine ab_aload_n X 1 d_MO_begin_163 rfl rfl ?_
    refine ab_gI X fl_MO_27 d_MO_begin_164 (by first | assumption | decide | (show _ < 124; omega) | (show _ < 61; omega) | (show _ < 20; omega)) ((show _ = nI M by rw [e158, e148]; simpa [ab_up] using b1)) ?_
    refine ab_iconst (v := 0) X d_MO_begin_167 (by decide) ?_
    refine ab_iast X (M) ⟨rfl, rfl⟩ d_MO_begin_168 (by first | assumption | decide | (show _ < 124; omega) | (show _ < 61; omega) | (show _ < 20; omega)) (rfl) (show M < 40 by omega) (ab_ln_lt _ _) ?_
    refine ab_gen (fun u168 e168 => ?_)
    have P168 : gP [5, 6, 39, 101, 102, 103, 104, 120] u u168 := by rw [e168]; exact P158.ui rfl (by decide)
    refine ab_iload_n X 2 d_MO_begin_169 rfl rfl ?_
    refine ab_iload_n X 0 d_MO_begin_170 rfl rfl ?_
    refine ab_callS (as := [ab_I (nI (kk + 1))]) X (fun h => by cases h) (c_MO_lettersOf (N := ab_nQ) u168 kk hkk) ls_MO_171 d_MO_begin_171 rfl rfl ⟨by first | exact Nat.le_of_ble_eq_true rfl | (simp only [ab_rm]; omega), by first | exact Nat.le_of_ble_eq_true rfl | (simp only [ab_rm]; omega)⟩ ⟨by first | exact Nat.le_of_ble_eq_true rfl | (simp only [ab_rm]; omega), by first | exact Nat.le_of_ble_eq_true rfl | (simp only [ab_rm]; omega)⟩ (Nat.le_of_ble_eq_true rfl) (fun u171 r171 h171 => ?_)
    obtain ⟨e171, rfl⟩ := h171
    subst u171
    rw [mr_nn hkk]
    refine ab_iadd X d_MO_begin_174 ?_
    refine ab_top (nI_add q _) ?_
    refine ab_istore3 X 0 1 2 d_MO_begin_175 (by decide) rfl rfl rfl rfl rfl rfl ?_
    refine ab_aload_n X 2 d_MO_begin_177 rfl rfl ?_
    refine ab_dup X d_MO_begin_178 rfl ?_
    refine ab_gI X fl_MO_27 d_MO_begin_179 (by first | assumption | decide | (show _ < 124; omega) | (show _ < 61; omega) | (show _ < 20; omega)) ((show _ = nI M by rw [e168, e158, e148]; simpa [ab_up] using b1)) ?_
    refine ab_iconst (v := 1) X d_MO_begin_182 (by decide) ?_
    refine ab_iadd X d_MO_begin_183 ?_
    refine ab_top (nI_1 _) ?_
    refine ab_putI X fp_MO_27 d_MO_begin_184 (by first | assumption | decide | (show _ < 124; omega) | (show _ < 61; omega) | (show _ < 20; omega)) rfl rfl ?_
    refine ab_gen (fun u184 e184 => ?_)
    have P184 : gP [5, 6, 39, 101, 102, 103, 104, 120] u u184 := by rw [e184]; exact P168.ui rfl (by decide)
    have g1 : ∀ p, p < M → u184.1 18 1 p = u1.1 18 1 p ∧ u184.1 18 2 p = u1.1 18 2 p ∧ u184.1 18 3 p = u1.1 18 3 p := fun p hp => by rw [e184, e168, e158, e148]; simp [ab_up, show p ≠ M by omega]
    have g2 : ∀ x, u184.1 18 4 x = u1.1 18 4 x := fun x => by rw [e184, e168, e158, e148]; simp [ab_up]
    have g3 : u184.1 18 1 M = nI (kk + 1) := by rw [e184, e168, e158, e148]; simp [ab_up]
    have g4 : u184.1 18 2 M = nI 0 := by rw [e184, e168]; simp [ab_up]; rfl
    have g5 : u184.1 18 3 M = nI 0 := by rw [e184, e168, e158]; simp [ab_up]; rfl
    have g6 : u184.1 17 0 5 = nI (M + 1) := by rw [e184]; simp [ab_up]
    have g7 : u184.1 17 0 6 = nI (lcn kd M) := by rw [e184, e168, e158, e148]; simpa [ab_up] using b2
    have g8 : u184.1 17 0 39 = nI O := by rw [e184, e168, e158, e148]; simpa [ab_up] using b3
    have g9 : ∀ j, u184.1 18 20 j = u1.1 18 20 j := fun j => by rw [e184, e168, e158, e148]; simp [ab_up]
    refine ab_iload_n X 1 d_MO_begin_187 rfl rfl ?_
    refine ab_iconst (v := 5) X d_MO_begin_188 (by decide) ?_
    refine ab_icmp_ge X 205 d_MO_begin_189 rfl (fun h189 => ?_) (fun h189 => ?_)
    ·
      have k5 : 5 ≤ kk + 1 := nI_le_of (b := 5) h189 (by omega)
      refine ab_aload_n X 2 d_MO_begin_205 rfl rfl ?_
      refine ab_gR X fl_MO_126 d_MO_begin_206 (by first | assumption | decide | (show _ < 124; omega) | (show _ < 61; omega) | (show _ < 20; omega)) (P184.1.mo38) ?_
      refine ab_aload_n X 2 d_MO_begin_209 rfl rfl ?_
      refine ab_gI X fl_MO_129 d_MO_begin_210 (by first | assumption | decide | (show _ < 124; omega) | (show _ < 61; omega) | (show _ < 20; omega)) (g8) ?_
      refine ab_aload_n X 2 d_MO_begin_213 rfl rfl ?_
      refine ab_gI X fl_MO_27 d_MO_begin_214 (by first | assumption | decide | (show _ < 124; omega) | (show _ < 61; omega) | (show _ < 20; omega)) (g6) ?_
      refine ab_iconst (v := 1) X d_MO_begin_217 (by decide) ?_
      refine ab_isub X d_MO_begin_218 ?_
      refine ab_top (nI_p1 M) ?_
      refine ab_iast X (O) ⟨rfl, rfl⟩ d_MO_begin_219 (by first | assumption | decide | (show _ < 124; omega) | (show _ < 61; omega) | (show _ < 20; omega)) (rfl) (show O < 40 by omega) (ab_ln_lt _ _) ?_
      refine ab_gen (fun u219 e219 => ?_)
      have P219 : gP [5, 6, 39, 101, 102, 103, 104, 120] u u219 := by rw [e219]; exact P184.ui rfl (by decide)
      refine ab_aload_n X 2 d_MO_begin_220 rfl rfl ?_
      refine ab_dup X d_MO_begin_221 rfl ?_
      refine ab_gI X fl_MO_129 d_MO_begin_222 (by first | assumption | decide | (show _ < 124; omega) | (show _ < 61; omega) | (show _ < 20; omega)) ((show _ = nI O by rw [e219]; simpa [ab_up] using g8)) ?_
      refine ab_iconst (v := 1) X d_MO_begin_225 (by decide) ?_
      refine ab_iadd X d_MO_begin_226 ?_
      refine ab_top (nI_1 _) ?_
      refine ab_putI X fp_MO_129 d_MO_begin_227 (by first | assumption | decide | (show _ < 124; omega) | (show _ < 61; omega) | (show _ < 20; omega)) rfl rfl ?_
      refine ab_gen (fun u227 e227 => ?_)
      have P227 : gP [5, 6, 39, 101, 102, 103, 104, 120] u u227 := by rw [e227]; exact P219.ui rfl (by decide)
      have r6 : u227.1 17 0 5 = nI (M + 1) := by rw [e227, e219]; simpa [ab_up] using g6
      have r7 : u227.1 17 0 6 = nI (lcn kd M) := by rw [e227, e219]; simpa [ab_up] using g7
      have r8 : u227.1 17 0 39 = nI (O + 1) := by rw [e227]; simp [ab_up]
      have r9 : ∀ j, j < O + 1 → u227.1 18 20 j = nI (up1 op O M j) := fun j hj => by
        by_cases z : j = O
        · rw [z, up1_s, e227, e219]; simp [ab_up]
        · rw [up1_n _ z, e227, e219]; simpa [ab_up, z] using (g9 j).trans (b5 j (by omega))
      have rc : ∀ (u2 : ab_S) (a : Nat), (∀ x, x ≠ M → u2.1 18 2 x = u227.1 18 2 x) → u2.1 18 2 M = nI a → gP [102] u227 u2 → ∀ p, p < M + 1 → u2.1 18 1 p = nI (up1 kd M (kk + 1) p) ∧ u2.1 18 2 p = nI (up1 ar M a p) ∧ u2.1 18 3 p = nI (up1 (if 0 < O then up1 cn (op (O - 1)) (cn (op (O - 1)) + 1) else cn) M 0 p) ∧ ∀ i, i < up1 (if 0 < O then up1 cn (op (O - 1)) (cn (op (O - 1)) + 1) else cn) M 0 p → u2.1 18 4 (4 * p + i) = nI ((if 0 < O then up2 ch (op (O - 1)) (cn (op (O - 1))) M else ch) p i) := fun u2 a y1 y2 y3 => cells u2 a (fun p hp => ⟨(y3.ai (by decide) rfl).trans ((show u227.1 18 1 p = u184.1 18 1 p by rw [e227, e219]; simp [ab_up]).trans (g1 p hp).1), (y1 p (by omega)).trans ((show u227.1 18 2 p = u184.1 18 2 p by rw [e227, e219]; simp [ab_up]).trans (g1 p hp).2.1), (y3.ai (by decide) rfl).trans ((show u227.1 18 3 p = u184.1 18 3 p by rw [e227, e219]; simp [ab_up]).trans (g1 p hp).2.2)⟩) (fun x => (y3.ai (by decide) rfl).trans ((show u227.1 18 4 x = u184.1 18 4 x by rw [e227, e219]; simp [ab_up]).trans (g2 x))) (y3.ai (by decide) ((show u227.1 18 1 M = u184.1 18 1 M by rw [e227, e219]; simp [ab_up]).trans g3)) y2 (y3.ai (by decide) ((show u227.1 18 3 M = u184.1 18 3 M by rw [e227, e219]; simp [ab_up]).trans g5))
      have rr : rR (O + 1) (up1 kd M (kk + 1)) (up1 (if 0 < O then up1 cn (op (O - 1)) (cn (op (O - 1)) + 1) else cn) M 0) (up1 op O M) := ⟨by omega, by rw [show O + 1 - 1 = O by omega, up1_s, up1_s]; decide, fun _ => by rw [show O + 1 - 1 = O by omega, up1_s, up1_s]; decide⟩
      have ro : 0 < O + 1 → up1 op O M 0 = 0 := fun _ => by
        by_cases z : O = 0
        · subst z; rw [up1_s]; rcases hO with z1 | z1; exact z1.2; exact absurd z1.1 (by omega)
        · rw [up1_n _ (by omega)]; exact h0 (by omega)
      have a0 : u227.1 18 2 M = nI 0 := (show u227.1 18 2 M = u184.1 18 2 M by rw [e227, e219]; simp [ab_up]).trans g4
      refine ab_iload_n X 1 d_MO_begin_230 rfl rfl ?_
      refine ab_bipush (v := 7) X d_MO_begin_231 (by decide) ?_
      refine ab_icmp_ge X 239 d_MO_begin_233 rfl (fun h233 => ?_) (fun h233 => ?_)
      ·
        have k7 : kk + 1 = 7 := by have := nI_le_of (b := 7) h233 (by omega); omega
        refine ab_aload_n X 2 d_MO_begin_239 rfl rfl ?_
        refine ab_iload X 0 d_MO_begin_240 rfl ?_
        refine ab_callV (as := [ab_I (nI (q + ab_sl.getD kk 0))]) X (fun h => by cases h) (t_MO_at u227 (q + ab_sl.getD kk 0) t ht (P227.fi (by decide) et) P227.1 (by omega)) lk_MO_145 d_MO_begin_242 rfl rfl (by first | assumption | decide | (show _ < 124; omega) | (show _ < 61; omega) | (show _ < 20; omega)) ⟨by first | exact Nat.le_of_ble_eq_true rfl | (simp only [ab_rm]; omega), by first | exact Nat.le_of_ble_eq_true rfl | (simp only [ab_rm]; omega)⟩ ⟨by first | exact Nat.le_of_ble_eq_true rfl | (simp only [ab_rm]; omega), by first | exact Nat.le_of_ble_eq_true rfl | (simp only [ab_rm]; omega)⟩ (Nat.le_of_ble_eq_true rfl) (fun u242 r242 h242 => ?_)
        obtain ⟨e242, rfl⟩ := h242
        subst u242
        refine ab_istore4 X 0 1 2 3 d_MO_begin_245 (by decide) rfl rfl rfl rfl rfl rfl rfl rfl ?_
        refine ab_iload X 0 d_MO_begin_247 rfl ?_
        refine ab_bipush (v := 49) X d_MO_begin_249 (by decide) ?_
        refine ab_icmp_lt X 261 d_MO_begin_251 rfl (fun h251 => ?_) (fun h251 => ?_)
        ·
          refine ab_iconst (v := (-1)) X d_MO_begin_261 (by decide) ?_
          refine ab_iload X 1 d_MO_begin_262 rfl ?_
          refine ab_isub X d_MO_begin_264 ?_
          exact ab_reti X hr0 hlk d_MO_begin_265 (bad _ _ P227 (by omega))
        ·
          refine ab_iload X 0 d_MO_begin_254 rfl ?_
          refine ab_bipush (v := 52) X d_MO_begin_256 (by decide) ?_
          refine ab_icmp_le X 266 d_MO_begin_258 rfl (fun h258 => ?_) (fun h258 => ?_)
          ·
            obtain ⟨a, z1, z2⟩ := dg_of (lo := 48) (hi := 52) (by decide) (by decide) (fun y => h251 (Int32.lt_of_lt_of_le y (by decide))) h258
            have a1 : 1 ≤ a := Nat.pos_of_ne_zero (fun y => h251 (by rw [y] at z2; rw [show atv u227 t (q + ab_sl.getD kk 0) = nI 0 + nI 48 from by rw [← z2]; exact (Int32.sub_add_cancel _ _).symm]; decide))
            refine ab_aload_n X 3 d_MO_begin_266 rfl rfl ?_
            refine ab_gR X fl_MO_36 d_MO_begin_267 (by first | assumption | decide | (show _ < 124; omega) | (show _ < 61; omega) | (show _ < 20; omega)) (P227.1.mo8) ?_
            refine ab_aload_n X 3 d_MO_begin_270 rfl rfl ?_
            refine ab_gI X fl_MO_27 d_MO_begin_271 (by first | assumption | decide | (show _ < 124; omega) | (show _ < 61; omega) | (show _ < 20; omega)) (r6) ?_
            refine ab_iconst (v := 1) X d_MO_begin_274 (by decide) ?_
            refine ab_isub X d_MO_begin_275 ?_
            refine ab_top (nI_p1 M) ?_
            refine ab_iload X 0 d_MO_begin_276 rfl ?_
            refine ab_bipush (v := 48) X d_MO_begin_278 (by decide) ?_
            refine ab_isub X d_MO_begin_280 ?_
            refine ab_top z2 ?_
            refine ab_iast X (M) ⟨rfl, rfl⟩ d_MO_begin_281 (by first | assumption | decide | (show _ < 124; omega) | (show _ < 61; omega) | (show _ < 20; omega)) (rfl) (show M < 40 by omega) (ab_ln_lt _ _) ?_
            refine ab_gen (fun u281 e281 => ?_)
            have P281 : gP [5, 6, 39, 101, 102, 103, 104, 120] u u281 := by rw [e281]; exact P227.ui rfl (by decide)
            refine ab_aload_n X 3 d_MO_begin_282 rfl rfl ?_
            refine ab_iload X 1 d_MO_begin_283 rfl ?_
            refine ab_iconst (v := 1) X d_MO_begin_285 (by decide) ?_
            refine ab_iadd X d_MO_begin_286 ?_
            refine ab_top (nI_1 _) ?_
            refine ab_callV (as := [ab_I (nI (q + ab_sl.getD kk 0 + 1))]) X (fun h => by cases h) (t_MO_at u281 (q + ab_sl.getD kk 0 + 1) t ht (P281.fi (by decide) et) P281.1 (by omega)) lk_MO_145 d_MO_begin_287 rfl rfl (by first | assumption | decide | (show _ < 124; omega) | (show _ < 61; omega) | (show _ < 20; omega)) ⟨by first | exact Nat.le_of_ble_eq_true rfl | (simp only [ab_rm]; omega), by first | exact Nat.le_of_ble_eq_true rfl | (simp only [ab_rm]; omega)⟩ ⟨by first | exact Nat.le_of_ble_eq_true rfl | (simp only [ab_rm]; omega), by first | exact Nat.le_of_ble_eq_true rfl | (simp only [ab_rm]; omega)⟩ (Nat.le_of_ble_eq_true rfl) (fun u287 r287 h287 => ?_)
            obtain ⟨e287, rfl⟩ := h287
            subst u287
            refine ab_bipush (v := 44) X d_MO_begin_290 (by decide) ?_
            refine ab_icmp_ne X 302 d_MO_begin_292 rfl (fun h292 => ?_) (fun h292 => ?_)
            ·
              refine ab_iconst (v := (-1)) X d_MO_begin_302 (by decide) ?_
              refine ab_iload X 1 d_MO_begin_303 rfl ?_
              refine ab_iconst (v := 1) X d_MO_begin_305 (by decide) ?_
              refine ab_iadd X d_MO_begin_306 ?_
              refine ab_top (nI_1 _) ?_
              refine ab_isub X d_MO_begin_307 ?_
              exact ab_reti X hr0 hlk d_MO_begin_308 (bad _ _ P281 (by omega))
            ·
              have hlt : q + ab_sl.getD kk 0 + 1 < t := Classical.byContradiction (fun z => absurd h292 (by unfold atv; rw [if_neg z]; decide))
              refine ab_iload X 1 d_MO_begin_295 rfl ?_
              refine ab_iconst (v := 2) X d_MO_begin_297 (by decide) ?_
              refine ab_iadd X d_MO_begin_298 ?_
              refine ab_top (nI_add _ 2) ?_
              refine ab_goto X 308 d_MO_begin_299 rfl ?_
              have w281 : gP [102] u227 u281 := by rw [e281]; exact (gP.rf P227.1 : gP [102] u227 u227).ui rfl trivial
              exact ab_reti X hr0 hlk d_MO_begin_308 ⟨P281, _, Or.inr ⟨q + ab_sl.getD kk 0 + 2, O + 1, _, _, _, _, _, _, _, rfl, by omega, ⟨⟨w281.fi (by decide) r6, by rw [lc1, if_neg (by omega)]; exact w281.fi (by decide) r7, w281.fi (by decide) r8, rc _ a (fun x hx => by rw [e281]; simp [ab_up, hx]) (by rw [e281]; simp [ab_up]) w281, fun j hj => w281.ai (by decide) (r9 j hj)⟩, (add a (by omega)).2 k5, by rw [lc1, if_neg (by omega)]; omega, by omega, by omega, ro, hA2 a (fun z => ⟨a1, by omega⟩)⟩, Or.inr ⟨rfl, rr⟩⟩, rfl⟩
          ·
            refine ab_iconst (v := (-1)) X d_MO_begin_261 (by decide) ?_
            refine ab_iload X 1 d_MO_begin_262 rfl ?_
            refine ab_isub X d_MO_begin_264 ?_
            exact ab_reti X hr0 hlk d_MO_begin_265 (bad _ _ P227 (by omega))
      ·
        have k7 : kk + 1 < 7 := nI_lt_of (b := 7) h233 (by omega)
        refine ab_iload X 0 d_MO_begin_236 rfl ?_
        exact ab_reti X hr0 hlk d_MO_begin_238 ⟨P227, _, Or.inr ⟨q + ab_sl.getD kk 0, O + 1, _, _, _, _, _, _, _, rfl, by omega, ⟨⟨r6, by rw [lc1, if_neg (by omega)]; exact r7, r8, rc _ 0 (fun _ _ => rfl) a0 (gP.rf P227.1), r9⟩, (add 0 (by decide)).2 k5, by rw [lc1, if_neg (by omega)]; omega, by omega, hqk, ro, hA2 0 (fun z => by omega)⟩, Or.inr ⟨rfl, rr⟩⟩, rfl⟩
    ·
      have k5 : kk + 1 < 5 := nI_lt_of (b := 5) h189 (by omega)
      refine ab_aload_n X 2 d_MO_begin_192 rfl rfl ?_
      refine ab_aload_n X 2 d_MO_begin_193 rfl rfl ?_
      refine ab_gI X fl_MO_27 d_MO_begin_194 (by first | assumption | decide | (show _ < 124; omega) | (show _ < 61; omega) | (show _ < 20; omega)) (g6) ?_
      refine ab_iconst (v := 1) X d_MO_begin_197 (by decide) ?_
      refine ab_isub X d_MO_begin_198 ?_
      refine ab_top (nI_p1 M) ?_
      refine ab_iload X 0 d_MO_begin_199 rfl ?_
      refine ab_callV (as := [ab_I (nI M), ab_I (nI (q + ab_sl.getD kk 0))]) X (fun h => by cases h) (s_MO_leaf u184 M (q + ab_sl.getD kk 0) (kk + 1) (lcn kd M) t ht (P184.fi (by decide) et) P184.1 (by omega) (by omega) g3 (by omega) (by omega) g7 (by omega)) lk_MO_174 d_MO_begin_201 rfl rfl (by first | assumption | decide | (show _ < 124; omega) | (show _ < 61; omega) | (show _ < 20; omega)) ⟨by first | exact Nat.le_of_ble_eq_true rfl | (simp only [ab_rm]; omega), by first | exact Nat.le_of_ble_eq_true rfl | (simp only [ab_rm]; omega)⟩ ⟨by first | exact Nat.le_of_ble_eq_true rfl | (simp only [ab_rm]; omega), by first | exact Nat.le_of_ble_eq_true rfl | (simp only [ab_rm]; omega)⟩ (Nat.le_of_ble_eq_true rfl) (fun u201 r201 h201 => ?_)
      obtain ⟨⟨q201, f1, f2⟩, x201, hx201, rfl⟩ := h201
      have P201 := P184.trans q201 (by decide)
      rcases hx201 with hx | ⟨q', a, rfl, z1, z2, z3, z4⟩
      · exact ab_reti X hr0 hlk d_MO_begin_204 ⟨P201, _, Or.inl hx, rfl⟩
      · refine ab_reti X hr0 hlk d_MO_begin_204 ⟨P201, _, Or.inr ⟨q', O, _, _, _, _, _, op, _, rfl, by omega, ⟨⟨(q201.fi (by decide) g6), by rw [lc1, if_pos k5]; exact f1, q201.fi (by decide) g8, cells _ a (fun p hp => ⟨(q201.ai (by decide) rfl).trans (g1 p hp).1, (f2 p (by omega)).trans (g1 p hp).2.1, (q201.ai (by decide) rfl).trans (g1 p hp).2.2⟩) (fun x => (q201.ai (by decide) rfl).trans (g2 x)) (q201.ai (by decide) g3) z4 (q201.ai (by decide) g5), fun j hj => (q201.ai (by decide) rfl).trans ((g9 j).trans (b5 j hj))⟩, (add a z3).1 k5, by rw [lc1, if_pos k5]; have := hL9 k5; omega, by omega, z2, h0, hA2 a (fun z => by omega)⟩, Or.inl rfl⟩, rfl⟩
  have K54 : ∀ (kk b : Nat), kk < 7 → q + ab_sl.getD kk 0 ≤ t → b ≤ 8 → ab_J p l e (ab_rm 2 0 0) s m args below meth c (MQ below (ab_Q D ca ad ab_nQ s.heap.size (fun u' v => gP [5, 6, 39, 101, 102, 103, 104, 120] u u' ∧ ∃ x : Int32, (x < 0 ∨ ∃ (q' O' : Nat) (kd' ar' cn' en' cl' op' : Nat → Nat) (ch' : Nat → Nat → Nat), x = nI q' ∧ q + 3 ≤ q' ∧ rI t q' (M + 1) O' kd' ar' cn' en' cl' op' ch' u' ∧ (O' = O ∨ (O' = O + 1 ∧ rR O' kd' cn' op'))) ∧ v = some (ab_I x))) args s 0 0 (ab_A ad ab_nQ s.heap.size)) D ca (ab_A ad ab_nQ s.heap.size) s.heap 6 0 0 ad ab_nQ u 64 [(3, ab_I (nI (kk + 1))), (2, ab_I (nI b)), (0, ab_O 17 0), (1, ab_I (nI q))] [] := by
    intro kk b hkk hqk hb
    have l3 := ab_sl3 hkk
    have K82 : (kk + 1 < 5 → lcn kd M < 10) → ab_J p l e (ab_rm 2 0 0) s m args below meth c (MQ below (ab_Q D ca ad ab_nQ s.heap.size (fun u' v => gP [5, 6, 39, 101, 102, 103, 104, 120] u u' ∧ ∃ x : Int32, (x < 0 ∨ ∃ (q' O' : Nat) (kd' ar' cn' en' cl' op' : Nat → Nat) (ch' : Nat → Nat → Nat), x = nI q' ∧ q + 3 ≤ q' ∧ rI t q' (M + 1) O' kd' ar' cn' en' cl' op' ch' u' ∧ (O' = O ∨ (O' = O + 1 ∧ rR O' kd' cn' op'))) ∧ v = some (ab_I x))) args s 0 0 (ab_A ad ab_nQ s.heap.size)) D ca (ab_A ad ab_nQ s.heap.size) s.heap 6 0 0 ad ab_nQ u 82 [(3, ab_I (nI (kk + 1))), (0, ab_O 17 0), (1, ab_I (nI q))] [] := by
      intro hL9
      by_cases z : 0 < O
      · obtain ⟨t1, t5, -, -⟩ := R.2.2.1 (O - 1) (by omega)
        obtain ⟨r1, r4, r2⟩ : rR O kd cn op := by rcases hO with w | w; (exact absurd w.1 (by omega)); exact w
        refine ab_aload_n X 1 d_MO_begin_82 rfl rfl ?_
        refine ab_gI X fl_MO_129 d_MO_begin_83 (by first | assumption | decide | (show _ < 124; omega) | (show _ < 61; omega) | (show _ < 20; omega)) (eO) ?_
        refine ab_if_le X 139 d_MO_begin_86 rfl (fun hb => absurd hb ((nI_nle z (by omega)))) (fun _ => ?_)
        refine ab_aload_n X 1 d_MO_begin_89 rfl rfl ?_
        refine ab_gR X fl_MO_126 d_MO_begin_90 (by first | assumption | decide | (show _ < 124; omega) | (show _ < 61; omega) | (show _ < 20; omega)) (P0.1.mo38) ?_
        refine ab_aload_n X 1 d_MO_begin_93 rfl rfl ?_
        refine ab_gI X fl_MO_129 d_MO_begin_94 (by first | assumption | decide | (show _ < 124; omega) | (show _ < 61; omega) | (show _ < 20; omega)) (eO) ?_
        refine ab_iconst (v := 1) X d_MO_begin_97 (by decide) ?_
        refine ab_isub X d_MO_begin_98 ?_
        refine ab_top (nI_m1 z) ?_
        refine ab_iald X (O - 1) ⟨rfl, rfl⟩ d_MO_begin_99 (by first | assumption | decide | (show _ < 124; omega) | (show _ < 61; omega) | (show _ < 20; omega)) (rfl) (show O - 1 < 40 by omega) (ab_ln_lt _ _) ?_
        refine ab_top (eop (O - 1) (by omega)) ?_
        refine ab_istore3 X 0 1 2 d_MO_begin_100 (by decide) rfl rfl rfl rfl rfl rfl ?_
        refine ab_aload_n X 2 d_MO_begin_102 rfl rfl ?_
        refine ab_gR X fl_MO_42 d_MO_begin_103 (by first | assumption | decide | (show _ < 124; omega) | (show _ < 61; omega) | (show _ < 20; omega)) (P0.1.mo10) ?_
        refine ab_iconst (v := 4) X d_MO_begin_106 (by decide) ?_
        refine ab_iload X 0 d_MO_begin_107 rfl ?_
        refine ab_imul X d_MO_begin_109 ?_
        refine ab_aload_n X 2 d_MO_begin_110 rfl rfl ?_
        refine ab_gR X fl_MO_39 d_MO_begin_111 (by first | assumption | decide | (show _ < 124; omega) | (show _ < 61; omega) | (show _ < 20; omega)) (P0.1.mo9) ?_
        refine ab_iload X 0 d_MO_begin_114 rfl ?_
        refine ab_iald X (op (O - 1)) ⟨rfl, rfl⟩ d_MO_begin_116 (by first | assumption | decide | (show _ < 124; omega) | (show _ < 61; omega) | (show _ < 20; omega)) (rfl) (show op (O - 1) < 40 by omega) (ab_ln_lt _ _) ?_
        refine ab_top (eS _ t1).2.2.1 ?_
        refine ab_iadd X d_MO_begin_117 ?_
        refine ab_aload_n X 2 d_MO_begin_118 rfl rfl ?_
        refine ab_gI X fl_MO_27 d_MO_begin_119 (by first | assumption | decide | (show _ < 124; omega) | (show _ < 61; omega) | (show _ < 20; omega)) (eM) ?_
        refine ab_iast X (4 * op (O - 1) + cn (op (O - 1))) ⟨rfl, rfl⟩ d_MO_begin_122 (by first | assumption | decide | (show _ < 124; omega) | (show _ < 61; omega) | (show _ < 20; omega)) (nI_4a _ _) (show 4 * op (O - 1) + cn (op (O - 1)) < 160 by omega) (ab_ln_lt _ _) ?_
        refine ab_gen (fun u122 e122 => ?_)
        have P122 : gP [5, 6, 39, 101, 102, 103, 104, 120] u u122 := by rw [e122]; exact P0.ui rfl (by decide)
        refine ab_aload_n X 2 d_MO_begin_123 rfl rfl ?_
        refine ab_gR X fl_MO_39 d_MO_begin_124 (by first | assumption | decide | (show _ < 124; omega) | (show _ < 61; omega) | (show _ < 20; omega)) (P122.1.mo9) ?_
        refine ab_iload X 0 d_MO_begin_127 rfl ?_
        refine ab_aload_n X 2 d_MO_begin_129 rfl rfl ?_
        refine ab_gR X fl_MO_39 d_MO_begin_130 (by first | assumption | decide | (show _ < 124; omega) | (show _ < 61; omega) | (show _ < 20; omega)) (P122.1.mo9) ?_
        refine ab_iload X 0 d_MO_begin_133 rfl ?_
        refine ab_iald X (op (O - 1)) ⟨rfl, rfl⟩ d_MO_begin_135 (by first | assumption | decide | (show _ < 124; omega) | (show _ < 61; omega) | (show _ < 20; omega)) (rfl) (show op (O - 1) < 40 by omega) (ab_ln_lt _ _) ?_
        refine ab_top ((show u122.1 18 3 (op (O - 1)) = u.1 18 3 (op (O - 1)) by rw [e122]; simp [ab_up]).trans (eS _ t1).2.2.1) ?_
        refine ab_iconst (v := 1) X d_MO_begin_136 (by decide) ?_
        refine ab_iadd X d_MO_begin_137 ?_
        refine ab_top (nI_1 _) ?_
        refine ab_iast X (op (O - 1)) ⟨rfl, rfl⟩ d_MO_begin_138 (by first | assumption | decide | (show _ < 124; omega) | (show _ < 61; omega) | (show _ < 20; omega)) (rfl) (show op (O - 1) < 40 by omega) (ab_ln_lt _ _) ?_
        refine ab_gen (fun u138 e138 => ?_)
        have P138 : gP [5, 6, 39, 101, 102, 103, 104, 120] u u138 := by rw [e138]; exact P122.ui rfl (by decide)
        refine ab_lv (List.forall_mem_cons.mpr ⟨List.mem_of_getElem? (i := 1) rfl, List.forall_mem_cons.mpr ⟨List.mem_of_getElem? (i := 2) rfl, List.forall_mem_cons.mpr ⟨List.mem_of_getElem? (i := 3) rfl, fun _ h => absurd h List.not_mem_nil⟩⟩⟩) ?_
        refine K139 kk _ hkk hqk hL9 P138 (by rw [e138, e122]; simpa [ab_up] using eM) (by rw [e138, e122]; simpa [ab_up] using eL) (by rw [e138, e122]; simpa [ab_up] using eO) (fun p2 hp2 => ?_) (fun j hj => by rw [e138, e122]; simpa [ab_up] using eop j hj)
        obtain ⟨y1, y2, y3, y4⟩ := eS p2 hp2
        have c4 := rS.cn4 R hp2
        rw [if_pos z, if_pos z]
        refine ⟨by rw [e138, e122]; simpa [ab_up] using y1, by rw [e138, e122]; simpa [ab_up] using y2, ?_, fun i hi => ?_⟩
        · by_cases w : p2 = op (O - 1)
          · rw [w, up1_s, e138]; simp [ab_up]
          · rw [up1_n _ w, e138, e122]; simpa [ab_up, w] using y3
        · by_cases w : p2 = op (O - 1)
          · subst w
            rw [up1_s] at hi
            by_cases v : i = cn (op (O - 1))
            · rw [v, up2_s, e138, e122]; simp [ab_up]
            · rw [up2_n _ (fun x => v x.2), e138, e122]; simpa [ab_up, v] using y4 i (by omega)
          · rw [up1_n _ w] at hi
            rw [up2_n _ (fun x => w x.1), e138, e122]
            have hne : ¬ 4 * p2 + i = 4 * op (O - 1) + cn (op (O - 1)) := by omega
            simpa [ab_up, hne] using y4 i hi
      · have O0 : O = 0 := by omega
        refine ab_aload_n X 1 d_MO_begin_82 rfl rfl ?_
        refine ab_gI X fl_MO_129 d_MO_begin_83 (by first | assumption | decide | (show _ < 124; omega) | (show _ < 61; omega) | (show _ < 20; omega)) (eO) ?_
        refine ab_if_le X 139 d_MO_begin_86 rfl (fun _ => ?_) (fun hb => absurd ((by rw [O0]; decide)) hb)
        exact K139 kk _ hkk hqk hL9 P0 eM eL eO (fun p2 hp2 => by rw [if_neg z, if_neg z]; exact eS p2 hp2) eop
    refine ab_iload_n X 0 d_MO_begin_64 rfl rfl ?_
    refine ab_iconst (v := 5) X d_MO_begin_65 (by decide) ?_
    refine ab_icmp_ge X 82 d_MO_begin_66 rfl (fun h66 => ?_) (fun h66 => ?_)
    ·
      have k5 : 5 ≤ kk + 1 := nI_le_of (b := 5) h66 (by omega)
      refine ab_lv (List.forall_mem_cons.mpr ⟨List.mem_of_getElem? (i := 0) rfl, List.forall_mem_cons.mpr ⟨List.mem_of_getElem? (i := 2) rfl, List.forall_mem_cons.mpr ⟨List.mem_of_getElem? (i := 3) rfl, fun _ h => absurd h List.not_mem_nil⟩⟩⟩) ?_
      first | exact K82 (fun _ => l9) | exact K82 (fun z => by omega)
    ·
      refine ab_aload_n X 2 d_MO_begin_69 rfl rfl ?_
      refine ab_gI X fl_MO_30 d_MO_begin_70 (by first | assumption | decide | (show _ < 124; omega) | (show _ < 61; omega) | (show _ < 20; omega)) (eL) ?_
      refine ab_bipush (v := 10) X d_MO_begin_73 (by decide) ?_
      refine ab_icmp_ne X 82 d_MO_begin_75 rfl (fun h75 => ?_) (fun h75 => ?_)
      ·
        have l9 : lcn kd M < 10 := by have : lcn kd M ≠ 10 := fun z => h75 (by rw [z]; rfl); omega
        refine ab_lv (List.forall_mem_cons.mpr ⟨List.mem_of_getElem? (i := 0) rfl, List.forall_mem_cons.mpr ⟨List.mem_of_getElem? (i := 2) rfl, List.forall_mem_cons.mpr ⟨List.mem_of_getElem? (i := 3) rfl, fun _ h => absurd h List.not_mem_nil⟩⟩⟩) ?_
        first | exact K82 (fun _ => l9) | exact K82 (fun z => by omega)
      ·
        refine ab_iconst (v := (-1)) X d_MO_begin_78 (by decide) ?_
        refine ab_iload_n X 3 d_MO_begin_79 rfl rfl ?_
        refine ab_isub X d_MO_begin_80 ?_
        exact ab_reti X hr0 hlk d_MO_begin_81 (bad _ q P0 (by omega))
  have loop : ∀ (n j b : Nat) (y : Int32), j + n = 7 → (y = 0 ∨ ∃ kk, kk < 7 ∧ y = nI (kk + 1) ∧ q + ab_sl.getD kk 0 ≤ t) → b ≤ 8 → ab_J p l e (ab_rm 2 0 0) s m args below meth c (MQ below (ab_Q D ca ad ab_nQ s.heap.size (fun u' v => gP [5, 6, 39, 101, 102, 103, 104, 120] u u' ∧ ∃ x : Int32, (x < 0 ∨ ∃ (q' O' : Nat) (kd' ar' cn' en' cl' op' : Nat → Nat) (ch' : Nat → Nat → Nat), x = nI q' ∧ q + 3 ≤ q' ∧ rI t q' (M + 1) O' kd' ar' cn' en' cl' op' ch' u' ∧ (O' = O ∨ (O' = O + 1 ∧ rR O' kd' cn' op'))) ∧ v = some (ab_I x))) args s 0 0 (ab_A ad ab_nQ s.heap.size)) D ca (ab_A ad ab_nQ s.heap.size) s.heap 6 0 0 ad ab_nQ u 7 [(4, ab_I (nI (j + 1))), (3, ab_I y), (2, ab_I (nI b)), (0, ab_O 17 0), (1, ab_I (nI q))] [] := by
    intro n
    induction n with
    | zero =>
      intro j b y hj hy hb
      obtain rfl : j = 7 := by omega
      refine ab_iload X 0 d_MO_begin_7 rfl ?_
      refine ab_bipush (v := 8) X d_MO_begin_9 (by decide) ?_
      refine ab_icmp_ge X 54 d_MO_begin_11 rfl (fun _ => ?_) (fun hb => absurd ((by decide)) hb)
      refine ab_iload_n X 1 d_MO_begin_54 rfl rfl ?_
      refine ab_if_ne X 64 d_MO_begin_55 rfl (fun h55 => ?_) (fun h55 => ?_)
      ·
        obtain ⟨kk, hkk, rfl, hqk⟩ := hy.resolve_left h55
        refine ab_lv (List.forall_mem_cons.mpr ⟨List.mem_of_getElem? (i := 1) rfl, List.forall_mem_cons.mpr ⟨List.mem_of_getElem? (i := 2) rfl, List.forall_mem_cons.mpr ⟨List.mem_of_getElem? (i := 3) rfl, List.forall_mem_cons.mpr ⟨List.mem_of_getElem? (i := 4) rfl, fun _ h => absurd h List.not_mem_nil⟩⟩⟩⟩) ?_
        exact K54 kk b hkk hqk hb
      ·
        refine ab_iconst (v := (-1)) X d_MO_begin_58 (by decide) ?_
        refine ab_iload_n X 4 d_MO_begin_59 rfl rfl ?_
        refine ab_iload_n X 2 d_MO_begin_60 rfl rfl ?_
        refine ab_iadd X d_MO_begin_61 ?_
        refine ab_top (nI_add q b) ?_
        refine ab_isub X d_MO_begin_62 ?_
        exact ab_reti X hr0 hlk d_MO_begin_63 (bad _ (q + b) P0 (by omega))
    | succ n ih =>
      intro j b y hj hy hb
      have hj7 : j < 7 := by omega
      have l3 := ab_sl3 hj7
      have l6 := ab_sl6 hj7
      refine ab_iload X 0 d_MO_begin_7 rfl ?_
      refine ab_bipush (v := 8) X d_MO_begin_9 (by decide) ?_
      refine ab_icmp_ge X 54 d_MO_begin_11 rfl (fun hb => absurd hb ((nI_ge (b := 8) (show j + 1 < 8 by omega) (by decide)))) (fun _ => ?_)
      refine ab_aload_n X 3 d_MO_begin_14 rfl rfl ?_
      refine ab_iload_n X 4 d_MO_begin_15 rfl rfl ?_
      refine ab_iload X 0 d_MO_begin_16 rfl ?_
      refine ab_callS (as := [ab_I (nI (j + 1))]) X (fun h => by cases h) (c_MO_wordOf (N := ab_nQ) u j hj7) ls_MO_163 d_MO_begin_18 rfl rfl ⟨by first | exact Nat.le_of_ble_eq_true rfl | (simp only [ab_rm]; omega), by first | exact Nat.le_of_ble_eq_true rfl | (simp only [ab_rm]; omega)⟩ ⟨by first | exact Nat.le_of_ble_eq_true rfl | (simp only [ab_rm]; omega), by first | exact Nat.le_of_ble_eq_true rfl | (simp only [ab_rm]; omega)⟩ (Nat.le_of_ble_eq_true rfl) (fun u18 r18 h18 => ?_)
      obtain ⟨e18, rfl⟩ := h18
      subst u18
      refine ab_callV (as := [ab_I (nI q), ab_L (mr_w j)]) X (fun h => by cases h) (t_MO_fits u q (mr_w j) t ht et h (by omega)) lk_MO_167 d_MO_begin_21 rfl rfl (by first | assumption | decide | (show _ < 124; omega) | (show _ < 61; omega) | (show _ < 20; omega)) ⟨by first | exact Nat.le_of_ble_eq_true rfl | (simp only [ab_rm]; omega), by first | exact Nat.le_of_ble_eq_true rfl | (simp only [ab_rm]; omega)⟩ ⟨by first | exact Nat.le_of_ble_eq_true rfl | (simp only [ab_rm]; omega), by first | exact Nat.le_of_ble_eq_true rfl | (simp only [ab_rm]; omega)⟩ (Nat.le_of_ble_eq_true rfl) (fun u21 r21 h21 => ?_)
      obtain ⟨e21, n21, hn21, hc21, rfl⟩ := h21
      subst u21
      refine ab_istore5 X 0 1 2 3 4 d_MO_begin_24 (by decide) rfl rfl rfl rfl rfl rfl rfl rfl rfl rfl ?_
      refine ab_iload X 0 d_MO_begin_26 rfl ?_
      refine ab_iload_n X 3 d_MO_begin_28 rfl rfl ?_
      refine ab_icmp_le X 35 d_MO_begin_29 rfl (fun h29 => ?_) (fun h29 => ?_)
      ·
        refine ab_iload X 0 d_MO_begin_35 rfl ?_
        refine ab_iload X 1 d_MO_begin_37 rfl ?_
        refine ab_callS (as := [ab_I (nI (j + 1))]) X (fun h => by cases h) (c_MO_lettersOf (N := ab_nQ) u j hj7) ls_MO_171 d_MO_begin_39 rfl rfl ⟨by first | exact Nat.le_of_ble_eq_true rfl | (simp only [ab_rm]; omega), by first | exact Nat.le_of_ble_eq_true rfl | (simp only [ab_rm]; omega)⟩ ⟨by first | exact Nat.le_of_ble_eq_true rfl | (simp only [ab_rm]; omega), by first | exact Nat.le_of_ble_eq_true rfl | (simp only [ab_rm]; omega)⟩ (Nat.le_of_ble_eq_true rfl) (fun u39 r39 h39 => ?_)
        obtain ⟨e39, rfl⟩ := h39
        subst u39
        rw [mr_nn hj7]
        refine ab_icmp_ne X 48 d_MO_begin_42 rfl (fun h42 => ?_) (fun h42 => ?_)
        ·
          refine ab_iinc5 X 1 0 2 3 4 5 d_MO_begin_48 rfl (by decide) rfl rfl rfl rfl rfl rfl rfl rfl rfl rfl ?_
          refine ab_goto X 7 d_MO_begin_51 rfl ?_
          refine ab_lv (List.forall_mem_cons.mpr ⟨List.mem_of_getElem? (i := 0) rfl, List.forall_mem_cons.mpr ⟨List.mem_of_getElem? (i := 2) rfl, List.forall_mem_cons.mpr ⟨List.mem_of_getElem? (i := 3) rfl, List.forall_mem_cons.mpr ⟨List.mem_of_getElem? (i := 4) rfl, List.forall_mem_cons.mpr ⟨List.mem_of_getElem? (i := 5) rfl, fun _ h => absurd h List.not_mem_nil⟩⟩⟩⟩⟩) ?_
          rw [show nI (j + 1) + Int32.ofInt 1 = nI (j + 1 + 1) from nI_1 (j + 1)]
          first | exact ih (j + 1) n21 _ (by omega) hy2 hn21 | exact ih (j + 1) b _ (by omega) hy2 hb | exact ih (j + 1) n21 _ (by omega) hy hn21 | exact ih (j + 1) b _ (by omega) hy hb
        ·
          have hlt : n21 = ab_sl.getD j 0 := (nI_eq (by omega) (by omega)).mp h42
          have hy2 : nI (j + 1) = 0 ∨ ∃ kk, kk < 7 ∧ nI (j + 1) = nI (kk + 1) ∧ q + ab_sl.getD kk 0 ≤ t := Or.inr ⟨j, hj7, rfl, by omega⟩
          refine ab_iload X 1 d_MO_begin_45 rfl ?_
          refine ab_istore_n5 X 0 1 3 4 5 d_MO_begin_47 rfl (by decide) rfl rfl rfl rfl rfl rfl rfl rfl rfl rfl ?_
          refine ab_iinc5 X 2 0 1 3 4 5 d_MO_begin_48 rfl (by decide) rfl rfl rfl rfl rfl rfl rfl rfl rfl rfl ?_
          refine ab_goto X 7 d_MO_begin_51 rfl ?_
          refine ab_lv (List.forall_mem_cons.mpr ⟨List.mem_of_getElem? (i := 0) rfl, List.forall_mem_cons.mpr ⟨List.mem_of_getElem? (i := 1) rfl, List.forall_mem_cons.mpr ⟨List.mem_of_getElem? (i := 3) rfl, List.forall_mem_cons.mpr ⟨List.mem_of_getElem? (i := 4) rfl, List.forall_mem_cons.mpr ⟨List.mem_of_getElem? (i := 5) rfl, fun _ h => absurd h List.not_mem_nil⟩⟩⟩⟩⟩) ?_
          rw [show nI (j + 1) + Int32.ofInt 1 = nI (j + 1 + 1) from nI_1 (j + 1)]
          first | exact ih (j + 1) n21 _ (by omega) hy2 hn21 | exact ih (j + 1) b _ (by omega) hy2 hb | exact ih (j + 1) n21 _ (by omega) hy hn21 | exact ih (j + 1) b _ (by omega) hy hb
      ·
        refine ab_iload X 0 d_MO_begin_32 rfl ?_
        refine ab_istore_n5 X 0 1 2 4 5 d_MO_begin_34 rfl (by decide) rfl rfl rfl rfl rfl rfl rfl rfl rfl rfl ?_
        refine ab_iload X 1 d_MO_begin_35 rfl ?_
        refine ab_iload X 2 d_MO_begin_37 rfl ?_
        refine ab_callS (as := [ab_I (nI (j + 1))]) X (fun h => by cases h) (c_MO_lettersOf (N := ab_nQ) u j hj7) ls_MO_171 d_MO_begin_39 rfl rfl ⟨by first | exact Nat.le_of_ble_eq_true rfl | (simp only [ab_rm]; omega), by first | exact Nat.le_of_ble_eq_true rfl | (simp only [ab_rm]; omega)⟩ ⟨by first | exact Nat.le_of_ble_eq_true rfl | (simp only [ab_rm]; omega), by first | exact Nat.le_of_ble_eq_true rfl | (simp only [ab_rm]; omega)⟩ (Nat.le_of_ble_eq_true rfl) (fun u39 r39 h39 => ?_)
        obtain ⟨e39, rfl⟩ := h39
        subst u39
        rw [mr_nn hj7]
        refine ab_icmp_ne X 48 d_MO_begin_42 rfl (fun h42 => ?_) (fun h42 => ?_)
        ·
          refine ab_iinc5 X 2 0 1 3 4 5 d_MO_begin_48 rfl (by decide) rfl rfl rfl rfl rfl rfl rfl rfl rfl rfl ?_
          refine ab_goto X 7 d_MO_begin_51 rfl ?_
          refine ab_lv (List.forall_mem_cons.mpr ⟨List.mem_of_getElem? (i := 0) rfl, List.forall_mem_cons.mpr ⟨List.mem_of_getElem? (i := 3) rfl, List.forall_mem_cons.mpr ⟨List.mem_of_getElem? (i := 1) rfl, List.forall_mem_cons.mpr ⟨List.mem_of_getElem? (i := 4) rfl, List.forall_mem_cons.mpr ⟨List.mem_of_getElem? (i := 5) rfl, fun _ h => absurd h List.not_mem_nil⟩⟩⟩⟩⟩) ?_
          rw [show nI (j + 1) + Int32.ofInt 1 = nI (j + 1 + 1) from nI_1 (j + 1)]
          first | exact ih (j + 1) n21 _ (by omega) hy2 hn21 | exact ih (j + 1) b _ (by omega) hy2 hb | exact ih (j + 1) n21 _ (by omega) hy hn21 | exact ih (j + 1) b _ (by omega) hy hb
        ·
          have hlt : n21 = ab_sl.getD j 0 := (nI_eq (by omega) (by omega)).mp h42
          have hy2 : nI (j + 1) = 0 ∨ ∃ kk, kk < 7 ∧ nI (j + 1) = nI (kk + 1) ∧ q + ab_sl.getD kk 0 ≤ t := Or.inr ⟨j, hj7, rfl, by omega⟩
          refine ab_iload X 2 d_MO_begin_45 rfl ?_
          refine ab_istore_n5 X 0 1 2 4 5 d_MO_begin_47 rfl (by decide) rfl rfl rfl rfl rfl rfl rfl rfl rfl rfl ?_
          refine ab_iinc5 X 3 0 1 2 4 5 d_MO_begin_48 rfl (by decide) rfl rfl rfl rfl rfl rfl rfl rfl rfl rfl ?_
          refine ab_goto X 7 d_MO_begin_51 rfl ?_
          refine ab_lv (List.forall_mem_cons.mpr ⟨List.mem_of_getElem? (i := 0) rfl, List.forall_mem_cons.mpr ⟨List.mem_of_getElem? (i := 1) rfl, List.forall_mem_cons.mpr ⟨List.mem_of_getElem? (i := 2) rfl, List.forall_mem_cons.mpr ⟨List.mem_of_getElem? (i := 4) rfl, List.forall_mem_cons.mpr ⟨List.mem_of_getElem? (i := 5) rfl, fun _ h => absurd h List.not_mem_nil⟩⟩⟩⟩⟩) ?_
          rw [show nI (j + 1) + Int32.ofInt 1 = nI (j + 1 + 1) from nI_1 (j + 1)]
          first | exact ih (j + 1) n21 _ (by omega) hy2 hn21 | exact ih (j + 1) b _ (by omega) hy2 hb | exact ih (j + 1) n21 _ (by omega) hy hn21 | exact ih (j + 1) b _ (by omega) hy hb
  refine ab_iconst (v := 0) X d_MO_begin_0 (by decide) ?_
  refine ab_istore_n2 X 0 1 d_MO_begin_1 rfl (by decide) rfl rfl rfl rfl ?_
  refine ab_iconst (v := 0) X d_MO_begin_2 (by decide) ?_
  refine ab_istore_n3 X 0 1 2 d_MO_begin_3 rfl (by decide) rfl rfl rfl rfl rfl rfl ?_
  refine ab_iconst (v := 1) X d_MO_begin_4 (by decide) ?_
  refine ab_istore4 X 0 1 2 3 d_MO_begin_5 (by decide) rfl rfl rfl rfl rfl rfl rfl rfl ?_
  exact loop 7 0 0 _ rfl (Or.inl rfl) (by decide)
end SaMBegin

