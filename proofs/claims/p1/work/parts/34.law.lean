/-! The law's body on one call. -/
theorem la_and (x : Int32) : ∃ k : Nat, k < 16 ∧ x &&& 15 = nI k := by
  have h1 : (x &&& 15).toBitVec.toNat < 16 := by
    show (x.toBitVec &&& (15 : Int32).toBitVec).toNat < 16
    rw [BitVec.toNat_and]
    exact Nat.lt_of_le_of_lt Nat.and_le_right (by decide)
  refine ⟨(x &&& 15).toBitVec.toNat, h1, Int32.toBitVec_inj.mp ?_⟩
  show _ = BitVec.ofNat 32 _
  rw [BitVec.ofNat_toNat]
  simp
theorem la_cmp (x : Int64) : lg_cmp x x = 0 := by simp [lg_cmp]
theorem tc_keep (cs : List Int32) {c i k : Nat} (h : c ≠ 11) : ∀ q : ab_S × Option Nat, (tc_run cs q).1.1 c i k = q.1.1 c i k := by
  induction cs with
  | nil => exact fun _ => rfl
  | cons a cs ih =>
    intro q
    refine (ih _).trans ?_
    obtain ⟨u, o⟩ := q
    cases o with
    | none => rfl
    | some j =>
      show (tc_st u (some j) a).1.1 c i k = u.1 c i k
      by_cases h0 : a = 0
      · rw [tc_st0 h0]
      · by_cases hb : a < 33 ∨ 126 < a
        · rw [tc_stb h0 hb]
        · rw [tc_stg h0 hb]
          exact ab_up_n _ _ (fun z => h z.1)
theorem tx_refs (q : ab_S × Option Nat) : (tx_s q).2 = q.1.2 := by
  obtain ⟨u, o⟩ := q
  cases o with
  | none => rfl
  | some k =>
    show (if k ≤ 100 then ab_ui u 1 0 3 (nI k) else u).2 = u.2
    by_cases h : k ≤ 100
    · rw [if_pos h]
    · rw [if_neg h]
theorem tx_keep (q : ab_S × Option Nat) {c i k : Nat} (h : c ≠ 1) : (tx_s q).1 c i k = q.1.1 c i k := by
  obtain ⟨u, o⟩ := q
  cases o with
  | none => rfl
  | some j =>
    show (if j ≤ 100 then ab_ui u 1 0 3 (nI j) else u).1 c i k = u.1 c i k
    by_cases hj : j ≤ 100
    · rw [if_pos hj]; exact ab_up_n _ _ (fun z => h z.1)
    · rw [if_neg hj]
def lw_Q (_ : Array Value) (s : State) (o : Outcome) (t : State) : Prop := o = .returned (some (.int 1)) ∧ Framed s o t [] 600002 7302232
def lw_Z (below : List Frame) (a : Array Value) (s : State) : State → Prop := fun t => ∃ o, t.status = .running ∧ Ended t below o ∧ lw_Q a s o t
/-- the law's own end, with 1 on the stack, nothing written that was there before, its room as the claim has it -/
theorem lw_ret {p : Program} {l : Launch} {e : Env} {s : State} {m : MethodId} {below : List Frame} {meth : Method} {c : Code} {b : Nat} (hx : p.tables.exec = Jvm.exec) (hb : c.code = code) (hr : meth.sig.returnType = ret) (hlocks : meth.locks = false) {pc : Nat} {H : Heap} {ls : Array Slot} (hdg : decode code pc = .ok (.ireturn, 1)) : W p l e room_1 s m #[Value.ref b] below meth c H [] 600002 7302232 (lw_Z below #[Value.ref b] s) (F0 m pc ls [.int 1]) := by
  intro T hT X
  obtain ⟨fs, hret, hrun, hended, hW, hframe⟩ := X.leave (v := some (.int 1)) (hlocks := hlocks) (fun h => by rw [hr] at h; cases h)
  have hmeth' : T.vm.method? m = some meth := X.method'
  refine ⟨T.setFrames fs, ?_, .returned (some (.int 1)), hrun, hended, rfl, ⟨_, rfl⟩, hW, hframe⟩
  jvm_step X.here [X.here.top, hx, hb, hdg, hmeth', hr, ret, narrow_b1]
  (try refine ⟨rfl, ?_⟩); (try refine ⟨rfl, ?_⟩)
  first | (intro acts; rw [hret _ acts rfl rfl rfl]) | rw [hret _ _ rfl rfl rfl]
  exact Steps.refl _
section AbLaw
variable {l : Launch} {D : va_G} {ca : Nat → ClassId} {N : Nat → Nat} {p : Program} {e : Env} {s : State} {m : MethodId} {below : List Frame} {meth : Method} {c : Code} {b : Nat} {ad : ab_Ad} {xs : Nat → Int32}
theorem la_end (X : ab_X p s m #[Value.ref b] c code "PolicyForgeLaw" 7 D ca (fun q => s.heap.size ≤ q) s.heap) (hr : meth.sig.returnType = ret) (hlk : meth.locks = false) {k n : Nat} (hk : k ≤ 600002) (hn : n ≤ 7302232) {pc : Nat} (hd : decode code pc = .ok (.ireturn, 1)) {u : ab_S} {lv : List (Nat × ab_V)} : ab_J p l e room_1 s m #[Value.ref b] below meth c (lw_Z below #[Value.ref b] s) D ca (fun q => s.heap.size ≤ q) s.heap 7 k n ad N u pc lv [ab_I 1] := fun H locs ls hW hS hl =>
  va_forget (fun q hq => hS.2.2 q hq) (W.widen hk hn (lw_ret X.1 X.2.1 hr hlk hd))
abbrev b_LW_law : ByteArray := code
def y_LW_law : MethodName := ⟨"PolicyForgeLaw", "law", "([I)Z"⟩
theorem d_LW_law_0 : decode b_LW_law 0 = .ok (.new 8, 3) := by decide +kernel
theorem d_LW_law_3 : decode b_LW_law 3 = .ok (.dup, 1) := by decide +kernel
theorem d_LW_law_4 : decode b_LW_law 4 = .ok (.invokespecial 46, 3) := by decide +kernel
theorem d_LW_law_7 : decode b_LW_law 7 = .ok (.astore_n 1, 1) := by decide +kernel
theorem d_LW_law_8 : decode b_LW_law 8 = .ok (.new 47, 3) := by decide +kernel
theorem d_LW_law_11 : decode b_LW_law 11 = .ok (.dup, 1) := by decide +kernel
theorem d_LW_law_12 : decode b_LW_law 12 = .ok (.invokespecial 49, 3) := by decide +kernel
theorem d_LW_law_15 : decode b_LW_law 15 = .ok (.astore_n 2, 1) := by decide +kernel
theorem d_LW_law_16 : decode b_LW_law 16 = .ok (.iconst 1, 1) := by decide +kernel
theorem d_LW_law_17 : decode b_LW_law 17 = .ok (.newarray .long, 2) := by decide +kernel
theorem d_LW_law_19 : decode b_LW_law 19 = .ok (.astore_n 3, 1) := by decide +kernel
theorem d_LW_law_20 : decode b_LW_law 20 = .ok (.iconst 0, 1) := by decide +kernel
theorem d_LW_law_21 : decode b_LW_law 21 = .ok (.istore 4, 2) := by decide +kernel
theorem d_LW_law_23 : decode b_LW_law 23 = .ok (.iload 4, 2) := by decide +kernel
theorem d_LW_law_25 : decode b_LW_law 25 = .ok (.aload_n 0, 1) := by decide +kernel
theorem d_LW_law_26 : decode b_LW_law 26 = .ok (.arraylength, 1) := by decide +kernel
theorem d_LW_law_27 : decode b_LW_law 27 = .ok (.bipush 6, 2) := by decide +kernel
theorem d_LW_law_29 : decode b_LW_law 29 = .ok (.isub, 1) := by decide +kernel
theorem d_LW_law_30 : decode b_LW_law 30 = .ok (.if_icmp .gt 717, 3) := by decide +kernel
theorem d_LW_law_33 : decode b_LW_law 33 = .ok (.aload_n 0, 1) := by decide +kernel
theorem d_LW_law_34 : decode b_LW_law 34 = .ok (.iload 4, 2) := by decide +kernel
theorem d_LW_law_36 : decode b_LW_law 36 = .ok (.iaload, 1) := by decide +kernel
theorem d_LW_law_37 : decode b_LW_law 37 = .ok (.bipush 15, 2) := by decide +kernel
theorem d_LW_law_39 : decode b_LW_law 39 = .ok (.iand, 1) := by decide +kernel
theorem d_LW_law_40 : decode b_LW_law 40 = .ok (.tableswitch 701 0 11 #[64, 137, 181, 194, 293, 349, 405, 497, 553, 564, 620, 688], 64) := by decide +kernel
theorem d_LW_law_104 : decode b_LW_law 104 = .ok (.aload_n 1, 1) := by decide +kernel
theorem d_LW_law_105 : decode b_LW_law 105 = .ok (.aload_n 0, 1) := by decide +kernel
theorem d_LW_law_106 : decode b_LW_law 106 = .ok (.iload 4, 2) := by decide +kernel
theorem d_LW_law_108 : decode b_LW_law 108 = .ok (.iconst 1, 1) := by decide +kernel
theorem d_LW_law_109 : decode b_LW_law 109 = .ok (.iadd, 1) := by decide +kernel
theorem d_LW_law_110 : decode b_LW_law 110 = .ok (.iaload, 1) := by decide +kernel
theorem d_LW_law_111 : decode b_LW_law 111 = .ok (.aload_n 0, 1) := by decide +kernel
theorem d_LW_law_112 : decode b_LW_law 112 = .ok (.iload 4, 2) := by decide +kernel
theorem d_LW_law_114 : decode b_LW_law 114 = .ok (.iconst 2, 1) := by decide +kernel
theorem d_LW_law_115 : decode b_LW_law 115 = .ok (.iadd, 1) := by decide +kernel
theorem d_LW_law_116 : decode b_LW_law 116 = .ok (.iaload, 1) := by decide +kernel
theorem d_LW_law_117 : decode b_LW_law 117 = .ok (.aload_n 0, 1) := by decide +kernel
theorem d_LW_law_118 : decode b_LW_law 118 = .ok (.iload 4, 2) := by decide +kernel
theorem d_LW_law_120 : decode b_LW_law 120 = .ok (.iconst 3, 1) := by decide +kernel
theorem d_LW_law_121 : decode b_LW_law 121 = .ok (.iadd, 1) := by decide +kernel
theorem d_LW_law_122 : decode b_LW_law 122 = .ok (.iaload, 1) := by decide +kernel
theorem d_LW_law_123 : decode b_LW_law 123 = .ok (.aload_n 0, 1) := by decide +kernel
theorem d_LW_law_124 : decode b_LW_law 124 = .ok (.iload 4, 2) := by decide +kernel
theorem d_LW_law_126 : decode b_LW_law 126 = .ok (.iconst 4, 1) := by decide +kernel
theorem d_LW_law_127 : decode b_LW_law 127 = .ok (.iadd, 1) := by decide +kernel
theorem d_LW_law_128 : decode b_LW_law 128 = .ok (.iaload, 1) := by decide +kernel
theorem d_LW_law_129 : decode b_LW_law 129 = .ok (.aload_n 0, 1) := by decide +kernel
theorem d_LW_law_130 : decode b_LW_law 130 = .ok (.iload 4, 2) := by decide +kernel
theorem d_LW_law_132 : decode b_LW_law 132 = .ok (.iconst 5, 1) := by decide +kernel
theorem d_LW_law_133 : decode b_LW_law 133 = .ok (.iadd, 1) := by decide +kernel
theorem d_LW_law_134 : decode b_LW_law 134 = .ok (.iaload, 1) := by decide +kernel
theorem d_LW_law_135 : decode b_LW_law 135 = .ok (.invokevirtual 50, 3) := by decide +kernel
theorem d_LW_law_138 : decode b_LW_law 138 = .ok (.aload_n 2, 1) := by decide +kernel
theorem d_LW_law_139 : decode b_LW_law 139 = .ok (.aload_n 0, 1) := by decide +kernel
theorem d_LW_law_140 : decode b_LW_law 140 = .ok (.iload 4, 2) := by decide +kernel
theorem d_LW_law_142 : decode b_LW_law 142 = .ok (.iconst 1, 1) := by decide +kernel
theorem d_LW_law_143 : decode b_LW_law 143 = .ok (.iadd, 1) := by decide +kernel
theorem d_LW_law_144 : decode b_LW_law 144 = .ok (.iaload, 1) := by decide +kernel
theorem d_LW_law_145 : decode b_LW_law 145 = .ok (.aload_n 0, 1) := by decide +kernel
theorem d_LW_law_146 : decode b_LW_law 146 = .ok (.iload 4, 2) := by decide +kernel
theorem d_LW_law_148 : decode b_LW_law 148 = .ok (.iconst 2, 1) := by decide +kernel
theorem d_LW_law_149 : decode b_LW_law 149 = .ok (.iadd, 1) := by decide +kernel
theorem d_LW_law_150 : decode b_LW_law 150 = .ok (.iaload, 1) := by decide +kernel
theorem d_LW_law_151 : decode b_LW_law 151 = .ok (.aload_n 0, 1) := by decide +kernel
theorem d_LW_law_152 : decode b_LW_law 152 = .ok (.iload 4, 2) := by decide +kernel
theorem d_LW_law_154 : decode b_LW_law 154 = .ok (.iconst 3, 1) := by decide +kernel
theorem d_LW_law_155 : decode b_LW_law 155 = .ok (.iadd, 1) := by decide +kernel
theorem d_LW_law_156 : decode b_LW_law 156 = .ok (.iaload, 1) := by decide +kernel
theorem d_LW_law_157 : decode b_LW_law 157 = .ok (.aload_n 0, 1) := by decide +kernel
theorem d_LW_law_158 : decode b_LW_law 158 = .ok (.iload 4, 2) := by decide +kernel
theorem d_LW_law_160 : decode b_LW_law 160 = .ok (.iconst 4, 1) := by decide +kernel
theorem d_LW_law_161 : decode b_LW_law 161 = .ok (.iadd, 1) := by decide +kernel
theorem d_LW_law_162 : decode b_LW_law 162 = .ok (.iaload, 1) := by decide +kernel
theorem d_LW_law_163 : decode b_LW_law 163 = .ok (.aload_n 0, 1) := by decide +kernel
theorem d_LW_law_164 : decode b_LW_law 164 = .ok (.iload 4, 2) := by decide +kernel
theorem d_LW_law_166 : decode b_LW_law 166 = .ok (.iconst 5, 1) := by decide +kernel
theorem d_LW_law_167 : decode b_LW_law 167 = .ok (.iadd, 1) := by decide +kernel
theorem d_LW_law_168 : decode b_LW_law 168 = .ok (.iaload, 1) := by decide +kernel
theorem d_LW_law_169 : decode b_LW_law 169 = .ok (.invokevirtual 54, 3) := by decide +kernel
theorem d_LW_law_172 : decode b_LW_law 172 = .ok (.if_icmp .eq 569, 3) := by decide +kernel
theorem d_LW_law_175 : decode b_LW_law 175 = .ok (.iconst 0, 1) := by decide +kernel
theorem d_LW_law_176 : decode b_LW_law 176 = .ok (.ireturn, 1) := by decide +kernel
theorem d_LW_law_177 : decode b_LW_law 177 = .ok (.aload_n 1, 1) := by decide +kernel
theorem d_LW_law_178 : decode b_LW_law 178 = .ok (.aload_n 3, 1) := by decide +kernel
theorem d_LW_law_179 : decode b_LW_law 179 = .ok (.invokestatic 55, 3) := by decide +kernel
theorem d_LW_law_182 : decode b_LW_law 182 = .ok (.istore 5, 2) := by decide +kernel
theorem d_LW_law_184 : decode b_LW_law 184 = .ok (.aload_n 2, 1) := by decide +kernel
theorem d_LW_law_185 : decode b_LW_law 185 = .ok (.invokevirtual 60, 3) := by decide +kernel
theorem d_LW_law_188 : decode b_LW_law 188 = .ok (.istore 6, 2) := by decide +kernel
theorem d_LW_law_190 : decode b_LW_law 190 = .ok (.aload_n 2, 1) := by decide +kernel
theorem d_LW_law_191 : decode b_LW_law 191 = .ok (.invokevirtual 61, 3) := by decide +kernel
theorem d_LW_law_194 : decode b_LW_law 194 = .ok (.iload 5, 2) := by decide +kernel
theorem d_LW_law_196 : decode b_LW_law 196 = .ok (.if_icmp .eq 5, 3) := by decide +kernel
theorem d_LW_law_199 : decode b_LW_law 199 = .ok (.iconst 0, 1) := by decide +kernel
theorem d_LW_law_200 : decode b_LW_law 200 = .ok (.ireturn, 1) := by decide +kernel
theorem d_LW_law_201 : decode b_LW_law 201 = .ok (.iload 5, 2) := by decide +kernel
theorem d_LW_law_203 : decode b_LW_law 203 = .ok (.ifCond .ne 15, 3) := by decide +kernel
theorem d_LW_law_206 : decode b_LW_law 206 = .ok (.aload_n 3, 1) := by decide +kernel
theorem d_LW_law_207 : decode b_LW_law 207 = .ok (.iconst 0, 1) := by decide +kernel
theorem d_LW_law_208 : decode b_LW_law 208 = .ok (.laload, 1) := by decide +kernel
theorem d_LW_law_209 : decode b_LW_law 209 = .ok (.iload 6, 2) := by decide +kernel
theorem d_LW_law_211 : decode b_LW_law 211 = .ok (.i2l, 1) := by decide +kernel
theorem d_LW_law_212 : decode b_LW_law 212 = .ok (.lcmp, 1) := by decide +kernel
theorem d_LW_law_213 : decode b_LW_law 213 = .ok (.ifCond .eq 5, 3) := by decide +kernel
theorem d_LW_law_216 : decode b_LW_law 216 = .ok (.iconst 0, 1) := by decide +kernel
theorem d_LW_law_217 : decode b_LW_law 217 = .ok (.ireturn, 1) := by decide +kernel
theorem d_LW_law_218 : decode b_LW_law 218 = .ok (.goto 523, 3) := by decide +kernel
theorem d_LW_law_221 : decode b_LW_law 221 = .ok (.aload_n 1, 1) := by decide +kernel
theorem d_LW_law_222 : decode b_LW_law 222 = .ok (.invokevirtual 64, 3) := by decide +kernel
theorem d_LW_law_225 : decode b_LW_law 225 = .ok (.aload_n 2, 1) := by decide +kernel
theorem d_LW_law_226 : decode b_LW_law 226 = .ok (.invokevirtual 67, 3) := by decide +kernel
theorem d_LW_law_229 : decode b_LW_law 229 = .ok (.if_icmp .eq 512, 3) := by decide +kernel
theorem d_LW_law_232 : decode b_LW_law 232 = .ok (.iconst 0, 1) := by decide +kernel
theorem d_LW_law_233 : decode b_LW_law 233 = .ok (.ireturn, 1) := by decide +kernel
theorem d_LW_law_234 : decode b_LW_law 234 = .ok (.aload_n 1, 1) := by decide +kernel
theorem d_LW_law_235 : decode b_LW_law 235 = .ok (.aload_n 0, 1) := by decide +kernel
theorem d_LW_law_236 : decode b_LW_law 236 = .ok (.iload 4, 2) := by decide +kernel
theorem d_LW_law_238 : decode b_LW_law 238 = .ok (.iconst 1, 1) := by decide +kernel
theorem d_LW_law_239 : decode b_LW_law 239 = .ok (.iadd, 1) := by decide +kernel
theorem d_LW_law_240 : decode b_LW_law 240 = .ok (.iaload, 1) := by decide +kernel
theorem d_LW_law_241 : decode b_LW_law 241 = .ok (.aload_n 0, 1) := by decide +kernel
theorem d_LW_law_242 : decode b_LW_law 242 = .ok (.iload 4, 2) := by decide +kernel
theorem d_LW_law_244 : decode b_LW_law 244 = .ok (.iconst 2, 1) := by decide +kernel
theorem d_LW_law_245 : decode b_LW_law 245 = .ok (.iadd, 1) := by decide +kernel
theorem d_LW_law_246 : decode b_LW_law 246 = .ok (.iaload, 1) := by decide +kernel
theorem d_LW_law_247 : decode b_LW_law 247 = .ok (.aload_n 0, 1) := by decide +kernel
theorem d_LW_law_248 : decode b_LW_law 248 = .ok (.iload 4, 2) := by decide +kernel
theorem d_LW_law_250 : decode b_LW_law 250 = .ok (.iconst 3, 1) := by decide +kernel
theorem d_LW_law_251 : decode b_LW_law 251 = .ok (.iadd, 1) := by decide +kernel
theorem d_LW_law_252 : decode b_LW_law 252 = .ok (.iaload, 1) := by decide +kernel
theorem d_LW_law_253 : decode b_LW_law 253 = .ok (.aload_n 0, 1) := by decide +kernel
theorem d_LW_law_254 : decode b_LW_law 254 = .ok (.iload 4, 2) := by decide +kernel
theorem d_LW_law_256 : decode b_LW_law 256 = .ok (.iconst 4, 1) := by decide +kernel
theorem d_LW_law_257 : decode b_LW_law 257 = .ok (.iadd, 1) := by decide +kernel
theorem d_LW_law_258 : decode b_LW_law 258 = .ok (.iaload, 1) := by decide +kernel
theorem d_LW_law_259 : decode b_LW_law 259 = .ok (.aload_n 3, 1) := by decide +kernel
theorem d_LW_law_260 : decode b_LW_law 260 = .ok (.invokestatic 68, 3) := by decide +kernel
theorem d_LW_law_263 : decode b_LW_law 263 = .ok (.istore 5, 2) := by decide +kernel
theorem d_LW_law_265 : decode b_LW_law 265 = .ok (.aload_n 2, 1) := by decide +kernel
theorem d_LW_law_266 : decode b_LW_law 266 = .ok (.aload_n 0, 1) := by decide +kernel
theorem d_LW_law_267 : decode b_LW_law 267 = .ok (.iload 4, 2) := by decide +kernel
theorem d_LW_law_269 : decode b_LW_law 269 = .ok (.iconst 1, 1) := by decide +kernel
theorem d_LW_law_270 : decode b_LW_law 270 = .ok (.iadd, 1) := by decide +kernel
theorem d_LW_law_271 : decode b_LW_law 271 = .ok (.iaload, 1) := by decide +kernel
theorem d_LW_law_272 : decode b_LW_law 272 = .ok (.aload_n 0, 1) := by decide +kernel
theorem d_LW_law_273 : decode b_LW_law 273 = .ok (.iload 4, 2) := by decide +kernel
theorem d_LW_law_275 : decode b_LW_law 275 = .ok (.iconst 2, 1) := by decide +kernel
theorem d_LW_law_276 : decode b_LW_law 276 = .ok (.iadd, 1) := by decide +kernel
theorem d_LW_law_277 : decode b_LW_law 277 = .ok (.iaload, 1) := by decide +kernel
theorem d_LW_law_278 : decode b_LW_law 278 = .ok (.aload_n 0, 1) := by decide +kernel
theorem d_LW_law_279 : decode b_LW_law 279 = .ok (.iload 4, 2) := by decide +kernel
theorem d_LW_law_281 : decode b_LW_law 281 = .ok (.iconst 3, 1) := by decide +kernel
theorem d_LW_law_282 : decode b_LW_law 282 = .ok (.iadd, 1) := by decide +kernel
theorem d_LW_law_283 : decode b_LW_law 283 = .ok (.iaload, 1) := by decide +kernel
theorem d_LW_law_284 : decode b_LW_law 284 = .ok (.aload_n 0, 1) := by decide +kernel
theorem d_LW_law_285 : decode b_LW_law 285 = .ok (.iload 4, 2) := by decide +kernel
theorem d_LW_law_287 : decode b_LW_law 287 = .ok (.iconst 4, 1) := by decide +kernel
theorem d_LW_law_288 : decode b_LW_law 288 = .ok (.iadd, 1) := by decide +kernel
theorem d_LW_law_289 : decode b_LW_law 289 = .ok (.iaload, 1) := by decide +kernel
theorem d_LW_law_290 : decode b_LW_law 290 = .ok (.invokevirtual 71, 3) := by decide +kernel
theorem d_LW_law_293 : decode b_LW_law 293 = .ok (.istore 6, 2) := by decide +kernel
theorem d_LW_law_295 : decode b_LW_law 295 = .ok (.aload_n 2, 1) := by decide +kernel
theorem d_LW_law_296 : decode b_LW_law 296 = .ok (.invokevirtual 61, 3) := by decide +kernel
theorem d_LW_law_299 : decode b_LW_law 299 = .ok (.iload 5, 2) := by decide +kernel
theorem d_LW_law_301 : decode b_LW_law 301 = .ok (.if_icmp .eq 5, 3) := by decide +kernel
theorem d_LW_law_304 : decode b_LW_law 304 = .ok (.iconst 0, 1) := by decide +kernel
theorem d_LW_law_305 : decode b_LW_law 305 = .ok (.ireturn, 1) := by decide +kernel
theorem d_LW_law_306 : decode b_LW_law 306 = .ok (.iload 5, 2) := by decide +kernel
theorem d_LW_law_308 : decode b_LW_law 308 = .ok (.ifCond .ne 22, 3) := by decide +kernel
theorem d_LW_law_311 : decode b_LW_law 311 = .ok (.aload_n 3, 1) := by decide +kernel
theorem d_LW_law_312 : decode b_LW_law 312 = .ok (.iconst 0, 1) := by decide +kernel
theorem d_LW_law_313 : decode b_LW_law 313 = .ok (.laload, 1) := by decide +kernel
theorem d_LW_law_314 : decode b_LW_law 314 = .ok (.iload 6, 2) := by decide +kernel
theorem d_LW_law_316 : decode b_LW_law 316 = .ok (.ifCond .eq 7, 3) := by decide +kernel
theorem d_LW_law_319 : decode b_LW_law 319 = .ok (.lconst 1, 1) := by decide +kernel
theorem d_LW_law_320 : decode b_LW_law 320 = .ok (.goto 4, 3) := by decide +kernel
theorem d_LW_law_323 : decode b_LW_law 323 = .ok (.lconst 0, 1) := by decide +kernel
theorem d_LW_law_324 : decode b_LW_law 324 = .ok (.lcmp, 1) := by decide +kernel
theorem d_LW_law_325 : decode b_LW_law 325 = .ok (.ifCond .eq 5, 3) := by decide +kernel
theorem d_LW_law_328 : decode b_LW_law 328 = .ok (.iconst 0, 1) := by decide +kernel
theorem d_LW_law_329 : decode b_LW_law 329 = .ok (.ireturn, 1) := by decide +kernel
theorem d_LW_law_330 : decode b_LW_law 330 = .ok (.goto 411, 3) := by decide +kernel
theorem d_LW_law_333 : decode b_LW_law 333 = .ok (.aload_n 1, 1) := by decide +kernel
theorem d_LW_law_334 : decode b_LW_law 334 = .ok (.aload_n 0, 1) := by decide +kernel
theorem d_LW_law_335 : decode b_LW_law 335 = .ok (.iload 4, 2) := by decide +kernel
theorem d_LW_law_337 : decode b_LW_law 337 = .ok (.iconst 1, 1) := by decide +kernel
theorem d_LW_law_338 : decode b_LW_law 338 = .ok (.iadd, 1) := by decide +kernel
theorem d_LW_law_339 : decode b_LW_law 339 = .ok (.iaload, 1) := by decide +kernel
theorem d_LW_law_340 : decode b_LW_law 340 = .ok (.aload_n 3, 1) := by decide +kernel
theorem d_LW_law_341 : decode b_LW_law 341 = .ok (.invokestatic 72, 3) := by decide +kernel
theorem d_LW_law_344 : decode b_LW_law 344 = .ok (.istore 5, 2) := by decide +kernel
theorem d_LW_law_346 : decode b_LW_law 346 = .ok (.aload_n 2, 1) := by decide +kernel
theorem d_LW_law_347 : decode b_LW_law 347 = .ok (.aload_n 0, 1) := by decide +kernel
theorem d_LW_law_348 : decode b_LW_law 348 = .ok (.iload 4, 2) := by decide +kernel
theorem d_LW_law_350 : decode b_LW_law 350 = .ok (.iconst 1, 1) := by decide +kernel
theorem d_LW_law_351 : decode b_LW_law 351 = .ok (.iadd, 1) := by decide +kernel
theorem d_LW_law_352 : decode b_LW_law 352 = .ok (.iaload, 1) := by decide +kernel
theorem d_LW_law_353 : decode b_LW_law 353 = .ok (.invokevirtual 75, 3) := by decide +kernel
theorem d_LW_law_356 : decode b_LW_law 356 = .ok (.istore 6, 2) := by decide +kernel
theorem d_LW_law_358 : decode b_LW_law 358 = .ok (.aload_n 2, 1) := by decide +kernel
theorem d_LW_law_359 : decode b_LW_law 359 = .ok (.invokevirtual 61, 3) := by decide +kernel
theorem d_LW_law_362 : decode b_LW_law 362 = .ok (.iload 5, 2) := by decide +kernel
theorem d_LW_law_364 : decode b_LW_law 364 = .ok (.if_icmp .eq 5, 3) := by decide +kernel
theorem d_LW_law_367 : decode b_LW_law 367 = .ok (.iconst 0, 1) := by decide +kernel
theorem d_LW_law_368 : decode b_LW_law 368 = .ok (.ireturn, 1) := by decide +kernel
theorem d_LW_law_369 : decode b_LW_law 369 = .ok (.iload 5, 2) := by decide +kernel
theorem d_LW_law_371 : decode b_LW_law 371 = .ok (.ifCond .ne 15, 3) := by decide +kernel
theorem d_LW_law_374 : decode b_LW_law 374 = .ok (.aload_n 3, 1) := by decide +kernel
theorem d_LW_law_375 : decode b_LW_law 375 = .ok (.iconst 0, 1) := by decide +kernel
theorem d_LW_law_376 : decode b_LW_law 376 = .ok (.laload, 1) := by decide +kernel
theorem d_LW_law_377 : decode b_LW_law 377 = .ok (.iload 6, 2) := by decide +kernel
theorem d_LW_law_379 : decode b_LW_law 379 = .ok (.i2l, 1) := by decide +kernel
theorem d_LW_law_380 : decode b_LW_law 380 = .ok (.lcmp, 1) := by decide +kernel
theorem d_LW_law_381 : decode b_LW_law 381 = .ok (.ifCond .eq 5, 3) := by decide +kernel
theorem d_LW_law_384 : decode b_LW_law 384 = .ok (.iconst 0, 1) := by decide +kernel
theorem d_LW_law_385 : decode b_LW_law 385 = .ok (.ireturn, 1) := by decide +kernel
theorem d_LW_law_386 : decode b_LW_law 386 = .ok (.goto 355, 3) := by decide +kernel
theorem d_LW_law_389 : decode b_LW_law 389 = .ok (.aload_n 1, 1) := by decide +kernel
theorem d_LW_law_390 : decode b_LW_law 390 = .ok (.aload_n 0, 1) := by decide +kernel
theorem d_LW_law_391 : decode b_LW_law 391 = .ok (.iload 4, 2) := by decide +kernel
theorem d_LW_law_393 : decode b_LW_law 393 = .ok (.iconst 1, 1) := by decide +kernel
theorem d_LW_law_394 : decode b_LW_law 394 = .ok (.iadd, 1) := by decide +kernel
theorem d_LW_law_395 : decode b_LW_law 395 = .ok (.iaload, 1) := by decide +kernel
theorem d_LW_law_396 : decode b_LW_law 396 = .ok (.aload_n 3, 1) := by decide +kernel
theorem d_LW_law_397 : decode b_LW_law 397 = .ok (.invokestatic 76, 3) := by decide +kernel
theorem d_LW_law_400 : decode b_LW_law 400 = .ok (.istore 5, 2) := by decide +kernel
theorem d_LW_law_402 : decode b_LW_law 402 = .ok (.aload_n 2, 1) := by decide +kernel
theorem d_LW_law_403 : decode b_LW_law 403 = .ok (.aload_n 0, 1) := by decide +kernel
theorem d_LW_law_404 : decode b_LW_law 404 = .ok (.iload 4, 2) := by decide +kernel
theorem d_LW_law_406 : decode b_LW_law 406 = .ok (.iconst 1, 1) := by decide +kernel
theorem d_LW_law_407 : decode b_LW_law 407 = .ok (.iadd, 1) := by decide +kernel
theorem d_LW_law_408 : decode b_LW_law 408 = .ok (.iaload, 1) := by decide +kernel
theorem d_LW_law_409 : decode b_LW_law 409 = .ok (.invokevirtual 78, 3) := by decide +kernel
theorem d_LW_law_412 : decode b_LW_law 412 = .ok (.istore 6, 2) := by decide +kernel
theorem d_LW_law_414 : decode b_LW_law 414 = .ok (.aload_n 2, 1) := by decide +kernel
theorem d_LW_law_415 : decode b_LW_law 415 = .ok (.invokevirtual 61, 3) := by decide +kernel
theorem d_LW_law_418 : decode b_LW_law 418 = .ok (.iload 5, 2) := by decide +kernel
theorem d_LW_law_420 : decode b_LW_law 420 = .ok (.if_icmp .eq 5, 3) := by decide +kernel
theorem d_LW_law_423 : decode b_LW_law 423 = .ok (.iconst 0, 1) := by decide +kernel
theorem d_LW_law_424 : decode b_LW_law 424 = .ok (.ireturn, 1) := by decide +kernel
theorem d_LW_law_425 : decode b_LW_law 425 = .ok (.iload 5, 2) := by decide +kernel
theorem d_LW_law_427 : decode b_LW_law 427 = .ok (.ifCond .ne 15, 3) := by decide +kernel
theorem d_LW_law_430 : decode b_LW_law 430 = .ok (.aload_n 3, 1) := by decide +kernel
theorem d_LW_law_431 : decode b_LW_law 431 = .ok (.iconst 0, 1) := by decide +kernel
theorem d_LW_law_432 : decode b_LW_law 432 = .ok (.laload, 1) := by decide +kernel
theorem d_LW_law_433 : decode b_LW_law 433 = .ok (.iload 6, 2) := by decide +kernel
theorem d_LW_law_435 : decode b_LW_law 435 = .ok (.i2l, 1) := by decide +kernel
theorem d_LW_law_436 : decode b_LW_law 436 = .ok (.lcmp, 1) := by decide +kernel
theorem d_LW_law_437 : decode b_LW_law 437 = .ok (.ifCond .eq 5, 3) := by decide +kernel
theorem d_LW_law_440 : decode b_LW_law 440 = .ok (.iconst 0, 1) := by decide +kernel
theorem d_LW_law_441 : decode b_LW_law 441 = .ok (.ireturn, 1) := by decide +kernel
theorem d_LW_law_442 : decode b_LW_law 442 = .ok (.goto 299, 3) := by decide +kernel
theorem d_LW_law_445 : decode b_LW_law 445 = .ok (.aload_n 1, 1) := by decide +kernel
theorem d_LW_law_446 : decode b_LW_law 446 = .ok (.aload_n 0, 1) := by decide +kernel
theorem d_LW_law_447 : decode b_LW_law 447 = .ok (.iload 4, 2) := by decide +kernel
theorem d_LW_law_449 : decode b_LW_law 449 = .ok (.iconst 1, 1) := by decide +kernel
theorem d_LW_law_450 : decode b_LW_law 450 = .ok (.iadd, 1) := by decide +kernel
theorem d_LW_law_451 : decode b_LW_law 451 = .ok (.iaload, 1) := by decide +kernel
theorem d_LW_law_452 : decode b_LW_law 452 = .ok (.aload_n 0, 1) := by decide +kernel
theorem d_LW_law_453 : decode b_LW_law 453 = .ok (.iload 4, 2) := by decide +kernel
theorem d_LW_law_455 : decode b_LW_law 455 = .ok (.iconst 2, 1) := by decide +kernel
theorem d_LW_law_456 : decode b_LW_law 456 = .ok (.iadd, 1) := by decide +kernel
theorem d_LW_law_457 : decode b_LW_law 457 = .ok (.iaload, 1) := by decide +kernel
theorem d_LW_law_458 : decode b_LW_law 458 = .ok (.aload_n 0, 1) := by decide +kernel
theorem d_LW_law_459 : decode b_LW_law 459 = .ok (.iload 4, 2) := by decide +kernel
theorem d_LW_law_461 : decode b_LW_law 461 = .ok (.iconst 3, 1) := by decide +kernel
theorem d_LW_law_462 : decode b_LW_law 462 = .ok (.iadd, 1) := by decide +kernel
theorem d_LW_law_463 : decode b_LW_law 463 = .ok (.iaload, 1) := by decide +kernel
theorem d_LW_law_464 : decode b_LW_law 464 = .ok (.aload_n 0, 1) := by decide +kernel
theorem d_LW_law_465 : decode b_LW_law 465 = .ok (.iload 4, 2) := by decide +kernel
theorem d_LW_law_467 : decode b_LW_law 467 = .ok (.iconst 4, 1) := by decide +kernel
theorem d_LW_law_468 : decode b_LW_law 468 = .ok (.iadd, 1) := by decide +kernel
theorem d_LW_law_469 : decode b_LW_law 469 = .ok (.iaload, 1) := by decide +kernel
theorem d_LW_law_470 : decode b_LW_law 470 = .ok (.aload_n 3, 1) := by decide +kernel
theorem d_LW_law_471 : decode b_LW_law 471 = .ok (.invokestatic 79, 3) := by decide +kernel
theorem d_LW_law_474 : decode b_LW_law 474 = .ok (.istore 5, 2) := by decide +kernel
theorem d_LW_law_476 : decode b_LW_law 476 = .ok (.aload_n 2, 1) := by decide +kernel
theorem d_LW_law_477 : decode b_LW_law 477 = .ok (.aload_n 0, 1) := by decide +kernel
theorem d_LW_law_478 : decode b_LW_law 478 = .ok (.iload 4, 2) := by decide +kernel
theorem d_LW_law_480 : decode b_LW_law 480 = .ok (.iconst 1, 1) := by decide +kernel
theorem d_LW_law_481 : decode b_LW_law 481 = .ok (.iadd, 1) := by decide +kernel
theorem d_LW_law_482 : decode b_LW_law 482 = .ok (.iaload, 1) := by decide +kernel
theorem d_LW_law_483 : decode b_LW_law 483 = .ok (.aload_n 0, 1) := by decide +kernel
theorem d_LW_law_484 : decode b_LW_law 484 = .ok (.iload 4, 2) := by decide +kernel
theorem d_LW_law_486 : decode b_LW_law 486 = .ok (.iconst 2, 1) := by decide +kernel
theorem d_LW_law_487 : decode b_LW_law 487 = .ok (.iadd, 1) := by decide +kernel
theorem d_LW_law_488 : decode b_LW_law 488 = .ok (.iaload, 1) := by decide +kernel
theorem d_LW_law_489 : decode b_LW_law 489 = .ok (.aload_n 0, 1) := by decide +kernel
theorem d_LW_law_490 : decode b_LW_law 490 = .ok (.iload 4, 2) := by decide +kernel
theorem d_LW_law_492 : decode b_LW_law 492 = .ok (.iconst 3, 1) := by decide +kernel
theorem d_LW_law_493 : decode b_LW_law 493 = .ok (.iadd, 1) := by decide +kernel
theorem d_LW_law_494 : decode b_LW_law 494 = .ok (.iaload, 1) := by decide +kernel
theorem d_LW_law_495 : decode b_LW_law 495 = .ok (.aload_n 0, 1) := by decide +kernel
theorem d_LW_law_496 : decode b_LW_law 496 = .ok (.iload 4, 2) := by decide +kernel
theorem d_LW_law_498 : decode b_LW_law 498 = .ok (.iconst 4, 1) := by decide +kernel
theorem d_LW_law_499 : decode b_LW_law 499 = .ok (.iadd, 1) := by decide +kernel
theorem d_LW_law_500 : decode b_LW_law 500 = .ok (.iaload, 1) := by decide +kernel
theorem d_LW_law_501 : decode b_LW_law 501 = .ok (.invokevirtual 81, 3) := by decide +kernel
theorem d_LW_law_504 : decode b_LW_law 504 = .ok (.istore 6, 2) := by decide +kernel
theorem d_LW_law_506 : decode b_LW_law 506 = .ok (.aload_n 2, 1) := by decide +kernel
theorem d_LW_law_507 : decode b_LW_law 507 = .ok (.invokevirtual 61, 3) := by decide +kernel
theorem d_LW_law_510 : decode b_LW_law 510 = .ok (.iload 5, 2) := by decide +kernel
theorem d_LW_law_512 : decode b_LW_law 512 = .ok (.if_icmp .eq 5, 3) := by decide +kernel
theorem d_LW_law_515 : decode b_LW_law 515 = .ok (.iconst 0, 1) := by decide +kernel
theorem d_LW_law_516 : decode b_LW_law 516 = .ok (.ireturn, 1) := by decide +kernel
theorem d_LW_law_517 : decode b_LW_law 517 = .ok (.iload 5, 2) := by decide +kernel
theorem d_LW_law_519 : decode b_LW_law 519 = .ok (.ifCond .ne 15, 3) := by decide +kernel
theorem d_LW_law_522 : decode b_LW_law 522 = .ok (.aload_n 3, 1) := by decide +kernel
theorem d_LW_law_523 : decode b_LW_law 523 = .ok (.iconst 0, 1) := by decide +kernel
theorem d_LW_law_524 : decode b_LW_law 524 = .ok (.laload, 1) := by decide +kernel
theorem d_LW_law_525 : decode b_LW_law 525 = .ok (.iload 6, 2) := by decide +kernel
theorem d_LW_law_527 : decode b_LW_law 527 = .ok (.i2l, 1) := by decide +kernel
theorem d_LW_law_528 : decode b_LW_law 528 = .ok (.lcmp, 1) := by decide +kernel
theorem d_LW_law_529 : decode b_LW_law 529 = .ok (.ifCond .eq 5, 3) := by decide +kernel
theorem d_LW_law_532 : decode b_LW_law 532 = .ok (.iconst 0, 1) := by decide +kernel
theorem d_LW_law_533 : decode b_LW_law 533 = .ok (.ireturn, 1) := by decide +kernel
theorem d_LW_law_534 : decode b_LW_law 534 = .ok (.goto 207, 3) := by decide +kernel
theorem d_LW_law_537 : decode b_LW_law 537 = .ok (.aload_n 1, 1) := by decide +kernel
theorem d_LW_law_538 : decode b_LW_law 538 = .ok (.aload_n 0, 1) := by decide +kernel
theorem d_LW_law_539 : decode b_LW_law 539 = .ok (.iload 4, 2) := by decide +kernel
theorem d_LW_law_541 : decode b_LW_law 541 = .ok (.iconst 1, 1) := by decide +kernel
theorem d_LW_law_542 : decode b_LW_law 542 = .ok (.iadd, 1) := by decide +kernel
theorem d_LW_law_543 : decode b_LW_law 543 = .ok (.iaload, 1) := by decide +kernel
theorem d_LW_law_544 : decode b_LW_law 544 = .ok (.aload_n 3, 1) := by decide +kernel
theorem d_LW_law_545 : decode b_LW_law 545 = .ok (.invokestatic 82, 3) := by decide +kernel
theorem d_LW_law_548 : decode b_LW_law 548 = .ok (.istore 5, 2) := by decide +kernel
theorem d_LW_law_550 : decode b_LW_law 550 = .ok (.aload_n 2, 1) := by decide +kernel
theorem d_LW_law_551 : decode b_LW_law 551 = .ok (.aload_n 0, 1) := by decide +kernel
theorem d_LW_law_552 : decode b_LW_law 552 = .ok (.iload 4, 2) := by decide +kernel
theorem d_LW_law_554 : decode b_LW_law 554 = .ok (.iconst 1, 1) := by decide +kernel
theorem d_LW_law_555 : decode b_LW_law 555 = .ok (.iadd, 1) := by decide +kernel
theorem d_LW_law_556 : decode b_LW_law 556 = .ok (.iaload, 1) := by decide +kernel
theorem d_LW_law_557 : decode b_LW_law 557 = .ok (.invokevirtual 84, 3) := by decide +kernel
theorem d_LW_law_560 : decode b_LW_law 560 = .ok (.istore 6, 2) := by decide +kernel
theorem d_LW_law_562 : decode b_LW_law 562 = .ok (.aload_n 2, 1) := by decide +kernel
theorem d_LW_law_563 : decode b_LW_law 563 = .ok (.invokevirtual 61, 3) := by decide +kernel
theorem d_LW_law_566 : decode b_LW_law 566 = .ok (.iload 5, 2) := by decide +kernel
theorem d_LW_law_568 : decode b_LW_law 568 = .ok (.if_icmp .eq 5, 3) := by decide +kernel
theorem d_LW_law_571 : decode b_LW_law 571 = .ok (.iconst 0, 1) := by decide +kernel
theorem d_LW_law_572 : decode b_LW_law 572 = .ok (.ireturn, 1) := by decide +kernel
theorem d_LW_law_573 : decode b_LW_law 573 = .ok (.iload 5, 2) := by decide +kernel
theorem d_LW_law_575 : decode b_LW_law 575 = .ok (.ifCond .ne 15, 3) := by decide +kernel
theorem d_LW_law_578 : decode b_LW_law 578 = .ok (.aload_n 3, 1) := by decide +kernel
theorem d_LW_law_579 : decode b_LW_law 579 = .ok (.iconst 0, 1) := by decide +kernel
theorem d_LW_law_580 : decode b_LW_law 580 = .ok (.laload, 1) := by decide +kernel
theorem d_LW_law_581 : decode b_LW_law 581 = .ok (.iload 6, 2) := by decide +kernel
theorem d_LW_law_583 : decode b_LW_law 583 = .ok (.i2l, 1) := by decide +kernel
theorem d_LW_law_584 : decode b_LW_law 584 = .ok (.lcmp, 1) := by decide +kernel
theorem d_LW_law_585 : decode b_LW_law 585 = .ok (.ifCond .eq 5, 3) := by decide +kernel
theorem d_LW_law_588 : decode b_LW_law 588 = .ok (.iconst 0, 1) := by decide +kernel
theorem d_LW_law_589 : decode b_LW_law 589 = .ok (.ireturn, 1) := by decide +kernel
theorem d_LW_law_590 : decode b_LW_law 590 = .ok (.goto 151, 3) := by decide +kernel
theorem d_LW_law_593 : decode b_LW_law 593 = .ok (.aload_n 1, 1) := by decide +kernel
theorem d_LW_law_594 : decode b_LW_law 594 = .ok (.invokevirtual 85, 3) := by decide +kernel
theorem d_LW_law_597 : decode b_LW_law 597 = .ok (.aload_n 2, 1) := by decide +kernel
theorem d_LW_law_598 : decode b_LW_law 598 = .ok (.invokevirtual 88, 3) := by decide +kernel
theorem d_LW_law_601 : decode b_LW_law 601 = .ok (.goto 140, 3) := by decide +kernel
theorem d_LW_law_604 : decode b_LW_law 604 = .ok (.aload_n 1, 1) := by decide +kernel
theorem d_LW_law_605 : decode b_LW_law 605 = .ok (.aload_n 0, 1) := by decide +kernel
theorem d_LW_law_606 : decode b_LW_law 606 = .ok (.iload 4, 2) := by decide +kernel
theorem d_LW_law_608 : decode b_LW_law 608 = .ok (.iconst 1, 1) := by decide +kernel
theorem d_LW_law_609 : decode b_LW_law 609 = .ok (.iadd, 1) := by decide +kernel
theorem d_LW_law_610 : decode b_LW_law 610 = .ok (.iaload, 1) := by decide +kernel
theorem d_LW_law_611 : decode b_LW_law 611 = .ok (.aload_n 3, 1) := by decide +kernel
theorem d_LW_law_612 : decode b_LW_law 612 = .ok (.invokestatic 89, 3) := by decide +kernel
theorem d_LW_law_615 : decode b_LW_law 615 = .ok (.istore 5, 2) := by decide +kernel
theorem d_LW_law_617 : decode b_LW_law 617 = .ok (.aload_n 2, 1) := by decide +kernel
theorem d_LW_law_618 : decode b_LW_law 618 = .ok (.aload_n 0, 1) := by decide +kernel
theorem d_LW_law_619 : decode b_LW_law 619 = .ok (.iload 4, 2) := by decide +kernel
theorem d_LW_law_621 : decode b_LW_law 621 = .ok (.iconst 1, 1) := by decide +kernel
theorem d_LW_law_622 : decode b_LW_law 622 = .ok (.iadd, 1) := by decide +kernel
theorem d_LW_law_623 : decode b_LW_law 623 = .ok (.iaload, 1) := by decide +kernel
theorem d_LW_law_624 : decode b_LW_law 624 = .ok (.invokevirtual 91, 3) := by decide +kernel
theorem d_LW_law_627 : decode b_LW_law 627 = .ok (.istore 6, 2) := by decide +kernel
theorem d_LW_law_629 : decode b_LW_law 629 = .ok (.aload_n 2, 1) := by decide +kernel
theorem d_LW_law_630 : decode b_LW_law 630 = .ok (.invokevirtual 61, 3) := by decide +kernel
theorem d_LW_law_633 : decode b_LW_law 633 = .ok (.iload 5, 2) := by decide +kernel
theorem d_LW_law_635 : decode b_LW_law 635 = .ok (.if_icmp .eq 5, 3) := by decide +kernel
theorem d_LW_law_638 : decode b_LW_law 638 = .ok (.iconst 0, 1) := by decide +kernel
theorem d_LW_law_639 : decode b_LW_law 639 = .ok (.ireturn, 1) := by decide +kernel
theorem d_LW_law_640 : decode b_LW_law 640 = .ok (.iload 5, 2) := by decide +kernel
theorem d_LW_law_642 : decode b_LW_law 642 = .ok (.ifCond .ne 15, 3) := by decide +kernel
theorem d_LW_law_645 : decode b_LW_law 645 = .ok (.aload_n 3, 1) := by decide +kernel
theorem d_LW_law_646 : decode b_LW_law 646 = .ok (.iconst 0, 1) := by decide +kernel
theorem d_LW_law_647 : decode b_LW_law 647 = .ok (.laload, 1) := by decide +kernel
theorem d_LW_law_648 : decode b_LW_law 648 = .ok (.iload 6, 2) := by decide +kernel
theorem d_LW_law_650 : decode b_LW_law 650 = .ok (.i2l, 1) := by decide +kernel
theorem d_LW_law_651 : decode b_LW_law 651 = .ok (.lcmp, 1) := by decide +kernel
theorem d_LW_law_652 : decode b_LW_law 652 = .ok (.ifCond .eq 5, 3) := by decide +kernel
theorem d_LW_law_655 : decode b_LW_law 655 = .ok (.iconst 0, 1) := by decide +kernel
theorem d_LW_law_656 : decode b_LW_law 656 = .ok (.ireturn, 1) := by decide +kernel
theorem d_LW_law_657 : decode b_LW_law 657 = .ok (.goto 84, 3) := by decide +kernel
theorem d_LW_law_660 : decode b_LW_law 660 = .ok (.aload_n 1, 1) := by decide +kernel
theorem d_LW_law_661 : decode b_LW_law 661 = .ok (.aload_n 0, 1) := by decide +kernel
theorem d_LW_law_662 : decode b_LW_law 662 = .ok (.iload 4, 2) := by decide +kernel
theorem d_LW_law_664 : decode b_LW_law 664 = .ok (.iconst 1, 1) := by decide +kernel
theorem d_LW_law_665 : decode b_LW_law 665 = .ok (.iadd, 1) := by decide +kernel
theorem d_LW_law_666 : decode b_LW_law 666 = .ok (.iaload, 1) := by decide +kernel
theorem d_LW_law_667 : decode b_LW_law 667 = .ok (.aload_n 0, 1) := by decide +kernel
theorem d_LW_law_668 : decode b_LW_law 668 = .ok (.iload 4, 2) := by decide +kernel
theorem d_LW_law_670 : decode b_LW_law 670 = .ok (.iconst 2, 1) := by decide +kernel
theorem d_LW_law_671 : decode b_LW_law 671 = .ok (.iadd, 1) := by decide +kernel
theorem d_LW_law_672 : decode b_LW_law 672 = .ok (.iaload, 1) := by decide +kernel
theorem d_LW_law_673 : decode b_LW_law 673 = .ok (.aload_n 3, 1) := by decide +kernel
theorem d_LW_law_674 : decode b_LW_law 674 = .ok (.invokestatic 92, 3) := by decide +kernel
theorem d_LW_law_677 : decode b_LW_law 677 = .ok (.istore 5, 2) := by decide +kernel
theorem d_LW_law_679 : decode b_LW_law 679 = .ok (.aload_n 2, 1) := by decide +kernel
theorem d_LW_law_680 : decode b_LW_law 680 = .ok (.aload_n 0, 1) := by decide +kernel
theorem d_LW_law_681 : decode b_LW_law 681 = .ok (.iload 4, 2) := by decide +kernel
theorem d_LW_law_683 : decode b_LW_law 683 = .ok (.iconst 1, 1) := by decide +kernel
theorem d_LW_law_684 : decode b_LW_law 684 = .ok (.iadd, 1) := by decide +kernel
theorem d_LW_law_685 : decode b_LW_law 685 = .ok (.iaload, 1) := by decide +kernel
theorem d_LW_law_686 : decode b_LW_law 686 = .ok (.aload_n 0, 1) := by decide +kernel
theorem d_LW_law_687 : decode b_LW_law 687 = .ok (.iload 4, 2) := by decide +kernel
theorem d_LW_law_689 : decode b_LW_law 689 = .ok (.iconst 2, 1) := by decide +kernel
theorem d_LW_law_690 : decode b_LW_law 690 = .ok (.iadd, 1) := by decide +kernel
theorem d_LW_law_691 : decode b_LW_law 691 = .ok (.iaload, 1) := by decide +kernel
theorem d_LW_law_692 : decode b_LW_law 692 = .ok (.invokevirtual 95, 3) := by decide +kernel
theorem d_LW_law_695 : decode b_LW_law 695 = .ok (.istore 6, 2) := by decide +kernel
theorem d_LW_law_697 : decode b_LW_law 697 = .ok (.aload_n 2, 1) := by decide +kernel
theorem d_LW_law_698 : decode b_LW_law 698 = .ok (.invokevirtual 61, 3) := by decide +kernel
theorem d_LW_law_701 : decode b_LW_law 701 = .ok (.iload 5, 2) := by decide +kernel
theorem d_LW_law_703 : decode b_LW_law 703 = .ok (.if_icmp .eq 5, 3) := by decide +kernel
theorem d_LW_law_706 : decode b_LW_law 706 = .ok (.iconst 0, 1) := by decide +kernel
theorem d_LW_law_707 : decode b_LW_law 707 = .ok (.ireturn, 1) := by decide +kernel
theorem d_LW_law_708 : decode b_LW_law 708 = .ok (.iload 5, 2) := by decide +kernel
theorem d_LW_law_710 : decode b_LW_law 710 = .ok (.ifCond .ne 15, 3) := by decide +kernel
theorem d_LW_law_713 : decode b_LW_law 713 = .ok (.aload_n 3, 1) := by decide +kernel
theorem d_LW_law_714 : decode b_LW_law 714 = .ok (.iconst 0, 1) := by decide +kernel
theorem d_LW_law_715 : decode b_LW_law 715 = .ok (.laload, 1) := by decide +kernel
theorem d_LW_law_716 : decode b_LW_law 716 = .ok (.iload 6, 2) := by decide +kernel
theorem d_LW_law_718 : decode b_LW_law 718 = .ok (.i2l, 1) := by decide +kernel
theorem d_LW_law_719 : decode b_LW_law 719 = .ok (.lcmp, 1) := by decide +kernel
theorem d_LW_law_720 : decode b_LW_law 720 = .ok (.ifCond .eq 5, 3) := by decide +kernel
theorem d_LW_law_723 : decode b_LW_law 723 = .ok (.iconst 0, 1) := by decide +kernel
theorem d_LW_law_724 : decode b_LW_law 724 = .ok (.ireturn, 1) := by decide +kernel
theorem d_LW_law_725 : decode b_LW_law 725 = .ok (.goto 16, 3) := by decide +kernel
theorem d_LW_law_728 : decode b_LW_law 728 = .ok (.aload_n 1, 1) := by decide +kernel
theorem d_LW_law_729 : decode b_LW_law 729 = .ok (.invokevirtual 96, 3) := by decide +kernel
theorem d_LW_law_732 : decode b_LW_law 732 = .ok (.aload_n 2, 1) := by decide +kernel
theorem d_LW_law_733 : decode b_LW_law 733 = .ok (.invokevirtual 99, 3) := by decide +kernel
theorem d_LW_law_736 : decode b_LW_law 736 = .ok (.if_icmp .eq 5, 3) := by decide +kernel
theorem d_LW_law_739 : decode b_LW_law 739 = .ok (.iconst 0, 1) := by decide +kernel
theorem d_LW_law_740 : decode b_LW_law 740 = .ok (.ireturn, 1) := by decide +kernel
theorem d_LW_law_741 : decode b_LW_law 741 = .ok (.iinc 4 6, 3) := by decide +kernel
theorem d_LW_law_744 : decode b_LW_law 744 = .ok (.goto (-721), 3) := by decide +kernel
theorem d_LW_law_747 : decode b_LW_law 747 = .ok (.iconst 1, 1) := by decide +kernel
theorem d_LW_law_748 : decode b_LW_law 748 = .ok (.ireturn, 1) := by decide +kernel
theorem nw_LW_8 : ab_nw "PolicyForgeLaw" 8 0 8 := ⟨rfl, R_PF, T_PF, t_PF, rfl, uw_PF, t_PF_ok, List.forall_mem_cons.mpr ⟨(ab_in 114 (by decide +kernel) (by decide +kernel)), List.forall_mem_cons.mpr ⟨(ab_in 115 (by decide +kernel) (by decide +kernel)), List.forall_mem_cons.mpr ⟨(ab_in 92 (by decide +kernel) (by decide +kernel)), fun _ h => absurd h List.not_mem_nil⟩⟩⟩, rfl, by decide +kernel⟩
theorem lI_LW_46 : ab_lI "PolicyForgeLaw" 46 y_PF_init b_PF_init 1 0 := ⟨List.forall_mem_cons.mpr ⟨(ab_in 116 (by decide +kernel) (by decide +kernel)), List.forall_mem_cons.mpr ⟨(ab_in 117 (by decide +kernel) (by decide +kernel)), List.forall_mem_cons.mpr ⟨(ab_in 92 (by decide +kernel) (by decide +kernel)), List.forall_mem_cons.mpr ⟨(ab_in 118 (by decide +kernel) (by decide +kernel)), fun _ h => absurd h List.not_mem_nil⟩⟩⟩⟩, ⟨rfl, by decide +kernel, by decide +kernel, by decide +kernel⟩, by decide⟩
theorem nw_LW_47 : ab_nw "PolicyForgeLaw" 47 17 44 := ⟨rfl, R_MO, T_MO, t_MO, rfl, uw_MO, t_MO_ok, List.forall_mem_cons.mpr ⟨(ab_in 920 (by decide +kernel) (by decide +kernel)), List.forall_mem_cons.mpr ⟨(ab_in 921 (by decide +kernel) (by decide +kernel)), List.forall_mem_cons.mpr ⟨(ab_in 100 (by decide +kernel) (by decide +kernel)), fun _ h => absurd h List.not_mem_nil⟩⟩⟩, rfl, by decide +kernel⟩
theorem lI_LW_49 : ab_lI "PolicyForgeLaw" 49 y_MO_init b_MO_init 1 0 := ⟨List.forall_mem_cons.mpr ⟨(ab_in 922 (by decide +kernel) (by decide +kernel)), List.forall_mem_cons.mpr ⟨(ab_in 923 (by decide +kernel) (by decide +kernel)), List.forall_mem_cons.mpr ⟨(ab_in 100 (by decide +kernel) (by decide +kernel)), List.forall_mem_cons.mpr ⟨(ab_in 924 (by decide +kernel) (by decide +kernel)), fun _ h => absurd h List.not_mem_nil⟩⟩⟩⟩, ⟨rfl, by decide +kernel, by decide +kernel, by decide +kernel⟩, by decide⟩
theorem lk_LW_50 : ab_lk "PolicyForgeLaw" 50 y_PF_text b_PF_text 7 (some FieldType.boolean) 5 0 := ⟨⟨rfl, T_PF, 8, rfl⟩, List.forall_mem_cons.mpr ⟨(ab_in 380 (by decide +kernel) (by decide +kernel)), List.forall_mem_cons.mpr ⟨(ab_in 381 (by decide +kernel) (by decide +kernel)), List.forall_mem_cons.mpr ⟨(ab_in 382 (by decide +kernel) (by decide +kernel)), List.forall_mem_cons.mpr ⟨(ab_in 92 (by decide +kernel) (by decide +kernel)), List.forall_mem_cons.mpr ⟨(ab_in 383 (by decide +kernel) (by decide +kernel)), fun _ h => absurd h List.not_mem_nil⟩⟩⟩⟩⟩, ⟨by decide +kernel, by decide +kernel, by decide +kernel⟩, by decide⟩
theorem lk_LW_54 : ab_lk "PolicyForgeLaw" 54 y_MO_text b_MO_text 6 (some FieldType.boolean) 5 17 := ⟨⟨rfl, T_MO, 44, rfl⟩, List.forall_mem_cons.mpr ⟨(ab_in 1064 (by decide +kernel) (by decide +kernel)), List.forall_mem_cons.mpr ⟨(ab_in 1065 (by decide +kernel) (by decide +kernel)), List.forall_mem_cons.mpr ⟨(ab_in 1066 (by decide +kernel) (by decide +kernel)), List.forall_mem_cons.mpr ⟨(ab_in 100 (by decide +kernel) (by decide +kernel)), List.forall_mem_cons.mpr ⟨(ab_in 1067 (by decide +kernel) (by decide +kernel)), fun _ h => absurd h List.not_mem_nil⟩⟩⟩⟩⟩, ⟨by decide +kernel, by decide +kernel, by decide +kernel⟩, by decide⟩
theorem lW_LW_55 : ∀ w ∈ ([.methodLink "PolicyForgeLaw" 55 y_LW_read, .static y_LW_read, .initialized y_LW_read.cls, .codeWith y_LW_read b_LW_read 3 (some FieldType.int) [((0), (8), (11), (13))]] : List Cond), w ∈ ab_T := List.forall_mem_cons.mpr ⟨(ab_in 400 (by decide +kernel) (by decide +kernel)), List.forall_mem_cons.mpr ⟨(ab_in 401 (by decide +kernel) (by decide +kernel)), List.forall_mem_cons.mpr ⟨(ab_in 91 (by decide +kernel) (by decide +kernel)), List.forall_mem_cons.mpr ⟨(ab_in 402 (by decide +kernel) (by decide +kernel)), fun _ h => absurd h List.not_mem_nil⟩⟩⟩⟩
theorem lk_LW_60 : ab_lk "PolicyForgeLaw" 60 y_MO_read b_MO_read 2 (some FieldType.int) 0 17 := ⟨⟨rfl, T_MO, 44, rfl⟩, List.forall_mem_cons.mpr ⟨(ab_in 1072 (by decide +kernel) (by decide +kernel)), List.forall_mem_cons.mpr ⟨(ab_in 1073 (by decide +kernel) (by decide +kernel)), List.forall_mem_cons.mpr ⟨(ab_in 1074 (by decide +kernel) (by decide +kernel)), List.forall_mem_cons.mpr ⟨(ab_in 100 (by decide +kernel) (by decide +kernel)), List.forall_mem_cons.mpr ⟨(ab_in 1075 (by decide +kernel) (by decide +kernel)), fun _ h => absurd h List.not_mem_nil⟩⟩⟩⟩⟩, ⟨by decide +kernel, by decide +kernel, by decide +kernel⟩, by decide⟩
theorem lk_LW_61 : ab_lk "PolicyForgeLaw" 61 y_MO_thrown b_MO_thrown 1 (some FieldType.int) 0 17 := ⟨⟨rfl, T_MO, 44, rfl⟩, List.forall_mem_cons.mpr ⟨(ab_in 1060 (by decide +kernel) (by decide +kernel)), List.forall_mem_cons.mpr ⟨(ab_in 1061 (by decide +kernel) (by decide +kernel)), List.forall_mem_cons.mpr ⟨(ab_in 1062 (by decide +kernel) (by decide +kernel)), List.forall_mem_cons.mpr ⟨(ab_in 100 (by decide +kernel) (by decide +kernel)), List.forall_mem_cons.mpr ⟨(ab_in 1063 (by decide +kernel) (by decide +kernel)), fun _ h => absurd h List.not_mem_nil⟩⟩⟩⟩⟩, ⟨by decide +kernel, by decide +kernel, by decide +kernel⟩, by decide⟩
theorem lk_LW_64 : ab_lk "PolicyForgeLaw" 64 y_PF_fault b_PF_fault 1 (some FieldType.int) 0 0 := ⟨⟨rfl, T_PF, 8, rfl⟩, List.forall_mem_cons.mpr ⟨(ab_in 388 (by decide +kernel) (by decide +kernel)), List.forall_mem_cons.mpr ⟨(ab_in 389 (by decide +kernel) (by decide +kernel)), List.forall_mem_cons.mpr ⟨(ab_in 390 (by decide +kernel) (by decide +kernel)), List.forall_mem_cons.mpr ⟨(ab_in 92 (by decide +kernel) (by decide +kernel)), List.forall_mem_cons.mpr ⟨(ab_in 391 (by decide +kernel) (by decide +kernel)), fun _ h => absurd h List.not_mem_nil⟩⟩⟩⟩⟩, ⟨by decide +kernel, by decide +kernel, by decide +kernel⟩, by decide⟩
theorem lk_LW_67 : ab_lk "PolicyForgeLaw" 67 y_MO_fault b_MO_fault 1 (some FieldType.int) 0 17 := ⟨⟨rfl, T_MO, 44, rfl⟩, List.forall_mem_cons.mpr ⟨(ab_in 1205 (by decide +kernel) (by decide +kernel)), List.forall_mem_cons.mpr ⟨(ab_in 1206 (by decide +kernel) (by decide +kernel)), List.forall_mem_cons.mpr ⟨(ab_in 1207 (by decide +kernel) (by decide +kernel)), List.forall_mem_cons.mpr ⟨(ab_in 100 (by decide +kernel) (by decide +kernel)), List.forall_mem_cons.mpr ⟨(ab_in 1208 (by decide +kernel) (by decide +kernel)), fun _ h => absurd h List.not_mem_nil⟩⟩⟩⟩⟩, ⟨by decide +kernel, by decide +kernel, by decide +kernel⟩, by decide⟩
theorem lW_LW_68 : ∀ w ∈ ([.methodLink "PolicyForgeLaw" 68 y_LW_holds, .static y_LW_holds, .initialized y_LW_holds.cls, .codeWith y_LW_holds b_LW_holds 7 (some FieldType.int) [((0), (21), (24), (19))]] : List Cond), w ∈ ab_T := List.forall_mem_cons.mpr ⟨(ab_in 714 (by decide +kernel) (by decide +kernel)), List.forall_mem_cons.mpr ⟨(ab_in 715 (by decide +kernel) (by decide +kernel)), List.forall_mem_cons.mpr ⟨(ab_in 91 (by decide +kernel) (by decide +kernel)), List.forall_mem_cons.mpr ⟨(ab_in 716 (by decide +kernel) (by decide +kernel)), fun _ h => absurd h List.not_mem_nil⟩⟩⟩⟩
theorem lk_LW_71 : ab_lk "PolicyForgeLaw" 71 y_MO_holds b_MO_holds 8 (some FieldType.boolean) 4 17 := ⟨⟨rfl, T_MO, 44, rfl⟩, List.forall_mem_cons.mpr ⟨(ab_in 1209 (by decide +kernel) (by decide +kernel)), List.forall_mem_cons.mpr ⟨(ab_in 1210 (by decide +kernel) (by decide +kernel)), List.forall_mem_cons.mpr ⟨(ab_in 1211 (by decide +kernel) (by decide +kernel)), List.forall_mem_cons.mpr ⟨(ab_in 100 (by decide +kernel) (by decide +kernel)), List.forall_mem_cons.mpr ⟨(ab_in 1212 (by decide +kernel) (by decide +kernel)), fun _ h => absurd h List.not_mem_nil⟩⟩⟩⟩⟩, ⟨by decide +kernel, by decide +kernel, by decide +kernel⟩, by decide⟩
theorem lW_LW_72 : ∀ w ∈ ([.methodLink "PolicyForgeLaw" 72 y_LW_word, .static y_LW_word, .initialized y_LW_word.cls, .codeWith y_LW_word b_LW_word 4 (some FieldType.int) [((0), (9), (12), (25))]] : List Cond), w ∈ ab_T := List.forall_mem_cons.mpr ⟨(ab_in 749 (by decide +kernel) (by decide +kernel)), List.forall_mem_cons.mpr ⟨(ab_in 750 (by decide +kernel) (by decide +kernel)), List.forall_mem_cons.mpr ⟨(ab_in 91 (by decide +kernel) (by decide +kernel)), List.forall_mem_cons.mpr ⟨(ab_in 751 (by decide +kernel) (by decide +kernel)), fun _ h => absurd h List.not_mem_nil⟩⟩⟩⟩
theorem lk_LW_75 : ab_lk "PolicyForgeLaw" 75 y_MO_word b_MO_word 2 (some FieldType.int) 1 17 := ⟨⟨rfl, T_MO, 44, rfl⟩, List.forall_mem_cons.mpr ⟨(ab_in 1217 (by decide +kernel) (by decide +kernel)), List.forall_mem_cons.mpr ⟨(ab_in 1218 (by decide +kernel) (by decide +kernel)), List.forall_mem_cons.mpr ⟨(ab_in 1219 (by decide +kernel) (by decide +kernel)), List.forall_mem_cons.mpr ⟨(ab_in 100 (by decide +kernel) (by decide +kernel)), List.forall_mem_cons.mpr ⟨(ab_in 1220 (by decide +kernel) (by decide +kernel)), fun _ h => absurd h List.not_mem_nil⟩⟩⟩⟩⟩, ⟨by decide +kernel, by decide +kernel, by decide +kernel⟩, by decide⟩
theorem lW_LW_76 : ∀ w ∈ ([.methodLink "PolicyForgeLaw" 76 y_LW_size, .static y_LW_size, .initialized y_LW_size.cls, .codeWith y_LW_size b_LW_size 4 (some FieldType.int) [((0), (9), (12), (19)), ((0), (9), (15), (13))]] : List Cond), w ∈ ab_T := List.forall_mem_cons.mpr ⟨(ab_in 772 (by decide +kernel) (by decide +kernel)), List.forall_mem_cons.mpr ⟨(ab_in 773 (by decide +kernel) (by decide +kernel)), List.forall_mem_cons.mpr ⟨(ab_in 91 (by decide +kernel) (by decide +kernel)), List.forall_mem_cons.mpr ⟨(ab_in 774 (by decide +kernel) (by decide +kernel)), fun _ h => absurd h List.not_mem_nil⟩⟩⟩⟩
theorem lk_LW_78 : ab_lk "PolicyForgeLaw" 78 y_MO_size b_MO_size 2 (some FieldType.int) 1 17 := ⟨⟨rfl, T_MO, 44, rfl⟩, List.forall_mem_cons.mpr ⟨(ab_in 1221 (by decide +kernel) (by decide +kernel)), List.forall_mem_cons.mpr ⟨(ab_in 1222 (by decide +kernel) (by decide +kernel)), List.forall_mem_cons.mpr ⟨(ab_in 1223 (by decide +kernel) (by decide +kernel)), List.forall_mem_cons.mpr ⟨(ab_in 100 (by decide +kernel) (by decide +kernel)), List.forall_mem_cons.mpr ⟨(ab_in 1224 (by decide +kernel) (by decide +kernel)), fun _ h => absurd h List.not_mem_nil⟩⟩⟩⟩⟩, ⟨by decide +kernel, by decide +kernel, by decide +kernel⟩, by decide⟩
theorem lW_LW_79 : ∀ w ∈ ([.methodLink "PolicyForgeLaw" 79 y_LW_satisfy, .static y_LW_satisfy, .initialized y_LW_satisfy.cls, .codeWith y_LW_satisfy b_LW_satisfy 7 (some FieldType.int) [((0), (14), (17), (19))]] : List Cond), w ∈ ab_T := List.forall_mem_cons.mpr ⟨(ab_in 779 (by decide +kernel) (by decide +kernel)), List.forall_mem_cons.mpr ⟨(ab_in 780 (by decide +kernel) (by decide +kernel)), List.forall_mem_cons.mpr ⟨(ab_in 91 (by decide +kernel) (by decide +kernel)), List.forall_mem_cons.mpr ⟨(ab_in 781 (by decide +kernel) (by decide +kernel)), fun _ h => absurd h List.not_mem_nil⟩⟩⟩⟩
theorem lk_LW_81 : ab_lk "PolicyForgeLaw" 81 y_MO_satisfy b_MO_satisfy 8 (some FieldType.int) 4 17 := ⟨⟨rfl, T_MO, 44, rfl⟩, List.forall_mem_cons.mpr ⟨(ab_in 1225 (by decide +kernel) (by decide +kernel)), List.forall_mem_cons.mpr ⟨(ab_in 1226 (by decide +kernel) (by decide +kernel)), List.forall_mem_cons.mpr ⟨(ab_in 1227 (by decide +kernel) (by decide +kernel)), List.forall_mem_cons.mpr ⟨(ab_in 100 (by decide +kernel) (by decide +kernel)), List.forall_mem_cons.mpr ⟨(ab_in 1228 (by decide +kernel) (by decide +kernel)), fun _ h => absurd h List.not_mem_nil⟩⟩⟩⟩⟩, ⟨by decide +kernel, by decide +kernel, by decide +kernel⟩, by decide⟩
theorem lW_LW_82 : ∀ w ∈ ([.methodLink "PolicyForgeLaw" 82 y_LW_put, .static y_LW_put, .initialized y_LW_put.cls, .codeWith y_LW_put b_LW_put 4 (some FieldType.int) [((0), (9), (12), (13)), ((0), (9), (15), (37))]] : List Cond), w ∈ ab_T := List.forall_mem_cons.mpr ⟨(ab_in 823 (by decide +kernel) (by decide +kernel)), List.forall_mem_cons.mpr ⟨(ab_in 824 (by decide +kernel) (by decide +kernel)), List.forall_mem_cons.mpr ⟨(ab_in 91 (by decide +kernel) (by decide +kernel)), List.forall_mem_cons.mpr ⟨(ab_in 825 (by decide +kernel) (by decide +kernel)), fun _ h => absurd h List.not_mem_nil⟩⟩⟩⟩
theorem lk_LW_84 : ab_lk "PolicyForgeLaw" 84 y_MO_put b_MO_put 3 (some FieldType.int) 1 17 := ⟨⟨rfl, T_MO, 44, rfl⟩, List.forall_mem_cons.mpr ⟨(ab_in 1281 (by decide +kernel) (by decide +kernel)), List.forall_mem_cons.mpr ⟨(ab_in 1282 (by decide +kernel) (by decide +kernel)), List.forall_mem_cons.mpr ⟨(ab_in 1283 (by decide +kernel) (by decide +kernel)), List.forall_mem_cons.mpr ⟨(ab_in 100 (by decide +kernel) (by decide +kernel)), List.forall_mem_cons.mpr ⟨(ab_in 1284 (by decide +kernel) (by decide +kernel)), fun _ h => absurd h List.not_mem_nil⟩⟩⟩⟩⟩, ⟨by decide +kernel, by decide +kernel, by decide +kernel⟩, by decide⟩
theorem lk_LW_85 : ab_lk "PolicyForgeLaw" 85 y_PF_clear b_PF_clear 1 none 0 0 := ⟨⟨rfl, T_PF, 8, rfl⟩, List.forall_mem_cons.mpr ⟨(ab_in 392 (by decide +kernel) (by decide +kernel)), List.forall_mem_cons.mpr ⟨(ab_in 393 (by decide +kernel) (by decide +kernel)), List.forall_mem_cons.mpr ⟨(ab_in 394 (by decide +kernel) (by decide +kernel)), List.forall_mem_cons.mpr ⟨(ab_in 92 (by decide +kernel) (by decide +kernel)), List.forall_mem_cons.mpr ⟨(ab_in 395 (by decide +kernel) (by decide +kernel)), fun _ h => absurd h List.not_mem_nil⟩⟩⟩⟩⟩, ⟨by decide +kernel, by decide +kernel, by decide +kernel⟩, by decide⟩
theorem lk_LW_88 : ab_lk "PolicyForgeLaw" 88 y_MO_clear b_MO_clear 1 none 0 17 := ⟨⟨rfl, T_MO, 44, rfl⟩, List.forall_mem_cons.mpr ⟨(ab_in 1285 (by decide +kernel) (by decide +kernel)), List.forall_mem_cons.mpr ⟨(ab_in 1286 (by decide +kernel) (by decide +kernel)), List.forall_mem_cons.mpr ⟨(ab_in 1287 (by decide +kernel) (by decide +kernel)), List.forall_mem_cons.mpr ⟨(ab_in 100 (by decide +kernel) (by decide +kernel)), List.forall_mem_cons.mpr ⟨(ab_in 1288 (by decide +kernel) (by decide +kernel)), fun _ h => absurd h List.not_mem_nil⟩⟩⟩⟩⟩, ⟨by decide +kernel, by decide +kernel, by decide +kernel⟩, by decide⟩
theorem lW_LW_89 : ∀ w ∈ ([.methodLink "PolicyForgeLaw" 89 y_LW_item, .static y_LW_item, .initialized y_LW_item.cls, .codeWith y_LW_item b_LW_item 4 (some FieldType.int) [((0), (9), (12), (25))]] : List Cond), w ∈ ab_T := List.forall_mem_cons.mpr ⟨(ab_in 850 (by decide +kernel) (by decide +kernel)), List.forall_mem_cons.mpr ⟨(ab_in 851 (by decide +kernel) (by decide +kernel)), List.forall_mem_cons.mpr ⟨(ab_in 91 (by decide +kernel) (by decide +kernel)), List.forall_mem_cons.mpr ⟨(ab_in 852 (by decide +kernel) (by decide +kernel)), fun _ h => absurd h List.not_mem_nil⟩⟩⟩⟩
theorem lk_LW_91 : ab_lk "PolicyForgeLaw" 91 y_MO_item b_MO_item 2 (some FieldType.int) 1 17 := ⟨⟨rfl, T_MO, 44, rfl⟩, List.forall_mem_cons.mpr ⟨(ab_in 1289 (by decide +kernel) (by decide +kernel)), List.forall_mem_cons.mpr ⟨(ab_in 1290 (by decide +kernel) (by decide +kernel)), List.forall_mem_cons.mpr ⟨(ab_in 1291 (by decide +kernel) (by decide +kernel)), List.forall_mem_cons.mpr ⟨(ab_in 100 (by decide +kernel) (by decide +kernel)), List.forall_mem_cons.mpr ⟨(ab_in 1292 (by decide +kernel) (by decide +kernel)), fun _ h => absurd h List.not_mem_nil⟩⟩⟩⟩⟩, ⟨by decide +kernel, by decide +kernel, by decide +kernel⟩, by decide⟩
theorem lW_LW_92 : ∀ w ∈ ([.methodLink "PolicyForgeLaw" 92 y_LW_check, .static y_LW_check, .initialized y_LW_check.cls, .codeWith y_LW_check b_LW_check 5 (some FieldType.int) [((0), (10), (13), (19))]] : List Cond), w ∈ ab_T := List.forall_mem_cons.mpr ⟨(ab_in 857 (by decide +kernel) (by decide +kernel)), List.forall_mem_cons.mpr ⟨(ab_in 858 (by decide +kernel) (by decide +kernel)), List.forall_mem_cons.mpr ⟨(ab_in 91 (by decide +kernel) (by decide +kernel)), List.forall_mem_cons.mpr ⟨(ab_in 859 (by decide +kernel) (by decide +kernel)), fun _ h => absurd h List.not_mem_nil⟩⟩⟩⟩
theorem lk_LW_95 : ab_lk "PolicyForgeLaw" 95 y_MO_check b_MO_check 5 (some FieldType.int) 2 17 := ⟨⟨rfl, T_MO, 44, rfl⟩, List.forall_mem_cons.mpr ⟨(ab_in 1293 (by decide +kernel) (by decide +kernel)), List.forall_mem_cons.mpr ⟨(ab_in 1294 (by decide +kernel) (by decide +kernel)), List.forall_mem_cons.mpr ⟨(ab_in 1295 (by decide +kernel) (by decide +kernel)), List.forall_mem_cons.mpr ⟨(ab_in 100 (by decide +kernel) (by decide +kernel)), List.forall_mem_cons.mpr ⟨(ab_in 1296 (by decide +kernel) (by decide +kernel)), fun _ h => absurd h List.not_mem_nil⟩⟩⟩⟩⟩, ⟨by decide +kernel, by decide +kernel, by decide +kernel⟩, by decide⟩
theorem lk_LW_96 : ab_lk "PolicyForgeLaw" 96 y_PF_done b_PF_done 1 (some FieldType.int) 0 0 := ⟨⟨rfl, T_PF, 8, rfl⟩, List.forall_mem_cons.mpr ⟨(ab_in 396 (by decide +kernel) (by decide +kernel)), List.forall_mem_cons.mpr ⟨(ab_in 397 (by decide +kernel) (by decide +kernel)), List.forall_mem_cons.mpr ⟨(ab_in 398 (by decide +kernel) (by decide +kernel)), List.forall_mem_cons.mpr ⟨(ab_in 92 (by decide +kernel) (by decide +kernel)), List.forall_mem_cons.mpr ⟨(ab_in 399 (by decide +kernel) (by decide +kernel)), fun _ h => absurd h List.not_mem_nil⟩⟩⟩⟩⟩, ⟨by decide +kernel, by decide +kernel, by decide +kernel⟩, by decide⟩
theorem lk_LW_99 : ab_lk "PolicyForgeLaw" 99 y_MO_done b_MO_done 1 (some FieldType.int) 0 17 := ⟨⟨rfl, T_MO, 44, rfl⟩, List.forall_mem_cons.mpr ⟨(ab_in 1321 (by decide +kernel) (by decide +kernel)), List.forall_mem_cons.mpr ⟨(ab_in 1322 (by decide +kernel) (by decide +kernel)), List.forall_mem_cons.mpr ⟨(ab_in 1323 (by decide +kernel) (by decide +kernel)), List.forall_mem_cons.mpr ⟨(ab_in 100 (by decide +kernel) (by decide +kernel)), List.forall_mem_cons.mpr ⟨(ab_in 1324 (by decide +kernel) (by decide +kernel)), fun _ h => absurd h List.not_mem_nil⟩⟩⟩⟩⟩, ⟨by decide +kernel, by decide +kernel, by decide +kernel⟩, by decide⟩
set_option maxRecDepth 100000 in
set_option maxHeartbeats 4000000 in
theorem la_walk (hfl : ab_fl0 l) (X : ab_X p s m #[Value.ref b] c code "PolicyForgeLaw" 7 D ca (fun q => s.heap.size ≤ q) s.heap) (hZ : ab_Zs ad (fun q => s.heap.size ≤ q) s s.heap) (hX : va_X (ad 23 0) 6 xs s s.heap) (hbl : ad 23 0 < s.heap.size) (hr : meth.sig.returnType = ret) (hlk : meth.locks = false) (u : ab_S)
    (h0 : 0 < N 0) (h1 : 0 < N 1) (h4 : 123 < N 4) (h5 : 0 < N 5) (h7 : 0 < N 7) (h8 : 123 < N 8) (h11 : 0 < N 11) (h13 : 0 < N 13) (h17 : 0 < N 17) (h18 : 17 < N 18) (h20 : 0 < N 20)
    (er : u.2.1 0 0 0 = some (1, 0)) (e3 : u.2.1 0 0 3 = some (5, 0)) (e5 : u.2.1 0 0 5 = some (4, 123)) (e6 : u.2.1 0 0 6 = some (7, 0)) (e7 : u.2.1 0 0 7 = none) (ec : u.2.1 1 0 0 = some (11, 0)) (ew : u.2.1 5 0 0 = some (13, 0)) (ei : u.2.1 4 123 0 = some (8, 123)) (mt : u.2.1 17 0 1 = some (18, 0)) (mw : u.2.1 17 0 31 = some (18, 17))
    (il : u.1 1 0 3 = 0) (iw : u.1 5 0 2 = 0) (ii : u.1 4 123 1 = 0) (ip : u.1 1 0 5 = -1) (im : u.1 7 0 5 = 0) (ml : u.1 17 0 2 = 0) (mf : u.1 17 0 3 = -1) (mh : u.1 17 0 4 = 0) (mi : u.1 17 0 32 = 0) (md : u.1 17 0 33 = 0) : ab_J p l e room_1 s m #[Value.ref b] below meth c (lw_Z below #[Value.ref b] s) D ca (fun q => s.heap.size ≤ q) s.heap 7 445 20463 ad N u 33 [(4, ab_I 0), (3, ab_O 20 0), (2, ab_O 17 0), (1, ab_O 0 0), (0, ab_O 23 0)] [] := by
  have h18' : 0 < N 18 := Nat.lt_of_le_of_lt (Nat.zero_le _) h18
  have hbA : ¬ s.heap.size ≤ ad 23 0 := Nat.not_le.mpr hbl
  have n0 : (0 : Int32) = nI 0 := by decide
  have next : ∀ (k n : Nat) (u : ab_S), k ≤ 600002 → n ≤ 7302232 → ab_J p l e room_1 s m #[Value.ref b] below meth c (lw_Z below #[Value.ref b] s) D ca (fun q => s.heap.size ≤ q) s.heap 7 k n ad N u 741 [(4, ab_I 0), (3, ab_O 20 0), (2, ab_O 17 0), (1, ab_O 0 0), (0, ab_O 23 0)] [] := by
    intro k n u hk hn
    refine ab_iinc4 X 0 1 2 3 4 d_LW_law_741 rfl (by decide) rfl rfl rfl rfl rfl rfl rfl rfl ?_
    refine ab_goto X 23 d_LW_law_744 rfl ?_
    refine ab_iload X 0 d_LW_law_23 rfl ?_
    refine ab_aload_n X 4 d_LW_law_25 rfl rfl ?_
    refine ab_slen X hX hbl hbA d_LW_law_26 ?_
    refine ab_bipush (v := 6) X d_LW_law_27 (by decide) ?_
    refine ab_isub X d_LW_law_29 ?_
    refine ab_icmp_gt X 747 d_LW_law_30 rfl (fun _ => ?_) (fun hb => absurd ((by decide)) hb)
    refine ab_iconst (v := 1) X d_LW_law_747 (by decide) ?_
    exact la_end X hr hlk hk hn d_LW_law_748
  refine ab_aload_n X 4 d_LW_law_33 rfl rfl ?_
  refine ab_iload X 0 d_LW_law_34 rfl ?_
  refine ab_sld X hX hbl hbA 0 d_LW_law_36 (by decide) (by decide) (by decide) ?_
  refine ab_bipush (v := 15) X d_LW_law_37 (by decide) ?_
  refine ab_iand X d_LW_law_39 ?_
  obtain ⟨k, hk, ek⟩ := la_and (xs 0)
  refine ab_top ek ?_
  have h16 : k = 0 ∨ k = 1 ∨ k = 2 ∨ k = 3 ∨ k = 4 ∨ k = 5 ∨ k = 6 ∨ k = 7 ∨ k = 8 ∨ k = 9 ∨ k = 10 ∨ k = 11 ∨ k = 12 ∨ k = 13 ∨ k = 14 ∨ k = 15 := by omega
  rcases h16 with rfl | rfl | rfl | rfl | rfl | rfl | rfl | rfl | rfl | rfl | rfl | rfl | rfl | rfl | rfl | rfl
  ·
    refine ab_tableIn X 104 d_LW_law_40 (by decide) (by decide) (off := 64) (by decide) (by decide) ?_
    refine ab_aload_n X 3 d_LW_law_104 rfl rfl ?_
    refine ab_aload_n X 4 d_LW_law_105 rfl rfl ?_
    refine ab_iload X 0 d_LW_law_106 rfl ?_
    refine ab_iconst (v := 1) X d_LW_law_108 (by decide) ?_
    refine ab_iadd X d_LW_law_109 ?_
    refine ab_sld X hX hbl hbA 1 d_LW_law_110 (by decide) (by decide) (by decide) ?_
    refine ab_aload_n X 4 d_LW_law_111 rfl rfl ?_
    refine ab_iload X 0 d_LW_law_112 rfl ?_
    refine ab_iconst (v := 2) X d_LW_law_114 (by decide) ?_
    refine ab_iadd X d_LW_law_115 ?_
    refine ab_sld X hX hbl hbA 2 d_LW_law_116 (by decide) (by decide) (by decide) ?_
    refine ab_aload_n X 4 d_LW_law_117 rfl rfl ?_
    refine ab_iload X 0 d_LW_law_118 rfl ?_
    refine ab_iconst (v := 3) X d_LW_law_120 (by decide) ?_
    refine ab_iadd X d_LW_law_121 ?_
    refine ab_sld X hX hbl hbA 3 d_LW_law_122 (by decide) (by decide) (by decide) ?_
    refine ab_aload_n X 4 d_LW_law_123 rfl rfl ?_
    refine ab_iload X 0 d_LW_law_124 rfl ?_
    refine ab_iconst (v := 4) X d_LW_law_126 (by decide) ?_
    refine ab_iadd X d_LW_law_127 ?_
    refine ab_sld X hX hbl hbA 4 d_LW_law_128 (by decide) (by decide) (by decide) ?_
    refine ab_aload_n X 4 d_LW_law_129 rfl rfl ?_
    refine ab_iload X 0 d_LW_law_130 rfl ?_
    refine ab_iconst (v := 5) X d_LW_law_132 (by decide) ?_
    refine ab_iadd X d_LW_law_133 ?_
    refine ab_sld X hX hbl hbA 5 d_LW_law_134 (by decide) (by decide) (by decide) ?_
    refine ab_callV (as := [ab_I (xs 1), ab_I (xs 2), ab_I (xs 3), ab_I (xs 4), ab_I (xs 5)]) X (fun h => by cases h) (c_PF_text u (xs 1) (xs 2) (xs 3) (xs 4) (xs 5) 0 (by decide) h0 h1 h11 er ec (il.trans n0)) lk_LW_50 d_LW_law_135 rfl rfl (by first | assumption | decide) ⟨by first | exact Nat.le_of_ble_eq_true rfl | (simp only [ab_rm]; omega), by first | exact Nat.le_of_ble_eq_true rfl | (simp only [ab_rm]; omega)⟩ ⟨by first | exact Nat.le_of_ble_eq_true rfl | (simp only [ab_rm]; omega), by first | exact Nat.le_of_ble_eq_true rfl | (simp only [ab_rm]; omega)⟩ (Nat.le_of_ble_eq_true rfl) (fun u135 r135 h135 => ?_)
    obtain ⟨e135, rfl⟩ := h135
    subst u135
    have q1 : (tx_s (tc_run (tb_l (xs 1) ++ (tb_l (xs 2) ++ (tb_l (xs 3) ++ (tb_l (xs 4) ++ tb_l (xs 5))))) (u, some 0))).2 = u.2 := (tx_refs _).trans (tc_refs _ _)
    have q2 : (tx_s (tc_run (tb_l (xs 1) ++ (tb_l (xs 2) ++ (tb_l (xs 3) ++ (tb_l (xs 4) ++ tb_l (xs 5))))) (u, some 0))).1 17 0 2 = nI 0 := ((tx_keep _ (by decide)).trans (tc_keep _ (by decide) _)).trans (ml.trans n0)
    have q3 := tx_alike (tx_rel (tb_l (xs 1) ++ (tb_l (xs 2) ++ (tb_l (xs 3) ++ (tb_l (xs 4) ++ tb_l (xs 5))))) (u, some 0) (ab_ui (ab_ui (ab_ui (tx_s (tc_run (tb_l (xs 1) ++ (tb_l (xs 2) ++ (tb_l (xs 3) ++ (tb_l (xs 4) ++ tb_l (xs 5))))) (u, some 0))) 17 0 0 0) 17 0 41 (nI 0)) 17 0 42 0, 0, false) (Or.inl ⟨by decide, rfl, rfl⟩))
    refine ab_aload_n X 2 d_LW_law_138 rfl rfl ?_
    refine ab_aload_n X 4 d_LW_law_139 rfl rfl ?_
    refine ab_iload X 0 d_LW_law_140 rfl ?_
    refine ab_iconst (v := 1) X d_LW_law_142 (by decide) ?_
    refine ab_iadd X d_LW_law_143 ?_
    refine ab_sld X hX hbl hbA 1 d_LW_law_144 (by decide) (by decide) (by decide) ?_
    refine ab_aload_n X 4 d_LW_law_145 rfl rfl ?_
    refine ab_iload X 0 d_LW_law_146 rfl ?_
    refine ab_iconst (v := 2) X d_LW_law_148 (by decide) ?_
    refine ab_iadd X d_LW_law_149 ?_
    refine ab_sld X hX hbl hbA 2 d_LW_law_150 (by decide) (by decide) (by decide) ?_
    refine ab_aload_n X 4 d_LW_law_151 rfl rfl ?_
    refine ab_iload X 0 d_LW_law_152 rfl ?_
    refine ab_iconst (v := 3) X d_LW_law_154 (by decide) ?_
    refine ab_iadd X d_LW_law_155 ?_
    refine ab_sld X hX hbl hbA 3 d_LW_law_156 (by decide) (by decide) (by decide) ?_
    refine ab_aload_n X 4 d_LW_law_157 rfl rfl ?_
    refine ab_iload X 0 d_LW_law_158 rfl ?_
    refine ab_iconst (v := 4) X d_LW_law_160 (by decide) ?_
    refine ab_iadd X d_LW_law_161 ?_
    refine ab_sld X hX hbl hbA 4 d_LW_law_162 (by decide) (by decide) (by decide) ?_
    refine ab_aload_n X 4 d_LW_law_163 rfl rfl ?_
    refine ab_iload X 0 d_LW_law_164 rfl ?_
    refine ab_iconst (v := 5) X d_LW_law_166 (by decide) ?_
    refine ab_iadd X d_LW_law_167 ?_
    refine ab_sld X hX hbl hbA 5 d_LW_law_168 (by decide) (by decide) (by decide) ?_
    refine ab_callV (as := [ab_I (xs 1), ab_I (xs 2), ab_I (xs 3), ab_I (xs 4), ab_I (xs 5)]) X (fun h => by cases h) (c_MO_text _ (xs 1) (xs 2) (xs 3) (xs 4) (xs 5) 0 (by decide) h17 h18' (by rw [q1]; exact mt) q2) lk_LW_54 d_LW_law_169 rfl rfl (by first | assumption | decide) ⟨by first | exact Nat.le_of_ble_eq_true rfl | (simp only [ab_rm]; omega), by first | exact Nat.le_of_ble_eq_true rfl | (simp only [ab_rm]; omega)⟩ ⟨by first | exact Nat.le_of_ble_eq_true rfl | (simp only [ab_rm]; omega), by first | exact Nat.le_of_ble_eq_true rfl | (simp only [ab_rm]; omega)⟩ (Nat.le_of_ble_eq_true rfl) (fun u169 r169 h169 => ?_)
    obtain ⟨e169, rfl⟩ := h169
    subst u169
    refine ab_icmp_eq X 741 d_LW_law_172 rfl (fun _ => ?_) (fun hb => absurd ((by rw [q3])) hb)
    exact next _ _ _ (by decide) (by decide)
  ·
    refine ab_tableIn X 177 d_LW_law_40 (by decide) (by decide) (off := 137) (by decide) (by decide) ?_
    refine ab_aload_n X 3 d_LW_law_177 rfl rfl ?_
    refine ab_aload_n X 1 d_LW_law_178 rfl rfl ?_
    refine ab_callSW (n := 2) (as := [ab_O 0 0, ab_O 20 0]) X (hZ) (c_LW_read0 hfl u h0 h1 h5 er e3 il) lW_LW_55 ⟨by decide +kernel, by decide +kernel, by decide +kernel⟩ (by decide) d_LW_law_179 rfl rfl ⟨by first | exact Nat.le_of_ble_eq_true rfl | (simp only [ab_rm]; omega), by first | exact Nat.le_of_ble_eq_true rfl | (simp only [ab_rm]; omega)⟩ ⟨by first | exact Nat.le_of_ble_eq_true rfl | (simp only [ab_rm]; omega), by first | exact Nat.le_of_ble_eq_true rfl | (simp only [ab_rm]; omega)⟩ (Nat.le_of_ble_eq_true rfl) (fun u179 r179 h179 => ?_)
    obtain ⟨e179, rfl⟩ := h179
    subst u179
    refine ab_istore5 X 0 1 2 3 4 d_LW_law_182 (by decide) rfl rfl rfl rfl rfl rfl rfl rfl rfl rfl ?_
    refine ab_aload_n X 3 d_LW_law_184 rfl rfl ?_
    refine ab_callV (as := []) X (fun h => by cases h) (c_MO_read0 _ h17 (by simpa [ab_up] using ml)) lk_LW_60 d_LW_law_185 rfl rfl (by first | assumption | decide) ⟨by first | exact Nat.le_of_ble_eq_true rfl | (simp only [ab_rm]; omega), by first | exact Nat.le_of_ble_eq_true rfl | (simp only [ab_rm]; omega)⟩ ⟨by first | exact Nat.le_of_ble_eq_true rfl | (simp only [ab_rm]; omega), by first | exact Nat.le_of_ble_eq_true rfl | (simp only [ab_rm]; omega)⟩ (Nat.le_of_ble_eq_true rfl) (fun u185 r185 h185 => ?_)
    obtain ⟨e185, rfl⟩ := h185
    subst u185
    refine ab_istore6 X 0 1 2 3 4 5 d_LW_law_188 (by decide) rfl rfl rfl rfl rfl rfl rfl rfl rfl rfl rfl rfl ?_
    refine ab_aload_n X 4 d_LW_law_190 rfl rfl ?_
    refine ab_callV (as := []) X (fun h => by cases h) (c_MO_thrown _ h17) lk_LW_61 d_LW_law_191 rfl rfl (by first | assumption | decide) ⟨by first | exact Nat.le_of_ble_eq_true rfl | (simp only [ab_rm]; omega), by first | exact Nat.le_of_ble_eq_true rfl | (simp only [ab_rm]; omega)⟩ ⟨by first | exact Nat.le_of_ble_eq_true rfl | (simp only [ab_rm]; omega), by first | exact Nat.le_of_ble_eq_true rfl | (simp only [ab_rm]; omega)⟩ (Nat.le_of_ble_eq_true rfl) (fun u191 r191 h191 => ?_)
    obtain ⟨e191, rfl⟩ := h191
    subst u191
    refine ab_iload X 1 d_LW_law_194 rfl ?_
    refine ab_icmp_eq X 201 d_LW_law_196 rfl (fun _ => ?_) (fun hb => absurd ((by simp [ab_up])) hb)
    refine ab_iload X 1 d_LW_law_201 rfl ?_
    refine ab_if_ne X 218 d_LW_law_203 rfl (fun _ => ?_) (fun hb => absurd hb ((by decide)))
    refine ab_goto X 741 d_LW_law_218 rfl ?_
    refine ab_lv (List.forall_mem_cons.mpr ⟨List.mem_of_getElem? (i := 2) rfl, List.forall_mem_cons.mpr ⟨List.mem_of_getElem? (i := 3) rfl, List.forall_mem_cons.mpr ⟨List.mem_of_getElem? (i := 4) rfl, List.forall_mem_cons.mpr ⟨List.mem_of_getElem? (i := 5) rfl, List.forall_mem_cons.mpr ⟨List.mem_of_getElem? (i := 6) rfl, fun _ h => absurd h List.not_mem_nil⟩⟩⟩⟩⟩) ?_
    exact next _ _ _ (by decide) (by decide)
  ·
    refine ab_tableIn X 221 d_LW_law_40 (by decide) (by decide) (off := 181) (by decide) (by decide) ?_
    refine ab_aload_n X 3 d_LW_law_221 rfl rfl ?_
    refine ab_callV (as := []) X (fun h => by cases h) (c_PF_fault u h0 h1 er) lk_LW_64 d_LW_law_222 rfl rfl (by first | assumption | decide) ⟨by first | exact Nat.le_of_ble_eq_true rfl | (simp only [ab_rm]; omega), by first | exact Nat.le_of_ble_eq_true rfl | (simp only [ab_rm]; omega)⟩ ⟨by first | exact Nat.le_of_ble_eq_true rfl | (simp only [ab_rm]; omega), by first | exact Nat.le_of_ble_eq_true rfl | (simp only [ab_rm]; omega)⟩ (Nat.le_of_ble_eq_true rfl) (fun u222 r222 h222 => ?_)
    obtain ⟨e222, rfl⟩ := h222
    subst u222
    refine ab_aload_n X 2 d_LW_law_225 rfl rfl ?_
    refine ab_callV (as := []) X (fun h => by cases h) (c_MO_fault u h17) lk_LW_67 d_LW_law_226 rfl rfl (by first | assumption | decide) ⟨by first | exact Nat.le_of_ble_eq_true rfl | (simp only [ab_rm]; omega), by first | exact Nat.le_of_ble_eq_true rfl | (simp only [ab_rm]; omega)⟩ ⟨by first | exact Nat.le_of_ble_eq_true rfl | (simp only [ab_rm]; omega), by first | exact Nat.le_of_ble_eq_true rfl | (simp only [ab_rm]; omega)⟩ (Nat.le_of_ble_eq_true rfl) (fun u226 r226 h226 => ?_)
    obtain ⟨e226, rfl⟩ := h226
    subst u226
    refine ab_icmp_eq X 741 d_LW_law_229 rfl (fun _ => ?_) (fun hb => absurd ((by rw [ip, mf])) hb)
    exact next _ _ _ (by decide) (by decide)
  ·
    refine ab_tableIn X 234 d_LW_law_40 (by decide) (by decide) (off := 194) (by decide) (by decide) ?_
    refine ab_aload_n X 3 d_LW_law_234 rfl rfl ?_
    refine ab_aload_n X 4 d_LW_law_235 rfl rfl ?_
    refine ab_iload X 0 d_LW_law_236 rfl ?_
    refine ab_iconst (v := 1) X d_LW_law_238 (by decide) ?_
    refine ab_iadd X d_LW_law_239 ?_
    refine ab_sld X hX hbl hbA 1 d_LW_law_240 (by decide) (by decide) (by decide) ?_
    refine ab_aload_n X 4 d_LW_law_241 rfl rfl ?_
    refine ab_iload X 0 d_LW_law_242 rfl ?_
    refine ab_iconst (v := 2) X d_LW_law_244 (by decide) ?_
    refine ab_iadd X d_LW_law_245 ?_
    refine ab_sld X hX hbl hbA 2 d_LW_law_246 (by decide) (by decide) (by decide) ?_
    refine ab_aload_n X 4 d_LW_law_247 rfl rfl ?_
    refine ab_iload X 0 d_LW_law_248 rfl ?_
    refine ab_iconst (v := 3) X d_LW_law_250 (by decide) ?_
    refine ab_iadd X d_LW_law_251 ?_
    refine ab_sld X hX hbl hbA 3 d_LW_law_252 (by decide) (by decide) (by decide) ?_
    refine ab_aload_n X 4 d_LW_law_253 rfl rfl ?_
    refine ab_iload X 0 d_LW_law_254 rfl ?_
    refine ab_iconst (v := 4) X d_LW_law_256 (by decide) ?_
    refine ab_iadd X d_LW_law_257 ?_
    refine ab_sld X hX hbl hbA 4 d_LW_law_258 (by decide) (by decide) (by decide) ?_
    refine ab_aload_n X 1 d_LW_law_259 rfl rfl ?_
    refine ab_callSW (n := 6) (as := [ab_O 0 0, ab_I (xs 1), ab_I (xs 2), ab_I (xs 3), ab_I (xs 4), ab_O 20 0]) X (hZ) (c_LW_holds0 hfl u (xs 1) (xs 2) (xs 3) (xs 4) h0 e7) lW_LW_68 ⟨by decide +kernel, by decide +kernel, by decide +kernel⟩ (by decide) d_LW_law_260 rfl rfl ⟨by first | exact Nat.le_of_ble_eq_true rfl | (simp only [ab_rm]; omega), by first | exact Nat.le_of_ble_eq_true rfl | (simp only [ab_rm]; omega)⟩ ⟨by first | exact Nat.le_of_ble_eq_true rfl | (simp only [ab_rm]; omega), by first | exact Nat.le_of_ble_eq_true rfl | (simp only [ab_rm]; omega)⟩ (Nat.le_of_ble_eq_true rfl) (fun u260 r260 h260 => ?_)
    obtain ⟨e260, rfl⟩ := h260
    subst u260
    refine ab_istore5 X 0 1 2 3 4 d_LW_law_263 (by decide) rfl rfl rfl rfl rfl rfl rfl rfl rfl rfl ?_
    refine ab_aload_n X 3 d_LW_law_265 rfl rfl ?_
    refine ab_aload_n X 5 d_LW_law_266 rfl rfl ?_
    refine ab_iload X 1 d_LW_law_267 rfl ?_
    refine ab_iconst (v := 1) X d_LW_law_269 (by decide) ?_
    refine ab_iadd X d_LW_law_270 ?_
    refine ab_sld X hX hbl hbA 1 d_LW_law_271 (by decide) (by decide) (by decide) ?_
    refine ab_aload_n X 5 d_LW_law_272 rfl rfl ?_
    refine ab_iload X 1 d_LW_law_273 rfl ?_
    refine ab_iconst (v := 2) X d_LW_law_275 (by decide) ?_
    refine ab_iadd X d_LW_law_276 ?_
    refine ab_sld X hX hbl hbA 2 d_LW_law_277 (by decide) (by decide) (by decide) ?_
    refine ab_aload_n X 5 d_LW_law_278 rfl rfl ?_
    refine ab_iload X 1 d_LW_law_279 rfl ?_
    refine ab_iconst (v := 3) X d_LW_law_281 (by decide) ?_
    refine ab_iadd X d_LW_law_282 ?_
    refine ab_sld X hX hbl hbA 3 d_LW_law_283 (by decide) (by decide) (by decide) ?_
    refine ab_aload_n X 5 d_LW_law_284 rfl rfl ?_
    refine ab_iload X 1 d_LW_law_285 rfl ?_
    refine ab_iconst (v := 4) X d_LW_law_287 (by decide) ?_
    refine ab_iadd X d_LW_law_288 ?_
    refine ab_sld X hX hbl hbA 4 d_LW_law_289 (by decide) (by decide) (by decide) ?_
    refine ab_callV (as := [ab_I (xs 1), ab_I (xs 2), ab_I (xs 3), ab_I (xs 4)]) X (fun h => by cases h) (c_MO_holds0 u (xs 1) (xs 2) (xs 3) (xs 4) h17 mh) lk_LW_71 d_LW_law_290 rfl rfl (by first | assumption | decide) ⟨by first | exact Nat.le_of_ble_eq_true rfl | (simp only [ab_rm]; omega), by first | exact Nat.le_of_ble_eq_true rfl | (simp only [ab_rm]; omega)⟩ ⟨by first | exact Nat.le_of_ble_eq_true rfl | (simp only [ab_rm]; omega), by first | exact Nat.le_of_ble_eq_true rfl | (simp only [ab_rm]; omega)⟩ (Nat.le_of_ble_eq_true rfl) (fun u290 r290 h290 => ?_)
    obtain ⟨e290, rfl⟩ := h290
    subst u290
    refine ab_istore6 X 0 1 2 3 4 5 d_LW_law_293 (by decide) rfl rfl rfl rfl rfl rfl rfl rfl rfl rfl rfl rfl ?_
    refine ab_aload_n X 4 d_LW_law_295 rfl rfl ?_
    refine ab_callV (as := []) X (fun h => by cases h) (c_MO_thrown _ h17) lk_LW_61 d_LW_law_296 rfl rfl (by first | assumption | decide) ⟨by first | exact Nat.le_of_ble_eq_true rfl | (simp only [ab_rm]; omega), by first | exact Nat.le_of_ble_eq_true rfl | (simp only [ab_rm]; omega)⟩ ⟨by first | exact Nat.le_of_ble_eq_true rfl | (simp only [ab_rm]; omega), by first | exact Nat.le_of_ble_eq_true rfl | (simp only [ab_rm]; omega)⟩ (Nat.le_of_ble_eq_true rfl) (fun u296 r296 h296 => ?_)
    obtain ⟨e296, rfl⟩ := h296
    subst u296
    refine ab_iload X 1 d_LW_law_299 rfl ?_
    refine ab_icmp_eq X 306 d_LW_law_301 rfl (fun _ => ?_) (fun hb => absurd ((by simp [ab_up])) hb)
    refine ab_iload X 1 d_LW_law_306 rfl ?_
    refine ab_if_ne X 330 d_LW_law_308 rfl (fun _ => ?_) (fun hb => absurd hb ((by decide)))
    refine ab_goto X 741 d_LW_law_330 rfl ?_
    refine ab_lv (List.forall_mem_cons.mpr ⟨List.mem_of_getElem? (i := 2) rfl, List.forall_mem_cons.mpr ⟨List.mem_of_getElem? (i := 3) rfl, List.forall_mem_cons.mpr ⟨List.mem_of_getElem? (i := 4) rfl, List.forall_mem_cons.mpr ⟨List.mem_of_getElem? (i := 5) rfl, List.forall_mem_cons.mpr ⟨List.mem_of_getElem? (i := 6) rfl, fun _ h => absurd h List.not_mem_nil⟩⟩⟩⟩⟩) ?_
    exact next _ _ _ (by decide) (by decide)
  ·
    refine ab_tableIn X 333 d_LW_law_40 (by decide) (by decide) (off := 293) (by decide) (by decide) ?_
    refine ab_aload_n X 3 d_LW_law_333 rfl rfl ?_
    refine ab_aload_n X 4 d_LW_law_334 rfl rfl ?_
    refine ab_iload X 0 d_LW_law_335 rfl ?_
    refine ab_iconst (v := 1) X d_LW_law_337 (by decide) ?_
    refine ab_iadd X d_LW_law_338 ?_
    refine ab_sld X hX hbl hbA 1 d_LW_law_339 (by decide) (by decide) (by decide) ?_
    refine ab_aload_n X 1 d_LW_law_340 rfl rfl ?_
    refine ab_callSW (n := 3) (as := [ab_O 0 0, ab_I (xs 1), ab_O 20 0]) X (hZ) (c_LW_word hfl u (xs 1) 0 h0 h20 h5 h13 e3 ew (iw.trans n0) (by decide)) lW_LW_72 ⟨by decide +kernel, by decide +kernel, by decide +kernel⟩ (by decide) d_LW_law_341 rfl rfl ⟨by first | exact Nat.le_of_ble_eq_true rfl | (simp only [ab_rm]; omega), by first | exact Nat.le_of_ble_eq_true rfl | (simp only [ab_rm]; omega)⟩ ⟨by first | exact Nat.le_of_ble_eq_true rfl | (simp only [ab_rm]; omega), by first | exact Nat.le_of_ble_eq_true rfl | (simp only [ab_rm]; omega)⟩ (Nat.le_of_ble_eq_true rfl) (fun u341 r341 h341 => ?_)
    rcases h341 with ⟨j, hj, -⟩ | ⟨hbad, e341, rfl⟩
    · exact absurd hj (Nat.not_lt_zero _)
    · subst u341
      refine ab_istore5 X 0 1 2 3 4 d_LW_law_344 (by decide) rfl rfl rfl rfl rfl rfl rfl rfl rfl rfl ?_
      refine ab_aload_n X 3 d_LW_law_346 rfl rfl ?_
      refine ab_aload_n X 5 d_LW_law_347 rfl rfl ?_
      refine ab_iload X 1 d_LW_law_348 rfl ?_
      refine ab_iconst (v := 1) X d_LW_law_350 (by decide) ?_
      refine ab_iadd X d_LW_law_351 ?_
      refine ab_sld X hX hbl hbA 1 d_LW_law_352 (by decide) (by decide) (by decide) ?_
      refine ab_callV (as := [ab_I (xs 1)]) X (fun h => by cases h) (c_MO_word0 u (xs 1) h17 mh) lk_LW_75 d_LW_law_353 rfl rfl (by first | assumption | decide) ⟨by first | exact Nat.le_of_ble_eq_true rfl | (simp only [ab_rm]; omega), by first | exact Nat.le_of_ble_eq_true rfl | (simp only [ab_rm]; omega)⟩ ⟨by first | exact Nat.le_of_ble_eq_true rfl | (simp only [ab_rm]; omega), by first | exact Nat.le_of_ble_eq_true rfl | (simp only [ab_rm]; omega)⟩ (Nat.le_of_ble_eq_true rfl) (fun u353 r353 h353 => ?_)
      obtain ⟨e353, rfl⟩ := h353
      subst u353
      refine ab_istore6 X 0 1 2 3 4 5 d_LW_law_356 (by decide) rfl rfl rfl rfl rfl rfl rfl rfl rfl rfl rfl rfl ?_
      refine ab_aload_n X 4 d_LW_law_358 rfl rfl ?_
      refine ab_callV (as := []) X (fun h => by cases h) (c_MO_thrown _ h17) lk_LW_61 d_LW_law_359 rfl rfl (by first | assumption | decide) ⟨by first | exact Nat.le_of_ble_eq_true rfl | (simp only [ab_rm]; omega), by first | exact Nat.le_of_ble_eq_true rfl | (simp only [ab_rm]; omega)⟩ ⟨by first | exact Nat.le_of_ble_eq_true rfl | (simp only [ab_rm]; omega), by first | exact Nat.le_of_ble_eq_true rfl | (simp only [ab_rm]; omega)⟩ (Nat.le_of_ble_eq_true rfl) (fun u359 r359 h359 => ?_)
      obtain ⟨e359, rfl⟩ := h359
      subst u359
      refine ab_iload X 1 d_LW_law_362 rfl ?_
      refine ab_icmp_eq X 369 d_LW_law_364 rfl (fun _ => ?_) (fun hb => absurd ((by simp [ab_up])) hb)
      refine ab_iload X 1 d_LW_law_369 rfl ?_
      refine ab_if_ne X 386 d_LW_law_371 rfl (fun _ => ?_) (fun hb => absurd hb ((by decide)))
      refine ab_goto X 741 d_LW_law_386 rfl ?_
      refine ab_lv (List.forall_mem_cons.mpr ⟨List.mem_of_getElem? (i := 2) rfl, List.forall_mem_cons.mpr ⟨List.mem_of_getElem? (i := 3) rfl, List.forall_mem_cons.mpr ⟨List.mem_of_getElem? (i := 4) rfl, List.forall_mem_cons.mpr ⟨List.mem_of_getElem? (i := 5) rfl, List.forall_mem_cons.mpr ⟨List.mem_of_getElem? (i := 6) rfl, fun _ h => absurd h List.not_mem_nil⟩⟩⟩⟩⟩) ?_
      exact next _ _ _ (by decide) (by decide)
  ·
    refine ab_tableIn X 389 d_LW_law_40 (by decide) (by decide) (off := 349) (by decide) (by decide) ?_
    refine ab_aload_n X 3 d_LW_law_389 rfl rfl ?_
    refine ab_aload_n X 4 d_LW_law_390 rfl rfl ?_
    refine ab_iload X 0 d_LW_law_391 rfl ?_
    refine ab_iconst (v := 1) X d_LW_law_393 (by decide) ?_
    refine ab_iadd X d_LW_law_394 ?_
    refine ab_sld X hX hbl hbA 1 d_LW_law_395 (by decide) (by decide) (by decide) ?_
    refine ab_aload_n X 1 d_LW_law_396 rfl rfl ?_
    refine ab_callSW (n := 3) (as := [ab_O 0 0, ab_I (xs 1), ab_O 20 0]) X (hZ) (c_LW_size0 hfl u (xs 1) h0 e7) lW_LW_76 ⟨by decide +kernel, by decide +kernel, by decide +kernel⟩ (by decide) d_LW_law_397 rfl rfl ⟨by first | exact Nat.le_of_ble_eq_true rfl | (simp only [ab_rm]; omega), by first | exact Nat.le_of_ble_eq_true rfl | (simp only [ab_rm]; omega)⟩ ⟨by first | exact Nat.le_of_ble_eq_true rfl | (simp only [ab_rm]; omega), by first | exact Nat.le_of_ble_eq_true rfl | (simp only [ab_rm]; omega)⟩ (Nat.le_of_ble_eq_true rfl) (fun u397 r397 h397 => ?_)
    obtain ⟨e397, rfl⟩ := h397
    subst u397
    refine ab_istore5 X 0 1 2 3 4 d_LW_law_400 (by decide) rfl rfl rfl rfl rfl rfl rfl rfl rfl rfl ?_
    refine ab_aload_n X 3 d_LW_law_402 rfl rfl ?_
    refine ab_aload_n X 5 d_LW_law_403 rfl rfl ?_
    refine ab_iload X 1 d_LW_law_404 rfl ?_
    refine ab_iconst (v := 1) X d_LW_law_406 (by decide) ?_
    refine ab_iadd X d_LW_law_407 ?_
    refine ab_sld X hX hbl hbA 1 d_LW_law_408 (by decide) (by decide) (by decide) ?_
    refine ab_callV (as := [ab_I (xs 1)]) X (fun h => by cases h) (c_MO_size0 u (xs 1) h17 mh) lk_LW_78 d_LW_law_409 rfl rfl (by first | assumption | decide) ⟨by first | exact Nat.le_of_ble_eq_true rfl | (simp only [ab_rm]; omega), by first | exact Nat.le_of_ble_eq_true rfl | (simp only [ab_rm]; omega)⟩ ⟨by first | exact Nat.le_of_ble_eq_true rfl | (simp only [ab_rm]; omega), by first | exact Nat.le_of_ble_eq_true rfl | (simp only [ab_rm]; omega)⟩ (Nat.le_of_ble_eq_true rfl) (fun u409 r409 h409 => ?_)
    obtain ⟨e409, rfl⟩ := h409
    subst u409
    refine ab_istore6 X 0 1 2 3 4 5 d_LW_law_412 (by decide) rfl rfl rfl rfl rfl rfl rfl rfl rfl rfl rfl rfl ?_
    refine ab_aload_n X 4 d_LW_law_414 rfl rfl ?_
    refine ab_callV (as := []) X (fun h => by cases h) (c_MO_thrown _ h17) lk_LW_61 d_LW_law_415 rfl rfl (by first | assumption | decide) ⟨by first | exact Nat.le_of_ble_eq_true rfl | (simp only [ab_rm]; omega), by first | exact Nat.le_of_ble_eq_true rfl | (simp only [ab_rm]; omega)⟩ ⟨by first | exact Nat.le_of_ble_eq_true rfl | (simp only [ab_rm]; omega), by first | exact Nat.le_of_ble_eq_true rfl | (simp only [ab_rm]; omega)⟩ (Nat.le_of_ble_eq_true rfl) (fun u415 r415 h415 => ?_)
    obtain ⟨e415, rfl⟩ := h415
    subst u415
    refine ab_iload X 1 d_LW_law_418 rfl ?_
    refine ab_icmp_eq X 425 d_LW_law_420 rfl (fun _ => ?_) (fun hb => absurd ((by simp [ab_up])) hb)
    refine ab_iload X 1 d_LW_law_425 rfl ?_
    refine ab_if_ne X 442 d_LW_law_427 rfl (fun _ => ?_) (fun hb => absurd hb ((by decide)))
    refine ab_goto X 741 d_LW_law_442 rfl ?_
    refine ab_lv (List.forall_mem_cons.mpr ⟨List.mem_of_getElem? (i := 2) rfl, List.forall_mem_cons.mpr ⟨List.mem_of_getElem? (i := 3) rfl, List.forall_mem_cons.mpr ⟨List.mem_of_getElem? (i := 4) rfl, List.forall_mem_cons.mpr ⟨List.mem_of_getElem? (i := 5) rfl, List.forall_mem_cons.mpr ⟨List.mem_of_getElem? (i := 6) rfl, fun _ h => absurd h List.not_mem_nil⟩⟩⟩⟩⟩) ?_
    exact next _ _ _ (by decide) (by decide)
  ·
    refine ab_tableIn X 445 d_LW_law_40 (by decide) (by decide) (off := 405) (by decide) (by decide) ?_
    refine ab_aload_n X 3 d_LW_law_445 rfl rfl ?_
    refine ab_aload_n X 4 d_LW_law_446 rfl rfl ?_
    refine ab_iload X 0 d_LW_law_447 rfl ?_
    refine ab_iconst (v := 1) X d_LW_law_449 (by decide) ?_
    refine ab_iadd X d_LW_law_450 ?_
    refine ab_sld X hX hbl hbA 1 d_LW_law_451 (by decide) (by decide) (by decide) ?_
    refine ab_aload_n X 4 d_LW_law_452 rfl rfl ?_
    refine ab_iload X 0 d_LW_law_453 rfl ?_
    refine ab_iconst (v := 2) X d_LW_law_455 (by decide) ?_
    refine ab_iadd X d_LW_law_456 ?_
    refine ab_sld X hX hbl hbA 2 d_LW_law_457 (by decide) (by decide) (by decide) ?_
    refine ab_aload_n X 4 d_LW_law_458 rfl rfl ?_
    refine ab_iload X 0 d_LW_law_459 rfl ?_
    refine ab_iconst (v := 3) X d_LW_law_461 (by decide) ?_
    refine ab_iadd X d_LW_law_462 ?_
    refine ab_sld X hX hbl hbA 3 d_LW_law_463 (by decide) (by decide) (by decide) ?_
    refine ab_aload_n X 4 d_LW_law_464 rfl rfl ?_
    refine ab_iload X 0 d_LW_law_465 rfl ?_
    refine ab_iconst (v := 4) X d_LW_law_467 (by decide) ?_
    refine ab_iadd X d_LW_law_468 ?_
    refine ab_sld X hX hbl hbA 4 d_LW_law_469 (by decide) (by decide) (by decide) ?_
    refine ab_aload_n X 1 d_LW_law_470 rfl rfl ?_
    refine ab_callSW (n := 6) (as := [ab_O 0 0, ab_I (xs 1), ab_I (xs 2), ab_I (xs 3), ab_I (xs 4), ab_O 20 0]) X (hZ) (c_LW_satisfy0 hfl u (xs 1) (xs 2) (xs 3) (xs 4) h0 e7) lW_LW_79 ⟨by decide +kernel, by decide +kernel, by decide +kernel⟩ (by decide) d_LW_law_471 rfl rfl ⟨by first | exact Nat.le_of_ble_eq_true rfl | (simp only [ab_rm]; omega), by first | exact Nat.le_of_ble_eq_true rfl | (simp only [ab_rm]; omega)⟩ ⟨by first | exact Nat.le_of_ble_eq_true rfl | (simp only [ab_rm]; omega), by first | exact Nat.le_of_ble_eq_true rfl | (simp only [ab_rm]; omega)⟩ (Nat.le_of_ble_eq_true rfl) (fun u471 r471 h471 => ?_)
    obtain ⟨e471, rfl⟩ := h471
    subst u471
    refine ab_istore5 X 0 1 2 3 4 d_LW_law_474 (by decide) rfl rfl rfl rfl rfl rfl rfl rfl rfl rfl ?_
    refine ab_aload_n X 3 d_LW_law_476 rfl rfl ?_
    refine ab_aload_n X 5 d_LW_law_477 rfl rfl ?_
    refine ab_iload X 1 d_LW_law_478 rfl ?_
    refine ab_iconst (v := 1) X d_LW_law_480 (by decide) ?_
    refine ab_iadd X d_LW_law_481 ?_
    refine ab_sld X hX hbl hbA 1 d_LW_law_482 (by decide) (by decide) (by decide) ?_
    refine ab_aload_n X 5 d_LW_law_483 rfl rfl ?_
    refine ab_iload X 1 d_LW_law_484 rfl ?_
    refine ab_iconst (v := 2) X d_LW_law_486 (by decide) ?_
    refine ab_iadd X d_LW_law_487 ?_
    refine ab_sld X hX hbl hbA 2 d_LW_law_488 (by decide) (by decide) (by decide) ?_
    refine ab_aload_n X 5 d_LW_law_489 rfl rfl ?_
    refine ab_iload X 1 d_LW_law_490 rfl ?_
    refine ab_iconst (v := 3) X d_LW_law_492 (by decide) ?_
    refine ab_iadd X d_LW_law_493 ?_
    refine ab_sld X hX hbl hbA 3 d_LW_law_494 (by decide) (by decide) (by decide) ?_
    refine ab_aload_n X 5 d_LW_law_495 rfl rfl ?_
    refine ab_iload X 1 d_LW_law_496 rfl ?_
    refine ab_iconst (v := 4) X d_LW_law_498 (by decide) ?_
    refine ab_iadd X d_LW_law_499 ?_
    refine ab_sld X hX hbl hbA 4 d_LW_law_500 (by decide) (by decide) (by decide) ?_
    refine ab_callV (as := [ab_I (xs 1), ab_I (xs 2), ab_I (xs 3), ab_I (xs 4)]) X (fun h => by cases h) (c_MO_satisfy0 u (xs 1) (xs 2) (xs 3) (xs 4) h17 mh) lk_LW_81 d_LW_law_501 rfl rfl (by first | assumption | decide) ⟨by first | exact Nat.le_of_ble_eq_true rfl | (simp only [ab_rm]; omega), by first | exact Nat.le_of_ble_eq_true rfl | (simp only [ab_rm]; omega)⟩ ⟨by first | exact Nat.le_of_ble_eq_true rfl | (simp only [ab_rm]; omega), by first | exact Nat.le_of_ble_eq_true rfl | (simp only [ab_rm]; omega)⟩ (Nat.le_of_ble_eq_true rfl) (fun u501 r501 h501 => ?_)
    obtain ⟨e501, rfl⟩ := h501
    subst u501
    refine ab_istore6 X 0 1 2 3 4 5 d_LW_law_504 (by decide) rfl rfl rfl rfl rfl rfl rfl rfl rfl rfl rfl rfl ?_
    refine ab_aload_n X 4 d_LW_law_506 rfl rfl ?_
    refine ab_callV (as := []) X (fun h => by cases h) (c_MO_thrown _ h17) lk_LW_61 d_LW_law_507 rfl rfl (by first | assumption | decide) ⟨by first | exact Nat.le_of_ble_eq_true rfl | (simp only [ab_rm]; omega), by first | exact Nat.le_of_ble_eq_true rfl | (simp only [ab_rm]; omega)⟩ ⟨by first | exact Nat.le_of_ble_eq_true rfl | (simp only [ab_rm]; omega), by first | exact Nat.le_of_ble_eq_true rfl | (simp only [ab_rm]; omega)⟩ (Nat.le_of_ble_eq_true rfl) (fun u507 r507 h507 => ?_)
    obtain ⟨e507, rfl⟩ := h507
    subst u507
    refine ab_iload X 1 d_LW_law_510 rfl ?_
    refine ab_icmp_eq X 517 d_LW_law_512 rfl (fun _ => ?_) (fun hb => absurd ((by simp [ab_up])) hb)
    refine ab_iload X 1 d_LW_law_517 rfl ?_
    refine ab_if_ne X 534 d_LW_law_519 rfl (fun _ => ?_) (fun hb => absurd hb ((by decide)))
    refine ab_goto X 741 d_LW_law_534 rfl ?_
    refine ab_lv (List.forall_mem_cons.mpr ⟨List.mem_of_getElem? (i := 2) rfl, List.forall_mem_cons.mpr ⟨List.mem_of_getElem? (i := 3) rfl, List.forall_mem_cons.mpr ⟨List.mem_of_getElem? (i := 4) rfl, List.forall_mem_cons.mpr ⟨List.mem_of_getElem? (i := 5) rfl, List.forall_mem_cons.mpr ⟨List.mem_of_getElem? (i := 6) rfl, fun _ h => absurd h List.not_mem_nil⟩⟩⟩⟩⟩) ?_
    exact next _ _ _ (by decide) (by decide)
  ·
    refine ab_tableIn X 537 d_LW_law_40 (by decide) (by decide) (off := 497) (by decide) (by decide) ?_
    refine ab_aload_n X 3 d_LW_law_537 rfl rfl ?_
    refine ab_aload_n X 4 d_LW_law_538 rfl rfl ?_
    refine ab_iload X 0 d_LW_law_539 rfl ?_
    refine ab_iconst (v := 1) X d_LW_law_541 (by decide) ?_
    refine ab_iadd X d_LW_law_542 ?_
    refine ab_sld X hX hbl hbA 1 d_LW_law_543 (by decide) (by decide) (by decide) ?_
    refine ab_aload_n X 1 d_LW_law_544 rfl rfl ?_
    refine ab_callSW (n := 3) (as := [ab_O 0 0, ab_I (xs 1), ab_O 20 0]) X (hZ) (c_LW_put1 hfl u (xs 1) 0 h0 h20 h4 h8 e5 ei (ii.trans n0) (by decide)) lW_LW_82 ⟨by decide +kernel, by decide +kernel, by decide +kernel⟩ (by decide) d_LW_law_545 rfl rfl ⟨by first | exact Nat.le_of_ble_eq_true rfl | (simp only [ab_rm]; omega), by first | exact Nat.le_of_ble_eq_true rfl | (simp only [ab_rm]; omega)⟩ ⟨by first | exact Nat.le_of_ble_eq_true rfl | (simp only [ab_rm]; omega), by first | exact Nat.le_of_ble_eq_true rfl | (simp only [ab_rm]; omega)⟩ (Nat.le_of_ble_eq_true rfl) (fun u545 r545 h545 => ?_)
    rcases h545 with ⟨hi, e545, rfl⟩ | ⟨hi, e545, rfl⟩
    · subst u545
      refine ab_istore5 X 0 1 2 3 4 d_LW_law_548 (by decide) rfl rfl rfl rfl rfl rfl rfl rfl rfl rfl ?_
      refine ab_aload_n X 3 d_LW_law_550 rfl rfl ?_
      refine ab_aload_n X 5 d_LW_law_551 rfl rfl ?_
      refine ab_iload X 1 d_LW_law_552 rfl ?_
      refine ab_iconst (v := 1) X d_LW_law_554 (by decide) ?_
      refine ab_iadd X d_LW_law_555 ?_
      refine ab_sld X hX hbl hbA 1 d_LW_law_556 (by decide) (by decide) (by decide) ?_
      refine ab_callV (as := [ab_I (xs 1)]) X (fun h => by cases h) (c_MO_put (ab_ul (ab_ui (ab_ui (ab_ui u 8 123 0 (xs 1)) 4 123 1 (nI (0 + 1))) 4 123 2 (u.1 4 123 2 + (if 20 ≤ xs 1 then 5 else if 10 ≤ xs 1 then 9 else 1))) 20 0 0 (nI (0 + 1)).toInt64) (xs 1) 0 h17 h18 mw (by simp only [ab_up]; exact mi.trans n0) (by decide)) lk_LW_84 d_LW_law_557 rfl rfl (by first | assumption | decide) ⟨by first | exact Nat.le_of_ble_eq_true rfl | (simp only [ab_rm]; omega), by first | exact Nat.le_of_ble_eq_true rfl | (simp only [ab_rm]; omega)⟩ ⟨by first | exact Nat.le_of_ble_eq_true rfl | (simp only [ab_rm]; omega), by first | exact Nat.le_of_ble_eq_true rfl | (simp only [ab_rm]; omega)⟩ (Nat.le_of_ble_eq_true rfl) (fun u557 r557 h557 => ?_)
      rcases h557 with ⟨-, -, e557, rfl⟩ | ⟨hz, -⟩ | ⟨-, hz, -⟩
      · subst u557
        refine ab_istore6 X 0 1 2 3 4 5 d_LW_law_560 (by decide) rfl rfl rfl rfl rfl rfl rfl rfl rfl rfl rfl rfl ?_
        refine ab_aload_n X 4 d_LW_law_562 rfl rfl ?_
        refine ab_callV (as := []) X (fun h => by cases h) (c_MO_thrown _ h17) lk_LW_61 d_LW_law_563 rfl rfl (by first | assumption | decide) ⟨by first | exact Nat.le_of_ble_eq_true rfl | (simp only [ab_rm]; omega), by first | exact Nat.le_of_ble_eq_true rfl | (simp only [ab_rm]; omega)⟩ ⟨by first | exact Nat.le_of_ble_eq_true rfl | (simp only [ab_rm]; omega), by first | exact Nat.le_of_ble_eq_true rfl | (simp only [ab_rm]; omega)⟩ (Nat.le_of_ble_eq_true rfl) (fun u563 r563 h563 => ?_)
        obtain ⟨e563, rfl⟩ := h563
        subst u563
        refine ab_iload X 1 d_LW_law_566 rfl ?_
        refine ab_icmp_eq X 573 d_LW_law_568 rfl (fun _ => ?_) (fun hb => absurd ((by simp [ab_up])) hb)
        refine ab_iload X 1 d_LW_law_573 rfl ?_
        refine ab_if_ne X 590 d_LW_law_575 rfl (fun hb => absurd (rfl) hb) (fun _ => ?_)
        refine ab_aload_n X 3 d_LW_law_578 rfl rfl ?_
        refine ab_iconst (v := 0) X d_LW_law_579 (by decide) ?_
        refine ab_lald X (0) ⟨rfl, rfl⟩ d_LW_law_580 (by first | assumption | decide) (rfl) (by decide) (ab_ln_lt _ _) ?_
        refine ab_iload X 0 d_LW_law_581 rfl ?_
        refine ab_i2l X d_LW_law_583 ?_
        refine ab_lcmp X d_LW_law_584 ?_
        refine ab_top (v := 0) (by simp [ab_up, la_cmp]) ?_
        refine ab_if_eq X 590 d_LW_law_585 rfl (fun _ => ?_) (fun hb => absurd (rfl) hb)
        refine ab_goto X 741 d_LW_law_590 rfl ?_
        refine ab_lv (List.forall_mem_cons.mpr ⟨List.mem_of_getElem? (i := 2) rfl, List.forall_mem_cons.mpr ⟨List.mem_of_getElem? (i := 3) rfl, List.forall_mem_cons.mpr ⟨List.mem_of_getElem? (i := 4) rfl, List.forall_mem_cons.mpr ⟨List.mem_of_getElem? (i := 5) rfl, List.forall_mem_cons.mpr ⟨List.mem_of_getElem? (i := 6) rfl, fun _ h => absurd h List.not_mem_nil⟩⟩⟩⟩⟩) ?_
        exact next _ _ _ (by decide) (by decide)
      · exact absurd hi hz
      · exact absurd hz (by decide)
    · subst u545
      refine ab_istore5 X 0 1 2 3 4 d_LW_law_548 (by decide) rfl rfl rfl rfl rfl rfl rfl rfl rfl rfl ?_
      refine ab_aload_n X 3 d_LW_law_550 rfl rfl ?_
      refine ab_aload_n X 5 d_LW_law_551 rfl rfl ?_
      refine ab_iload X 1 d_LW_law_552 rfl ?_
      refine ab_iconst (v := 1) X d_LW_law_554 (by decide) ?_
      refine ab_iadd X d_LW_law_555 ?_
      refine ab_sld X hX hbl hbA 1 d_LW_law_556 (by decide) (by decide) (by decide) ?_
      refine ab_callV (as := [ab_I (xs 1)]) X (fun h => by cases h) (c_MO_put u (xs 1) 0 h17 h18 mw (mi.trans n0) (by decide)) lk_LW_84 d_LW_law_557 rfl rfl (by first | assumption | decide) ⟨by first | exact Nat.le_of_ble_eq_true rfl | (simp only [ab_rm]; omega), by first | exact Nat.le_of_ble_eq_true rfl | (simp only [ab_rm]; omega)⟩ ⟨by first | exact Nat.le_of_ble_eq_true rfl | (simp only [ab_rm]; omega), by first | exact Nat.le_of_ble_eq_true rfl | (simp only [ab_rm]; omega)⟩ (Nat.le_of_ble_eq_true rfl) (fun u557 r557 h557 => ?_)
      rcases h557 with ⟨hz, -⟩ | ⟨-, e557, rfl⟩ | ⟨hz, -⟩
      · exact absurd hz hi
      · subst u557
        refine ab_istore6 X 0 1 2 3 4 5 d_LW_law_560 (by decide) rfl rfl rfl rfl rfl rfl rfl rfl rfl rfl rfl rfl ?_
        refine ab_aload_n X 4 d_LW_law_562 rfl rfl ?_
        refine ab_callV (as := []) X (fun h => by cases h) (c_MO_thrown _ h17) lk_LW_61 d_LW_law_563 rfl rfl (by first | assumption | decide) ⟨by first | exact Nat.le_of_ble_eq_true rfl | (simp only [ab_rm]; omega), by first | exact Nat.le_of_ble_eq_true rfl | (simp only [ab_rm]; omega)⟩ ⟨by first | exact Nat.le_of_ble_eq_true rfl | (simp only [ab_rm]; omega), by first | exact Nat.le_of_ble_eq_true rfl | (simp only [ab_rm]; omega)⟩ (Nat.le_of_ble_eq_true rfl) (fun u563 r563 h563 => ?_)
        obtain ⟨e563, rfl⟩ := h563
        subst u563
        refine ab_iload X 1 d_LW_law_566 rfl ?_
        refine ab_icmp_eq X 573 d_LW_law_568 rfl (fun _ => ?_) (fun hb => absurd ((by simp [ab_up])) hb)
        refine ab_iload X 1 d_LW_law_573 rfl ?_
        refine ab_if_ne X 590 d_LW_law_575 rfl (fun _ => ?_) (fun hb => absurd hb ((by decide)))
        refine ab_goto X 741 d_LW_law_590 rfl ?_
        refine ab_lv (List.forall_mem_cons.mpr ⟨List.mem_of_getElem? (i := 2) rfl, List.forall_mem_cons.mpr ⟨List.mem_of_getElem? (i := 3) rfl, List.forall_mem_cons.mpr ⟨List.mem_of_getElem? (i := 4) rfl, List.forall_mem_cons.mpr ⟨List.mem_of_getElem? (i := 5) rfl, List.forall_mem_cons.mpr ⟨List.mem_of_getElem? (i := 6) rfl, fun _ h => absurd h List.not_mem_nil⟩⟩⟩⟩⟩) ?_
        exact next _ _ _ (by decide) (by decide)
      · exact absurd hz hi
  ·
    refine ab_tableIn X 593 d_LW_law_40 (by decide) (by decide) (off := 553) (by decide) (by decide) ?_
    refine ab_aload_n X 3 d_LW_law_593 rfl rfl ?_
    refine ab_callV (as := []) X (fun h => by cases h) (c_PF_clear u h0 h4 e5) lk_LW_85 d_LW_law_594 rfl rfl (by first | assumption | decide) ⟨by first | exact Nat.le_of_ble_eq_true rfl | (simp only [ab_rm]; omega), by first | exact Nat.le_of_ble_eq_true rfl | (simp only [ab_rm]; omega)⟩ ⟨by first | exact Nat.le_of_ble_eq_true rfl | (simp only [ab_rm]; omega), by first | exact Nat.le_of_ble_eq_true rfl | (simp only [ab_rm]; omega)⟩ (Nat.le_of_ble_eq_true rfl) (fun u594 r594 h594 => ?_)
    obtain ⟨e594, rfl⟩ := h594
    subst u594
    refine ab_aload_n X 2 d_LW_law_597 rfl rfl ?_
    refine ab_callV (as := []) X (fun h => by cases h) (c_MO_clear _ h17) lk_LW_88 d_LW_law_598 rfl rfl (by first | assumption | decide) ⟨by first | exact Nat.le_of_ble_eq_true rfl | (simp only [ab_rm]; omega), by first | exact Nat.le_of_ble_eq_true rfl | (simp only [ab_rm]; omega)⟩ ⟨by first | exact Nat.le_of_ble_eq_true rfl | (simp only [ab_rm]; omega), by first | exact Nat.le_of_ble_eq_true rfl | (simp only [ab_rm]; omega)⟩ (Nat.le_of_ble_eq_true rfl) (fun u598 r598 h598 => ?_)
    obtain ⟨e598, rfl⟩ := h598
    subst u598
    refine ab_goto X 741 d_LW_law_601 rfl ?_
    exact next _ _ _ (by decide) (by decide)
  ·
    refine ab_tableIn X 604 d_LW_law_40 (by decide) (by decide) (off := 564) (by decide) (by decide) ?_
    refine ab_aload_n X 3 d_LW_law_604 rfl rfl ?_
    refine ab_aload_n X 4 d_LW_law_605 rfl rfl ?_
    refine ab_iload X 0 d_LW_law_606 rfl ?_
    refine ab_iconst (v := 1) X d_LW_law_608 (by decide) ?_
    refine ab_iadd X d_LW_law_609 ?_
    refine ab_sld X hX hbl hbA 1 d_LW_law_610 (by decide) (by decide) (by decide) ?_
    refine ab_aload_n X 1 d_LW_law_611 rfl rfl ?_
    refine ab_callSW (n := 3) (as := [ab_O 0 0, ab_I (xs 1), ab_O 20 0]) X (hZ) (c_LW_item hfl u (xs 1) 0 h0 h20 h4 h8 e5 ei (ii.trans n0) (by decide)) lW_LW_89 ⟨by decide +kernel, by decide +kernel, by decide +kernel⟩ (by decide) d_LW_law_612 rfl rfl ⟨by first | exact Nat.le_of_ble_eq_true rfl | (simp only [ab_rm]; omega), by first | exact Nat.le_of_ble_eq_true rfl | (simp only [ab_rm]; omega)⟩ ⟨by first | exact Nat.le_of_ble_eq_true rfl | (simp only [ab_rm]; omega), by first | exact Nat.le_of_ble_eq_true rfl | (simp only [ab_rm]; omega)⟩ (Nat.le_of_ble_eq_true rfl) (fun u612 r612 h612 => ?_)
    rcases h612 with ⟨j, hj, -⟩ | ⟨hbad, e612, rfl⟩
    · exact absurd hj (Nat.not_lt_zero _)
    · subst u612
      refine ab_istore5 X 0 1 2 3 4 d_LW_law_615 (by decide) rfl rfl rfl rfl rfl rfl rfl rfl rfl rfl ?_
      refine ab_aload_n X 3 d_LW_law_617 rfl rfl ?_
      refine ab_aload_n X 5 d_LW_law_618 rfl rfl ?_
      refine ab_iload X 1 d_LW_law_619 rfl ?_
      refine ab_iconst (v := 1) X d_LW_law_621 (by decide) ?_
      refine ab_iadd X d_LW_law_622 ?_
      refine ab_sld X hX hbl hbA 1 d_LW_law_623 (by decide) (by decide) (by decide) ?_
      refine ab_callV (as := [ab_I (xs 1)]) X (fun h => by cases h) (c_MO_item u (xs 1) 0 h17 h18 mw (mi.trans n0) (by decide)) lk_LW_91 d_LW_law_624 rfl rfl (by first | assumption | decide) ⟨by first | exact Nat.le_of_ble_eq_true rfl | (simp only [ab_rm]; omega), by first | exact Nat.le_of_ble_eq_true rfl | (simp only [ab_rm]; omega)⟩ ⟨by first | exact Nat.le_of_ble_eq_true rfl | (simp only [ab_rm]; omega), by first | exact Nat.le_of_ble_eq_true rfl | (simp only [ab_rm]; omega)⟩ (Nat.le_of_ble_eq_true rfl) (fun u624 r624 h624 => ?_)
      rcases h624 with ⟨j, hj, -⟩ | ⟨-, e624, rfl⟩
      · exact absurd hj (Nat.not_lt_zero _)
      subst u624
      refine ab_istore6 X 0 1 2 3 4 5 d_LW_law_627 (by decide) rfl rfl rfl rfl rfl rfl rfl rfl rfl rfl rfl rfl ?_
      refine ab_aload_n X 4 d_LW_law_629 rfl rfl ?_
      refine ab_callV (as := []) X (fun h => by cases h) (c_MO_thrown _ h17) lk_LW_61 d_LW_law_630 rfl rfl (by first | assumption | decide) ⟨by first | exact Nat.le_of_ble_eq_true rfl | (simp only [ab_rm]; omega), by first | exact Nat.le_of_ble_eq_true rfl | (simp only [ab_rm]; omega)⟩ ⟨by first | exact Nat.le_of_ble_eq_true rfl | (simp only [ab_rm]; omega), by first | exact Nat.le_of_ble_eq_true rfl | (simp only [ab_rm]; omega)⟩ (Nat.le_of_ble_eq_true rfl) (fun u630 r630 h630 => ?_)
      obtain ⟨e630, rfl⟩ := h630
      subst u630
      refine ab_iload X 1 d_LW_law_633 rfl ?_
      refine ab_icmp_eq X 640 d_LW_law_635 rfl (fun _ => ?_) (fun hb => absurd ((by simp [ab_up])) hb)
      refine ab_iload X 1 d_LW_law_640 rfl ?_
      refine ab_if_ne X 657 d_LW_law_642 rfl (fun _ => ?_) (fun hb => absurd hb ((by decide)))
      refine ab_goto X 741 d_LW_law_657 rfl ?_
      refine ab_lv (List.forall_mem_cons.mpr ⟨List.mem_of_getElem? (i := 2) rfl, List.forall_mem_cons.mpr ⟨List.mem_of_getElem? (i := 3) rfl, List.forall_mem_cons.mpr ⟨List.mem_of_getElem? (i := 4) rfl, List.forall_mem_cons.mpr ⟨List.mem_of_getElem? (i := 5) rfl, List.forall_mem_cons.mpr ⟨List.mem_of_getElem? (i := 6) rfl, fun _ h => absurd h List.not_mem_nil⟩⟩⟩⟩⟩) ?_
      exact next _ _ _ (by decide) (by decide)
  ·
    refine ab_tableIn X 660 d_LW_law_40 (by decide) (by decide) (off := 620) (by decide) (by decide) ?_
    refine ab_aload_n X 3 d_LW_law_660 rfl rfl ?_
    refine ab_aload_n X 4 d_LW_law_661 rfl rfl ?_
    refine ab_iload X 0 d_LW_law_662 rfl ?_
    refine ab_iconst (v := 1) X d_LW_law_664 (by decide) ?_
    refine ab_iadd X d_LW_law_665 ?_
    refine ab_sld X hX hbl hbA 1 d_LW_law_666 (by decide) (by decide) (by decide) ?_
    refine ab_aload_n X 4 d_LW_law_667 rfl rfl ?_
    refine ab_iload X 0 d_LW_law_668 rfl ?_
    refine ab_iconst (v := 2) X d_LW_law_670 (by decide) ?_
    refine ab_iadd X d_LW_law_671 ?_
    refine ab_sld X hX hbl hbA 2 d_LW_law_672 (by decide) (by decide) (by decide) ?_
    refine ab_aload_n X 1 d_LW_law_673 rfl rfl ?_
    refine ab_callSW (n := 4) (as := [ab_O 0 0, ab_I (xs 1), ab_I (xs 2), ab_O 20 0]) X (hZ) (c_LW_check0 hfl u (xs 1) (xs 2) h0 e7) lW_LW_92 ⟨by decide +kernel, by decide +kernel, by decide +kernel⟩ (by decide) d_LW_law_674 rfl rfl ⟨by first | exact Nat.le_of_ble_eq_true rfl | (simp only [ab_rm]; omega), by first | exact Nat.le_of_ble_eq_true rfl | (simp only [ab_rm]; omega)⟩ ⟨by first | exact Nat.le_of_ble_eq_true rfl | (simp only [ab_rm]; omega), by first | exact Nat.le_of_ble_eq_true rfl | (simp only [ab_rm]; omega)⟩ (Nat.le_of_ble_eq_true rfl) (fun u674 r674 h674 => ?_)
    obtain ⟨e674, rfl⟩ := h674
    subst u674
    refine ab_istore5 X 0 1 2 3 4 d_LW_law_677 (by decide) rfl rfl rfl rfl rfl rfl rfl rfl rfl rfl ?_
    refine ab_aload_n X 3 d_LW_law_679 rfl rfl ?_
    refine ab_aload_n X 5 d_LW_law_680 rfl rfl ?_
    refine ab_iload X 1 d_LW_law_681 rfl ?_
    refine ab_iconst (v := 1) X d_LW_law_683 (by decide) ?_
    refine ab_iadd X d_LW_law_684 ?_
    refine ab_sld X hX hbl hbA 1 d_LW_law_685 (by decide) (by decide) (by decide) ?_
    refine ab_aload_n X 5 d_LW_law_686 rfl rfl ?_
    refine ab_iload X 1 d_LW_law_687 rfl ?_
    refine ab_iconst (v := 2) X d_LW_law_689 (by decide) ?_
    refine ab_iadd X d_LW_law_690 ?_
    refine ab_sld X hX hbl hbA 2 d_LW_law_691 (by decide) (by decide) (by decide) ?_
    refine ab_callV (as := [ab_I (xs 1), ab_I (xs 2)]) X (fun h => by cases h) (c_MO_check0 u (xs 1) (xs 2) h17 mh) lk_LW_95 d_LW_law_692 rfl rfl (by first | assumption | decide) ⟨by first | exact Nat.le_of_ble_eq_true rfl | (simp only [ab_rm]; omega), by first | exact Nat.le_of_ble_eq_true rfl | (simp only [ab_rm]; omega)⟩ ⟨by first | exact Nat.le_of_ble_eq_true rfl | (simp only [ab_rm]; omega), by first | exact Nat.le_of_ble_eq_true rfl | (simp only [ab_rm]; omega)⟩ (Nat.le_of_ble_eq_true rfl) (fun u692 r692 h692 => ?_)
    obtain ⟨e692, rfl⟩ := h692
    subst u692
    refine ab_istore6 X 0 1 2 3 4 5 d_LW_law_695 (by decide) rfl rfl rfl rfl rfl rfl rfl rfl rfl rfl rfl rfl ?_
    refine ab_aload_n X 4 d_LW_law_697 rfl rfl ?_
    refine ab_callV (as := []) X (fun h => by cases h) (c_MO_thrown _ h17) lk_LW_61 d_LW_law_698 rfl rfl (by first | assumption | decide) ⟨by first | exact Nat.le_of_ble_eq_true rfl | (simp only [ab_rm]; omega), by first | exact Nat.le_of_ble_eq_true rfl | (simp only [ab_rm]; omega)⟩ ⟨by first | exact Nat.le_of_ble_eq_true rfl | (simp only [ab_rm]; omega), by first | exact Nat.le_of_ble_eq_true rfl | (simp only [ab_rm]; omega)⟩ (Nat.le_of_ble_eq_true rfl) (fun u698 r698 h698 => ?_)
    obtain ⟨e698, rfl⟩ := h698
    subst u698
    refine ab_iload X 1 d_LW_law_701 rfl ?_
    refine ab_icmp_eq X 708 d_LW_law_703 rfl (fun _ => ?_) (fun hb => absurd ((by simp [ab_up])) hb)
    refine ab_iload X 1 d_LW_law_708 rfl ?_
    refine ab_if_ne X 725 d_LW_law_710 rfl (fun _ => ?_) (fun hb => absurd hb ((by decide)))
    refine ab_goto X 741 d_LW_law_725 rfl ?_
    refine ab_lv (List.forall_mem_cons.mpr ⟨List.mem_of_getElem? (i := 2) rfl, List.forall_mem_cons.mpr ⟨List.mem_of_getElem? (i := 3) rfl, List.forall_mem_cons.mpr ⟨List.mem_of_getElem? (i := 4) rfl, List.forall_mem_cons.mpr ⟨List.mem_of_getElem? (i := 5) rfl, List.forall_mem_cons.mpr ⟨List.mem_of_getElem? (i := 6) rfl, fun _ h => absurd h List.not_mem_nil⟩⟩⟩⟩⟩) ?_
    exact next _ _ _ (by decide) (by decide)
  ·
    refine ab_tableIn X 728 d_LW_law_40 (by decide) (by decide) (off := 688) (by decide) (by decide) ?_
    refine ab_aload_n X 3 d_LW_law_728 rfl rfl ?_
    refine ab_callV (as := []) X (fun h => by cases h) (c_PF_done u h0 h7 e6) lk_LW_96 d_LW_law_729 rfl rfl (by first | assumption | decide) ⟨by first | exact Nat.le_of_ble_eq_true rfl | (simp only [ab_rm]; omega), by first | exact Nat.le_of_ble_eq_true rfl | (simp only [ab_rm]; omega)⟩ ⟨by first | exact Nat.le_of_ble_eq_true rfl | (simp only [ab_rm]; omega), by first | exact Nat.le_of_ble_eq_true rfl | (simp only [ab_rm]; omega)⟩ (Nat.le_of_ble_eq_true rfl) (fun u729 r729 h729 => ?_)
    obtain ⟨e729, rfl⟩ := h729
    subst u729
    refine ab_aload_n X 2 d_LW_law_732 rfl rfl ?_
    refine ab_callV (as := []) X (fun h => by cases h) (c_MO_done u h17) lk_LW_99 d_LW_law_733 rfl rfl (by first | assumption | decide) ⟨by first | exact Nat.le_of_ble_eq_true rfl | (simp only [ab_rm]; omega), by first | exact Nat.le_of_ble_eq_true rfl | (simp only [ab_rm]; omega)⟩ ⟨by first | exact Nat.le_of_ble_eq_true rfl | (simp only [ab_rm]; omega), by first | exact Nat.le_of_ble_eq_true rfl | (simp only [ab_rm]; omega)⟩ (Nat.le_of_ble_eq_true rfl) (fun u733 r733 h733 => ?_)
    obtain ⟨e733, rfl⟩ := h733
    subst u733
    refine ab_icmp_eq X 741 d_LW_law_736 rfl (fun _ => ?_) (fun hb => absurd ((by rw [im, md])) hb)
    exact next _ _ _ (by decide) (by decide)
  · refine ab_tableOut X 741 d_LW_law_40 (by decide) (by decide) ?_
    exact next _ _ _ (by decide) (by decide)
  · refine ab_tableOut X 741 d_LW_law_40 (by decide) (by decide) ?_
    exact next _ _ _ (by decide) (by decide)
  · refine ab_tableOut X 741 d_LW_law_40 (by decide) (by decide) ?_
    exact next _ _ _ (by decide) (by decide)
  · refine ab_tableOut X 741 d_LW_law_40 (by decide) (by decide) ?_
    exact next _ _ _ (by decide) (by decide)
end AbLaw

