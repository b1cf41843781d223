/-! Names: the seven strings, what the JDK says of them. -/
section AbStr
variable {p : Program} {l : Launch} {e : Env} {R : Room} {s : State} {m : MethodId} {args : Array Value} {below : List Frame} {meth : Method} {c : Code} {Q : State → Prop}
variable {cc : ByteArray} {own : String} {nL : Nat} {D : va_G} {ca : Nat → ClassId} {A : Nat → Prop} {H0 : Heap} {cells slots : Nat} {ad : ab_Ad} {N : Nat → Nat} {u : ab_S} {pc : Nat} {lv : List (Nat × ab_V)} {st : List ab_V}
theorem ab_retn (X : ab_X p s m args c cc own nL D ca (ab_A ad N s.heap.size) s.heap) {ty : FieldType} (hr : meth.sig.returnType = some ty) (hlk : meth.locks = false) {v : Int32} (hv : narrow ty (.int v) = .int v) (hd : decode cc pc = .ok (.ireturn, 1)) {Post : ab_S → Option ab_V → Prop} (hP : Post u (some (ab_I v))) : ab_J p l e R s m args below meth c (MQ below (ab_Q D ca ad N s.heap.size Post) args s cells slots (ab_A ad N s.heap.size)) D ca (ab_A ad N s.heap.size) s.heap nL cells slots ad N u pc lv [ab_I v] :=
  fun H locs ls hW hS hl => W.zret X.1 X.2.1 hr hv (fun t ht hWt => ⟨⟨u, some (ab_I v), rfl, hP, by rw [ht]; exact hW.weaken (fun _ _ _ => trivial), va_K.moved hWt.alike X.2.2.2.2.2.1⟩, hS.F ht⟩) hS.2.2 hd hlk
theorem ab_sval (X : ab_X p s m args c cc own nL D ca A s.heap) (hz : ab_Zs ad A s s.heap) {idx i : Nat} (hi : i < 7) (hlk : Cond.fieldLink own idx "java/lang/String" "value" "[B" ∈ ab_T) (hd : decode cc pc = .ok (.getfield idx, 3)) (kk : ab_J p l e R s m args below meth c Q D ca A s.heap nL cells slots ad N u (pc + 3) lv (ab_O 24 i :: st)) : ab_J p l e R s m args below meth c Q D ca A s.heap nL cells slots ad N u pc lv (ab_O 22 i :: st) := fun H locs ls hW hS hl =>
  vk_getf X.1 X.2.1 (hz.2.2.2.2.2.2.1.1 i hi).2.2.1 hS X.2.2.2.1 (X.2.2.2.2.1 _ hlk) (fun _ h => h) hd (kk H locs ls hW hS hl)
theorem ab_scod (X : ab_X p s m args c cc own nL D ca A s.heap) (hz : ab_Zs ad A s s.heap) {idx i : Nat} (hi : i < 7) (hlk : Cond.fieldLink own idx "java/lang/String" "coder" "B" ∈ ab_T) (hd : decode cc pc = .ok (.getfield idx, 3)) (kk : ab_J p l e R s m args below meth c Q D ca A s.heap nL cells slots ad N u (pc + 3) lv (ab_I 0 :: st)) : ab_J p l e R s m args below meth c Q D ca A s.heap nL cells slots ad N u pc lv (ab_O 22 i :: st) := fun H locs ls hW hS hl =>
  vk_getf X.1 X.2.1 (hz.2.2.2.2.2.2.1.1 i hi).2.1 hS X.2.2.2.1 (X.2.2.2.2.1 _ hlk) (fun _ h => h) hd (kk H locs ls hW hS hl)
theorem ab_stln (X : ab_X p s m args c cc own nL D ca A s.heap) (hz : ab_Zs ad A s s.heap) {i : Nat} (hi : i < 7) (hd : decode cc pc = .ok (.arraylength, 1)) (kk : ab_J p l e R s m args below meth c Q D ca A s.heap nL cells slots ad N u (pc + 1) lv (ab_I (nI (ab_sl.getD i 0)) :: st)) : ab_J p l e R s m args below meth c Q D ca A s.heap nL cells slots ad N u pc lv (ab_O 24 i :: st) := fun H locs ls hW hS hl =>
  va_tlen (ty := .byte) X.1 X.2.1 (hz.2.2.2.2.2.2.1.1 i hi).2.2.2 hS rfl hd (kk H locs ls hW hS hl)
theorem ab_scom (X : ab_X p s m args c cc own nL D ca A s.heap) (hz : ab_Zs ad A s s.heap) {idx : Nat} (hlk : Cond.fieldLink own idx "java/lang/String" "COMPACT_STRINGS" "Z" ∈ ab_T) (hd : decode cc pc = .ok (.getstatic idx, 3)) (kk : ab_J p l e R s m args below meth c Q D ca A s.heap nL cells slots ad N u (pc + 3) lv (ab_I 1 :: st)) : ab_J p l e R s m args below meth c Q D ca A s.heap nL cells slots ad N u pc lv st := fun H locs ls hW hS hl =>
  va_gets X.1 X.2.1 hz.2.2.2.2.2.2.2.1 hS X.2.2.2.1 (X.2.2.2.2.1 _ hlk) (fun _ h => h) hd (kk H locs ls hW hS hl)
theorem ab_sldc (X : ab_X p s m args c cc "PolicyForge$Reader" nL D ca A s.heap) (hz : ab_Zs ad A s s.heap) {idx : Nat} (i : Nat) (hi : i < 7) (hx : 93 + 2 * i = idx) (hd : decode cc pc = .ok (.ldc idx, 2)) (kk : ab_J p l e R s m args below meth c Q D ca A s.heap nL cells slots ad N u (pc + 2) lv (ab_O 22 i :: st)) : ab_J p l e R s m args below meth c Q D ca A s.heap nL cells slots ad N u pc lv st := fun H locs ls hW hS hl => by
  subst hx
  exact va_ldcS X.1 X.2.1 X.2.2.2.1 (hz.2.2.2.2.2.2.2.2.2 i hi) hd (kk H locs ls hW hS hl)
theorem ab_srcv (hz : ab_Zs ad A s s.heap) {i : Nat} (hi : i < 7) (H : Heap) (locs : List Loc) (hS : va_S A s.heap H locs) : ∃ cell : Cell, H[ad 22 i]? = some cell ∧ cell.vm.isStatics = false ∧ s.vm.findClass "java/lang/String" = some cell.cls := vk_recv hz.2.2.2.2.2.2.1 hi hS
theorem ab_mmax (X : ab_X p s m args c cc own nL D ca A H0) {idx : Nat} (hws : ∀ w ∈ ([.methodLink own idx Lib.Math.max.name, .static Lib.Math.max.name, .initialized "java/lang/Math", .code Lib.Math.max.name Lib.Math.max.code 2 (some .int)] : List Cond), w ∈ ab_T) (hR : 1 ≤ R.frames ∧ 60 ≤ R.locals) (hc : cells ≤ R.cells ∧ slots ≤ R.slots) (hw : ab_len st ≤ 8) {x y : Int32} (hd : decode cc pc = .ok (.invokestatic idx, 3)) (kk : ab_J p l e R s m args below meth c Q D ca A H0 nL cells slots ad N u (pc + 3) lv (ab_I (if x < y then y else x) :: st)) : ab_J p l e R s m args below meth c Q D ca A H0 nL cells slots ad N u pc lv (ab_I y :: ab_I x :: st) := fun H locs ls hW hS hl =>
  va_mmax X.1 X.2.1 (X.2.2.1.trans hl.1.symm) X.2.2.2.1 (X.2.2.2.2.1 _ (hws _ (by simp))) (X.2.2.2.2.1 _ (hws _ (by simp))) (X.2.2.2.2.1 _ (hws _ (by simp))) (X.2.2.2.2.1 _ (hws _ (by simp))) hR.1 (by have := hR.2; rw [ab_wt]; omega) hc.1 hc.2 hd (kk H locs ls hW hS hl)
def ab_lq (own : String) (idx : Nat) (y : MethodName) (cc' : ByteArray) (nL' : Nat) (ret' : Option FieldType) (n : Nat) : Prop :=
  (∀ w ∈ ([.methodLink own idx y, .instanceMethod y, .selects y.cls y y, .initialized y.cls, .code y cc' nL' ret'] : List Cond), w ∈ ab_T) ∧
  (y.cls ≠ "java/lang/invoke/MethodHandle" ∧ y.cls ≠ "java/lang/invoke/VarHandle" ∧ (parseMethodDescriptor y.desc).map (fun d => d.parameters.length) = some n) ∧ nL' ≤ 41
theorem ab_callVQ {z : Bool} {Post : ab_S → Option ab_V → Prop} (X : ab_X p s m args c cc own nL D ca A H0) {y : MethodName} {cc' : ByteArray} {nL' d' idx c' i n : Nat} {ret' : Option FieldType} {as stk : List ab_V} (hz : z = true → ab_Zs ad A s H0) (hC : ab_C z l D ca y cc' nL' ret' d' N u (ab_O c' i :: as) Post) (hk : ab_lq own idx y cc' nL' ret' n) (hd : decode cc pc = .ok (.invokevirtual idx, 3)) (hst : stk = as.reverse ++ ab_O c' i :: st) (hn : as.length = n) (hrc : ∀ (H : Heap) (locs : List Loc), va_S A H0 H locs → ∃ cell : Cell, H[ad c' i]? = some cell ∧ cell.vm.isStatics = false ∧ s.vm.findClass y.cls = some cell.cls) (hR : d' + 1 ≤ R.frames ∧ 60 * (d' + 1) ≤ R.locals) (hc : cells ≤ R.cells ∧ slots ≤ R.slots) (hw : ab_len st ≤ 8)
    (kk : ∀ (u' : ab_S) (r : Option ab_V), Post u' r → ab_J p l e R s m args below meth c Q D ca A H0 nL cells slots ad N u' (pc + 3) lv (r.toList ++ st)) : ab_J p l e R s m args below meth c Q D ca A H0 nL cells slots ad N u pc lv stk := fun H locs ls hW hS hl => by
  obtain ⟨hws, hy, hnL⟩ := hk
  subst hst; subst hn
  have hp : PreV s H y.cls (ad c' i) (ab_Pc z D ca ad N u H.size (ab_O c' i :: as)) (as.map (ab_cv ad)) := ⟨ab_Pc_blind, hrc H locs hS, fun U hU hWU => ⟨rfl, by rw [hU], by rw [hU]; exact hW.weaken (fun _ _ _ => trivial), va_K.moved hWU.alike X.2.2.2.2.2.1, ab_Nw.moved hWU X.2.2.2.2.2.2.2, fun h => by rw [hU]; exact ab_Zs.go X (hz h) hW hS hWU⟩⟩
  have hG : GoodIn ab_T (wsV own idx y.cls y (Cond.code y cc' nL' ret' :: ab_T)) := fun w h => by
    refine ab_T_good w ?_
    rcases List.mem_append.mp h with h | h
    · exact hws w (List.mem_append_left [Cond.code y cc' nL' ret'] h)
    · rcases List.mem_cons.mp h with rfl | h
      · exact hws _ (by simp)
      · exact h
  have cw : CallW R s args own y.cls idx y cc' nL' ret' (Cond.code y cc' nL' ret' :: ab_T) (ab_rm d' 0 0) 0 0 as.length := cwV as.length X.2.2.2.2.1 hG rfl rfl rfl ⟨rfl, hy⟩ ⟨hR.1, by show 8 + (nL' + 11) + 60 * d' ≤ R.locals; omega⟩
  exact ab_after X hW hS hl (va_runV ⟨X.1, X.2.1, X.2.2.1, X.2.2.2.1, X.2.2.2.2.1⟩ (hC ad H.size) cw hp rfl (by simp) hl.1 (by show (as.reverse ++ ab_O c' i :: st).map (ab_cv ad) = _; rw [List.map_append, List.map_reverse]; rfl) (lv_room (by rw [ab_wt]; exact hw)) hd hc) kk
end AbStr
section AbNm
variable {l : Launch} {D : va_G} {ca : Nat → ClassId} {N : Nat → Nat}
abbrev b_JS_coder : ByteArray := prog_18_method_152_code
def y_JS_coder : MethodName := ⟨"java/lang/String", "coder", "()B"⟩
theorem d_JS_coder_0 : decode b_JS_coder 0 = .ok (.getstatic 38, 3) := by decide +kernel
theorem d_JS_coder_3 : decode b_JS_coder 3 = .ok (.ifCond .eq 10, 3) := by decide +kernel
theorem d_JS_coder_6 : decode b_JS_coder 6 = .ok (.aload_n 0, 1) := by decide +kernel
theorem d_JS_coder_7 : decode b_JS_coder 7 = .ok (.getfield 15, 3) := by decide +kernel
theorem d_JS_coder_10 : decode b_JS_coder 10 = .ok (.goto 4, 3) := by decide +kernel
theorem d_JS_coder_13 : decode b_JS_coder 13 = .ok (.iconst 1, 1) := by decide +kernel
theorem d_JS_coder_14 : decode b_JS_coder 14 = .ok (.ireturn, 1) := by decide +kernel
theorem c_JS_coder (u : ab_S) (i : Nat) (hi : i < 7) : ab_C true l D ca y_JS_coder b_JS_coder 1 (some .byte) 0 N u [ab_O 22 i] (fun u' v => u' = u ∧ v = some (ab_I 0)) := by
  refine ab_C.of (by decide) (Nat.le_of_ble_eq_true rfl) ?_
  intro p e s m args below meth c ad X hZ hr0 hlk
  refine ab_scom X (hZ rfl) (ab_in 452 (by decide +kernel) (by decide +kernel)) d_JS_coder_0 ?_
  refine ab_if_eq X 13 d_JS_coder_3 rfl (fun hb => absurd hb ((by decide))) (fun _ => ?_)
  refine ab_aload_n X 0 d_JS_coder_6 rfl rfl ?_
  refine ab_scod X (hZ rfl) hi (ab_in 1328 (by decide +kernel) (by decide +kernel)) d_JS_coder_7 ?_
  refine ab_goto X 14 d_JS_coder_10 rfl ?_
  exact ab_retn X hr0 hlk (by decide +kernel) d_JS_coder_14 ⟨rfl, rfl⟩
abbrev b_JS_length : ByteArray := prog_18_method_54_code
def y_JS_length : MethodName := ⟨"java/lang/String", "length", "()I"⟩
theorem d_JS_length_0 : decode b_JS_length 0 = .ok (.aload_n 0, 1) := by decide +kernel
theorem d_JS_length_1 : decode b_JS_length 1 = .ok (.getfield 9, 3) := by decide +kernel
theorem d_JS_length_4 : decode b_JS_length 4 = .ok (.arraylength, 1) := by decide +kernel
theorem d_JS_length_5 : decode b_JS_length 5 = .ok (.aload_n 0, 1) := by decide +kernel
theorem d_JS_length_6 : decode b_JS_length 6 = .ok (.invokevirtual 335, 3) := by decide +kernel
theorem d_JS_length_9 : decode b_JS_length 9 = .ok (.ishr, 1) := by decide +kernel
theorem d_JS_length_10 : decode b_JS_length 10 = .ok (.ireturn, 1) := by decide +kernel
theorem lq_JS_335 : ab_lq "java/lang/String" 335 y_JS_coder b_JS_coder 1 (some FieldType.byte) 0 := ⟨List.forall_mem_cons.mpr ⟨(ab_in 448 (by decide +kernel) (by decide +kernel)), List.forall_mem_cons.mpr ⟨(ab_in 449 (by decide +kernel) (by decide +kernel)), List.forall_mem_cons.mpr ⟨(ab_in 450 (by decide +kernel) (by decide +kernel)), List.forall_mem_cons.mpr ⟨(ab_in 101 (by decide +kernel) (by decide +kernel)), List.forall_mem_cons.mpr ⟨(ab_in 451 (by decide +kernel) (by decide +kernel)), fun _ h => absurd h List.not_mem_nil⟩⟩⟩⟩⟩, ⟨by decide +kernel, by decide +kernel, by decide +kernel⟩, by decide⟩
theorem ab_sl_lt {i : Nat} (h : i < 7) : ab_sl.getD i 0 < 2 ^ 31 := by
  have h' : i = 0 ∨ i = 1 ∨ i = 2 ∨ i = 3 ∨ i = 4 ∨ i = 5 ∨ i = 6 := by omega
  rcases h' with rfl | rfl | rfl | rfl | rfl | rfl | rfl <;> decide
theorem ab_sl_pos {i : Nat} (h : i < 7) : 0 < ab_sl.getD i 0 := by
  have h' : i = 0 ∨ i = 1 ∨ i = 2 ∨ i = 3 ∨ i = 4 ∨ i = 5 ∨ i = 6 := by omega
  rcases h' with rfl | rfl | rfl | rfl | rfl | rfl | rfl <;> decide
theorem c_JS_length (u : ab_S) (i : Nat) (hi : i < 7) : ab_C true l D ca y_JS_length b_JS_length 1 (some .int) 1 N u [ab_O 22 i] (fun u' v => u' = u ∧ v = some (ab_I (nI (ab_sl.getD i 0)))) := by
  refine ab_C.of (by decide) (Nat.le_of_ble_eq_true rfl) ?_
  intro p e s m args below meth c ad X hZ hr0 hlk
  refine ab_aload_n X 0 d_JS_length_0 rfl rfl ?_
  refine ab_sval X (hZ rfl) hi (ab_in 1327 (by decide +kernel) (by decide +kernel)) d_JS_length_1 ?_
  refine ab_stln X (hZ rfl) hi d_JS_length_4 ?_
  refine ab_aload_n X 0 d_JS_length_5 rfl rfl ?_
  refine ab_callVQ (as := []) X (fun _ => hZ rfl) (c_JS_coder u i hi) lq_JS_335 d_JS_length_6 rfl rfl (ab_srcv (hZ rfl) hi) ⟨by first | exact Nat.le_of_ble_eq_true rfl | (simp only [ab_rm]; omega), by first | exact Nat.le_of_ble_eq_true rfl | (simp only [ab_rm]; omega)⟩ ⟨by first | exact Nat.le_of_ble_eq_true rfl | (simp only [ab_rm]; omega), by first | exact Nat.le_of_ble_eq_true rfl | (simp only [ab_rm]; omega)⟩ (Nat.le_of_ble_eq_true rfl) (fun u6 r6 h6 => ?_)
  obtain ⟨e6, rfl⟩ := h6
  subst u6
  refine ab_ishr X d_JS_length_9 ?_
  refine ab_top (pk_shrN (ab_sl_lt hi) _ 0 (by decide +kernel)) ?_
  exact ab_reti X hr0 hlk d_JS_length_10 ⟨rfl, by rw [Nat.pow_zero, Nat.div_one]⟩
abbrev b_RD_nameOf : ByteArray := prog_6_method_7_code
def y_RD_nameOf : MethodName := ⟨"PolicyForge$Reader", "nameOf", "(I)Ljava/lang/String;"⟩
theorem d_RD_nameOf_0 : decode b_RD_nameOf 0 = .ok (.iload_n 0, 1) := by decide +kernel
theorem d_RD_nameOf_1 : decode b_RD_nameOf 1 = .ok (.tableswitch 61 1 7 #[43, 46, 49, 52, 61, 55, 58], 43) := by decide +kernel
theorem d_RD_nameOf_44 : decode b_RD_nameOf 44 = .ok (.ldc 93, 2) := by decide +kernel
theorem d_RD_nameOf_46 : decode b_RD_nameOf 46 = .ok (.areturn, 1) := by decide +kernel
theorem d_RD_nameOf_47 : decode b_RD_nameOf 47 = .ok (.ldc 95, 2) := by decide +kernel
theorem d_RD_nameOf_49 : decode b_RD_nameOf 49 = .ok (.areturn, 1) := by decide +kernel
theorem d_RD_nameOf_50 : decode b_RD_nameOf 50 = .ok (.ldc 97, 2) := by decide +kernel
theorem d_RD_nameOf_52 : decode b_RD_nameOf 52 = .ok (.areturn, 1) := by decide +kernel
theorem d_RD_nameOf_53 : decode b_RD_nameOf 53 = .ok (.ldc 99, 2) := by decide +kernel
theorem d_RD_nameOf_55 : decode b_RD_nameOf 55 = .ok (.areturn, 1) := by decide +kernel
theorem d_RD_nameOf_56 : decode b_RD_nameOf 56 = .ok (.ldc 101, 2) := by decide +kernel
theorem d_RD_nameOf_58 : decode b_RD_nameOf 58 = .ok (.areturn, 1) := by decide +kernel
theorem d_RD_nameOf_59 : decode b_RD_nameOf 59 = .ok (.ldc 103, 2) := by decide +kernel
theorem d_RD_nameOf_61 : decode b_RD_nameOf 61 = .ok (.areturn, 1) := by decide +kernel
theorem d_RD_nameOf_62 : decode b_RD_nameOf 62 = .ok (.ldc 105, 2) := by decide +kernel
theorem d_RD_nameOf_64 : decode b_RD_nameOf 64 = .ok (.areturn, 1) := by decide +kernel
theorem c_RD_nameOf (u : ab_S) (j : Nat) (hj : j < 7) : ab_C true l D ca y_RD_nameOf b_RD_nameOf 1 (some (.object "java/lang/String")) 0 N u [ab_I (ab_kinds j)] (fun u' v => u' = u ∧ v = some (ab_O 22 j)) := by
  refine ab_C.of (by decide) (Nat.le_of_ble_eq_true rfl) ?_
  intro p e s m args below meth c ad X hZ hr0 hlk
  have h' : j = 0 ∨ j = 1 ∨ j = 2 ∨ j = 3 ∨ j = 4 ∨ j = 5 ∨ j = 6 := by omega
  rcases h' with rfl | rfl | rfl | rfl | rfl | rfl | rfl
  ·
    refine ab_iload_n X 0 d_RD_nameOf_0 rfl rfl ?_
    refine ab_tableIn X 44 d_RD_nameOf_1 (by decide) (by decide) (off := 43) (by decide) (by decide) ?_
    refine ab_sldc X (hZ rfl) 0 (by decide) rfl d_RD_nameOf_44 ?_
    exact ab_retr X hr0 hlk d_RD_nameOf_46 ⟨rfl, rfl⟩
  ·
    refine ab_iload_n X 0 d_RD_nameOf_0 rfl rfl ?_
    refine ab_tableIn X 47 d_RD_nameOf_1 (by decide) (by decide) (off := 46) (by decide) (by decide) ?_
    refine ab_sldc X (hZ rfl) 1 (by decide) rfl d_RD_nameOf_47 ?_
    exact ab_retr X hr0 hlk d_RD_nameOf_49 ⟨rfl, rfl⟩
  ·
    refine ab_iload_n X 0 d_RD_nameOf_0 rfl rfl ?_
    refine ab_tableIn X 50 d_RD_nameOf_1 (by decide) (by decide) (off := 49) (by decide) (by decide) ?_
    refine ab_sldc X (hZ rfl) 2 (by decide) rfl d_RD_nameOf_50 ?_
    exact ab_retr X hr0 hlk d_RD_nameOf_52 ⟨rfl, rfl⟩
  ·
    refine ab_iload_n X 0 d_RD_nameOf_0 rfl rfl ?_
    refine ab_tableIn X 53 d_RD_nameOf_1 (by decide) (by decide) (off := 52) (by decide) (by decide) ?_
    refine ab_sldc X (hZ rfl) 3 (by decide) rfl d_RD_nameOf_53 ?_
    exact ab_retr X hr0 hlk d_RD_nameOf_55 ⟨rfl, rfl⟩
  ·
    refine ab_iload_n X 0 d_RD_nameOf_0 rfl rfl ?_
    refine ab_tableIn X 56 d_RD_nameOf_1 (by decide) (by decide) (off := 55) (by decide) (by decide) ?_
    refine ab_sldc X (hZ rfl) 4 (by decide) rfl d_RD_nameOf_56 ?_
    exact ab_retr X hr0 hlk d_RD_nameOf_58 ⟨rfl, rfl⟩
  ·
    refine ab_iload_n X 0 d_RD_nameOf_0 rfl rfl ?_
    refine ab_tableIn X 59 d_RD_nameOf_1 (by decide) (by decide) (off := 58) (by decide) (by decide) ?_
    refine ab_sldc X (hZ rfl) 5 (by decide) rfl d_RD_nameOf_59 ?_
    exact ab_retr X hr0 hlk d_RD_nameOf_61 ⟨rfl, rfl⟩
  ·
    refine ab_iload_n X 0 d_RD_nameOf_0 rfl rfl ?_
    refine ab_tableOut X 62 d_RD_nameOf_1 (by decide) (by decide) ?_
    refine ab_sldc X (hZ rfl) 6 (by decide) rfl d_RD_nameOf_62 ?_
    exact ab_retr X hr0 hlk d_RD_nameOf_64 ⟨rfl, rfl⟩
abbrev b_RD_countSame : ByteArray := prog_6_method_8_code
def y_RD_countSame : MethodName := ⟨"PolicyForge$Reader", "countSame", "(Ljava/lang/String;)I"⟩
theorem d_RD_countSame_0 : decode b_RD_countSame 0 = .ok (.iconst 0, 1) := by decide +kernel
theorem d_RD_countSame_1 : decode b_RD_countSame 1 = .ok (.istore_n 2, 1) := by decide +kernel
theorem d_RD_countSame_2 : decode b_RD_countSame 2 = .ok (.iload_n 2, 1) := by decide +kernel
theorem d_RD_countSame_3 : decode b_RD_countSame 3 = .ok (.aload_n 1, 1) := by decide +kernel
theorem d_RD_countSame_4 : decode b_RD_countSame 4 = .ok (.invokevirtual 83, 3) := by decide +kernel
theorem d_RD_countSame_7 : decode b_RD_countSame 7 = .ok (.if_icmp .ge 41, 3) := by decide +kernel
theorem d_RD_countSame_10 : decode b_RD_countSame 10 = .ok (.aload_n 0, 1) := by decide +kernel
theorem d_RD_countSame_11 : decode b_RD_countSame 11 = .ok (.getfield 30, 3) := by decide +kernel
theorem d_RD_countSame_14 : decode b_RD_countSame 14 = .ok (.iload_n 2, 1) := by decide +kernel
theorem d_RD_countSame_15 : decode b_RD_countSame 15 = .ok (.iadd, 1) := by decide +kernel
theorem d_RD_countSame_16 : decode b_RD_countSame 16 = .ok (.aload_n 0, 1) := by decide +kernel
theorem d_RD_countSame_17 : decode b_RD_countSame 17 = .ok (.getfield 26, 3) := by decide +kernel
theorem d_RD_countSame_20 : decode b_RD_countSame 20 = .ok (.if_icmp .ge 28, 3) := by decide +kernel
theorem d_RD_countSame_23 : decode b_RD_countSame 23 = .ok (.aload_n 0, 1) := by decide +kernel
theorem d_RD_countSame_24 : decode b_RD_countSame 24 = .ok (.getfield 9, 3) := by decide +kernel
theorem d_RD_countSame_27 : decode b_RD_countSame 27 = .ok (.aload_n 0, 1) := by decide +kernel
theorem d_RD_countSame_28 : decode b_RD_countSame 28 = .ok (.getfield 30, 3) := by decide +kernel
theorem d_RD_countSame_31 : decode b_RD_countSame 31 = .ok (.iload_n 2, 1) := by decide +kernel
theorem d_RD_countSame_32 : decode b_RD_countSame 32 = .ok (.iadd, 1) := by decide +kernel
theorem d_RD_countSame_33 : decode b_RD_countSame 33 = .ok (.iaload, 1) := by decide +kernel
theorem d_RD_countSame_34 : decode b_RD_countSame 34 = .ok (.aload_n 1, 1) := by decide +kernel
theorem d_RD_countSame_35 : decode b_RD_countSame 35 = .ok (.iload_n 2, 1) := by decide +kernel
theorem d_RD_countSame_36 : decode b_RD_countSame 36 = .ok (.invokevirtual 107, 3) := by decide +kernel
theorem d_RD_countSame_39 : decode b_RD_countSame 39 = .ok (.if_icmp .ne 9, 3) := by decide +kernel
theorem d_RD_countSame_42 : decode b_RD_countSame 42 = .ok (.iinc 2 1, 3) := by decide +kernel
theorem d_RD_countSame_45 : decode b_RD_countSame 45 = .ok (.goto (-43), 3) := by decide +kernel
theorem d_RD_countSame_48 : decode b_RD_countSame 48 = .ok (.iload_n 2, 1) := by decide +kernel
theorem d_RD_countSame_49 : decode b_RD_countSame 49 = .ok (.ireturn, 1) := by decide +kernel
theorem lq_RD_83 : ab_lq "PolicyForge$Reader" 83 y_JS_length b_JS_length 1 (some FieldType.int) 0 := ⟨List.forall_mem_cons.mpr ⟨(ab_in 444 (by decide +kernel) (by decide +kernel)), List.forall_mem_cons.mpr ⟨(ab_in 445 (by decide +kernel) (by decide +kernel)), List.forall_mem_cons.mpr ⟨(ab_in 446 (by decide +kernel) (by decide +kernel)), List.forall_mem_cons.mpr ⟨(ab_in 101 (by decide +kernel) (by decide +kernel)), List.forall_mem_cons.mpr ⟨(ab_in 447 (by decide +kernel) (by decide +kernel)), fun _ h => absurd h List.not_mem_nil⟩⟩⟩⟩⟩, ⟨by decide +kernel, by decide +kernel, by decide +kernel⟩, by decide⟩
theorem fl_RD_30 : ab_fl "PolicyForge$Reader" 30 1 4 0 := ⟨rfl, R_RD, T_RD, 8, rfl, uw_RD, by decide, rfl, (ab_in 249 (by decide +kernel) (by decide +kernel))⟩
theorem fl_RD_26 : ab_fl "PolicyForge$Reader" 26 1 3 0 := ⟨rfl, R_RD, T_RD, 8, rfl, uw_RD, by decide, rfl, (ab_in 247 (by decide +kernel) (by decide +kernel))⟩
abbrev b_JS_charAt : ByteArray := prog_18_method_56_code
def y_JS_charAt : MethodName := ⟨"java/lang/String", "charAt", "(I)C"⟩
theorem lq_RD_107 : ab_lq "PolicyForge$Reader" 107 y_JS_charAt b_JS_charAt 2 (some FieldType.char) 1 := ⟨List.forall_mem_cons.mpr ⟨(ab_in 454 (by decide +kernel) (by decide +kernel)), List.forall_mem_cons.mpr ⟨(ab_in 455 (by decide +kernel) (by decide +kernel)), List.forall_mem_cons.mpr ⟨(ab_in 456 (by decide +kernel) (by decide +kernel)), List.forall_mem_cons.mpr ⟨(ab_in 101 (by decide +kernel) (by decide +kernel)), List.forall_mem_cons.mpr ⟨(ab_in 457 (by decide +kernel) (by decide +kernel)), fun _ h => absurd h List.not_mem_nil⟩⟩⟩⟩⟩, ⟨by decide +kernel, by decide +kernel, by decide +kernel⟩, by decide⟩
theorem c_RD_countSame0 (u : ab_S) (j : Nat) (hj : j < 7) (h1 : 0 < N 1) (el : u.1 1 0 3 = 0) (ea : u.1 1 0 4 = 0) : ab_C true l D ca y_RD_countSame b_RD_countSame 3 (some .int) 2 N u [ab_O 1 0, ab_O 22 j] (fun u' v => u' = u ∧ v = some (ab_I 0)) := by
  refine ab_C.of (by decide) (Nat.le_of_ble_eq_true rfl) ?_
  intro p e s m args below meth c ad X hZ hr0 hlk
  refine ab_iconst (v := 0) X d_RD_countSame_0 (by decide) ?_
  refine ab_istore_n2 X 0 1 d_RD_countSame_1 rfl (by decide) rfl rfl rfl rfl ?_
  refine ab_iload_n X 0 d_RD_countSame_2 rfl rfl ?_
  refine ab_aload_n X 2 d_RD_countSame_3 rfl rfl ?_
  refine ab_callVQ (as := []) X (fun _ => hZ rfl) (c_JS_length u j hj) lq_RD_83 d_RD_countSame_4 rfl rfl (ab_srcv (hZ rfl) hj) ⟨by first | exact Nat.le_of_ble_eq_true rfl | (simp only [ab_rm]; omega), by first | exact Nat.le_of_ble_eq_true rfl | (simp only [ab_rm]; omega)⟩ ⟨by first | exact Nat.le_of_ble_eq_true rfl | (simp only [ab_rm]; omega), by first | exact Nat.le_of_ble_eq_true rfl | (simp only [ab_rm]; omega)⟩ (Nat.le_of_ble_eq_true rfl) (fun u4 r4 h4 => ?_)
  obtain ⟨e4, rfl⟩ := h4
  subst u4
  refine ab_icmp_ge X 48 d_RD_countSame_7 rfl (fun hb => absurd hb ((nI_nle (ab_sl_pos hj) (ab_sl_lt hj)))) (fun _ => ?_)
  refine ab_aload_n X 1 d_RD_countSame_10 rfl rfl ?_
  refine ab_gI X fl_RD_30 d_RD_countSame_11 (by first | assumption | decide) (ea) ?_
  refine ab_iload_n X 0 d_RD_countSame_14 rfl rfl ?_
  refine ab_iadd X d_RD_countSame_15 ?_
  refine ab_aload_n X 1 d_RD_countSame_16 rfl rfl ?_
  refine ab_gI X fl_RD_26 d_RD_countSame_17 (by first | assumption | decide) (el) ?_
  refine ab_icmp_ge X 48 d_RD_countSame_20 rfl (fun _ => ?_) (fun hb => absurd ((by decide)) hb)
  refine ab_iload_n X 0 d_RD_countSame_48 rfl rfl ?_
  exact ab_reti X hr0 hlk d_RD_countSame_49 ⟨rfl, rfl⟩
abbrev b_RD_refuse : ByteArray := prog_6_method_11_code
def y_RD_refuse : MethodName := ⟨"PolicyForge$Reader", "refuse", "(I)Z"⟩
theorem d_RD_refuse_0 : decode b_RD_refuse 0 = .ok (.aload_n 0, 1) := by decide +kernel
theorem d_RD_refuse_1 : decode b_RD_refuse 1 = .ok (.iload_n 1, 1) := by decide +kernel
theorem d_RD_refuse_2 : decode b_RD_refuse 2 = .ok (.putfield 33, 3) := by decide +kernel
theorem d_RD_refuse_5 : decode b_RD_refuse 5 = .ok (.iconst 0, 1) := by decide +kernel
theorem d_RD_refuse_6 : decode b_RD_refuse 6 = .ok (.ireturn, 1) := by decide +kernel
theorem c_RD_refuse (u : ab_S) (x : Int32) (h1 : 0 < N 1) : ab_C false l D ca y_RD_refuse b_RD_refuse 2 (some .boolean) 0 N u [ab_O 1 0, ab_I x] (fun u' v => u' = ab_ui u 1 0 5 x ∧ v = some (ab_I 0)) := by
  refine ab_C.of (by decide) (Nat.le_of_ble_eq_true rfl) ?_
  intro p e s m args below meth c ad X hZ hr0 hlk
  refine ab_aload_n X 0 d_RD_refuse_0 rfl rfl ?_
  refine ab_iload_n X 1 d_RD_refuse_1 rfl rfl ?_
  refine ab_putI X fp_RD_33 d_RD_refuse_2 (by first | assumption | decide) rfl rfl ?_
  refine ab_iconst (v := 0) X d_RD_refuse_5 (by decide) ?_
  exact ab_retz X hr0 hlk (Or.inl rfl) d_RD_refuse_6 ⟨rfl, rfl⟩
abbrev b_RD_kindHere : ByteArray := prog_6_method_6_code
def y_RD_kindHere : MethodName := ⟨"PolicyForge$Reader", "kindHere", "()I"⟩
theorem d_RD_kindHere_0 : decode b_RD_kindHere 0 = .ok (.iconst 0, 1) := by decide +kernel
theorem d_RD_kindHere_1 : decode b_RD_kindHere 1 = .ok (.istore_n 1, 1) := by decide +kernel
theorem d_RD_kindHere_2 : decode b_RD_kindHere 2 = .ok (.getstatic 72, 3) := by decide +kernel
theorem d_RD_kindHere_5 : decode b_RD_kindHere 5 = .ok (.astore_n 2, 1) := by decide +kernel
theorem d_RD_kindHere_6 : decode b_RD_kindHere 6 = .ok (.aload_n 2, 1) := by decide +kernel
theorem d_RD_kindHere_7 : decode b_RD_kindHere 7 = .ok (.arraylength, 1) := by decide +kernel
theorem d_RD_kindHere_8 : decode b_RD_kindHere 8 = .ok (.istore_n 3, 1) := by decide +kernel
theorem d_RD_kindHere_9 : decode b_RD_kindHere 9 = .ok (.iconst 0, 1) := by decide +kernel
theorem d_RD_kindHere_10 : decode b_RD_kindHere 10 = .ok (.istore 4, 2) := by decide +kernel
theorem d_RD_kindHere_12 : decode b_RD_kindHere 12 = .ok (.iload 4, 2) := by decide +kernel
theorem d_RD_kindHere_14 : decode b_RD_kindHere 14 = .ok (.iload_n 3, 1) := by decide +kernel
theorem d_RD_kindHere_15 : decode b_RD_kindHere 15 = .ok (.if_icmp .ge 61, 3) := by decide +kernel
theorem d_RD_kindHere_18 : decode b_RD_kindHere 18 = .ok (.aload_n 2, 1) := by decide +kernel
theorem d_RD_kindHere_19 : decode b_RD_kindHere 19 = .ok (.iload 4, 2) := by decide +kernel
theorem d_RD_kindHere_21 : decode b_RD_kindHere 21 = .ok (.iaload, 1) := by decide +kernel
theorem d_RD_kindHere_22 : decode b_RD_kindHere 22 = .ok (.istore 5, 2) := by decide +kernel
theorem d_RD_kindHere_24 : decode b_RD_kindHere 24 = .ok (.iload 5, 2) := by decide +kernel
theorem d_RD_kindHere_26 : decode b_RD_kindHere 26 = .ok (.invokestatic 75, 3) := by decide +kernel
theorem d_RD_kindHere_29 : decode b_RD_kindHere 29 = .ok (.astore 6, 2) := by decide +kernel
theorem d_RD_kindHere_31 : decode b_RD_kindHere 31 = .ok (.aload_n 0, 1) := by decide +kernel
theorem d_RD_kindHere_32 : decode b_RD_kindHere 32 = .ok (.aload 6, 2) := by decide +kernel
theorem d_RD_kindHere_34 : decode b_RD_kindHere 34 = .ok (.invokevirtual 79, 3) := by decide +kernel
theorem d_RD_kindHere_37 : decode b_RD_kindHere 37 = .ok (.istore 7, 2) := by decide +kernel
theorem d_RD_kindHere_39 : decode b_RD_kindHere 39 = .ok (.iload 7, 2) := by decide +kernel
theorem d_RD_kindHere_41 : decode b_RD_kindHere 41 = .ok (.aload 6, 2) := by decide +kernel
theorem d_RD_kindHere_43 : decode b_RD_kindHere 43 = .ok (.invokevirtual 83, 3) := by decide +kernel
theorem d_RD_kindHere_46 : decode b_RD_kindHere 46 = .ok (.if_icmp .ne 17, 3) := by decide +kernel
theorem d_RD_kindHere_49 : decode b_RD_kindHere 49 = .ok (.aload_n 0, 1) := by decide +kernel
theorem d_RD_kindHere_50 : decode b_RD_kindHere 50 = .ok (.dup, 1) := by decide +kernel
theorem d_RD_kindHere_51 : decode b_RD_kindHere 51 = .ok (.getfield 30, 3) := by decide +kernel
theorem d_RD_kindHere_54 : decode b_RD_kindHere 54 = .ok (.iload 7, 2) := by decide +kernel
theorem d_RD_kindHere_56 : decode b_RD_kindHere 56 = .ok (.iadd, 1) := by decide +kernel
theorem d_RD_kindHere_57 : decode b_RD_kindHere 57 = .ok (.putfield 30, 3) := by decide +kernel
theorem d_RD_kindHere_60 : decode b_RD_kindHere 60 = .ok (.iload 5, 2) := by decide +kernel
theorem d_RD_kindHere_62 : decode b_RD_kindHere 62 = .ok (.ireturn, 1) := by decide +kernel
theorem d_RD_kindHere_63 : decode b_RD_kindHere 63 = .ok (.iload_n 1, 1) := by decide +kernel
theorem d_RD_kindHere_64 : decode b_RD_kindHere 64 = .ok (.iload 7, 2) := by decide +kernel
theorem d_RD_kindHere_66 : decode b_RD_kindHere 66 = .ok (.invokestatic 87, 3) := by decide +kernel
theorem d_RD_kindHere_69 : decode b_RD_kindHere 69 = .ok (.istore_n 1, 1) := by decide +kernel
theorem d_RD_kindHere_70 : decode b_RD_kindHere 70 = .ok (.iinc 4 1, 3) := by decide +kernel
theorem d_RD_kindHere_73 : decode b_RD_kindHere 73 = .ok (.goto (-61), 3) := by decide +kernel
theorem d_RD_kindHere_76 : decode b_RD_kindHere 76 = .ok (.aload_n 0, 1) := by decide +kernel
theorem d_RD_kindHere_77 : decode b_RD_kindHere 77 = .ok (.aload_n 0, 1) := by decide +kernel
theorem d_RD_kindHere_78 : decode b_RD_kindHere 78 = .ok (.getfield 30, 3) := by decide +kernel
theorem d_RD_kindHere_81 : decode b_RD_kindHere 81 = .ok (.iload_n 1, 1) := by decide +kernel
theorem d_RD_kindHere_82 : decode b_RD_kindHere 82 = .ok (.iadd, 1) := by decide +kernel
theorem d_RD_kindHere_83 : decode b_RD_kindHere 83 = .ok (.invokevirtual 46, 3) := by decide +kernel
theorem d_RD_kindHere_86 : decode b_RD_kindHere 86 = .ok (.pop, 1) := by decide +kernel
theorem d_RD_kindHere_87 : decode b_RD_kindHere 87 = .ok (.iconst 0, 1) := by decide +kernel
theorem d_RD_kindHere_88 : decode b_RD_kindHere 88 = .ok (.ireturn, 1) := by decide +kernel
theorem ls_RD_75 : ab_ls "PolicyForge$Reader" 75 y_RD_nameOf b_RD_nameOf 1 (some (FieldType.object "java/lang/String")) 1 := ⟨List.forall_mem_cons.mpr ⟨(ab_in 430 (by decide +kernel) (by decide +kernel)), List.forall_mem_cons.mpr ⟨(ab_in 431 (by decide +kernel) (by decide +kernel)), List.forall_mem_cons.mpr ⟨(ab_in 93 (by decide +kernel) (by decide +kernel)), List.forall_mem_cons.mpr ⟨(ab_in 432 (by decide +kernel) (by decide +kernel)), fun _ h => absurd h List.not_mem_nil⟩⟩⟩⟩, ⟨by decide +kernel, by decide +kernel, by decide +kernel⟩, by decide⟩
theorem lk_RD_79 : ab_lk "PolicyForge$Reader" 79 y_RD_countSame b_RD_countSame 3 (some FieldType.int) 1 1 := ⟨⟨rfl, T_RD, 8, rfl⟩, List.forall_mem_cons.mpr ⟨(ab_in 440 (by decide +kernel) (by decide +kernel)), List.forall_mem_cons.mpr ⟨(ab_in 442 (by decide +kernel) (by decide +kernel)), List.forall_mem_cons.mpr ⟨(ab_in 3 (by decide +kernel) (by decide +kernel)), List.forall_mem_cons.mpr ⟨(ab_in 93 (by decide +kernel) (by decide +kernel)), List.forall_mem_cons.mpr ⟨(ab_in 443 (by decide +kernel) (by decide +kernel)), fun _ h => absurd h List.not_mem_nil⟩⟩⟩⟩⟩, ⟨by decide +kernel, by decide +kernel, by decide +kernel⟩, by decide⟩
abbrev b_JM_max : ByteArray := prog_16_method_65_code
def y_JM_max : MethodName := ⟨"java/lang/Math", "max", "(II)I"⟩
theorem ls_RD_87 : ab_ls "PolicyForge$Reader" 87 y_JM_max b_JM_max 2 (some FieldType.int) 2 := ⟨List.forall_mem_cons.mpr ⟨(ab_in 492 (by decide +kernel) (by decide +kernel)), List.forall_mem_cons.mpr ⟨(ab_in 493 (by decide +kernel) (by decide +kernel)), List.forall_mem_cons.mpr ⟨(ab_in 105 (by decide +kernel) (by decide +kernel)), List.forall_mem_cons.mpr ⟨(ab_in 494 (by decide +kernel) (by decide +kernel)), fun _ h => absurd h List.not_mem_nil⟩⟩⟩⟩, ⟨by decide +kernel, by decide +kernel, by decide +kernel⟩, by decide⟩
theorem lk_RD_46 : ab_lk "PolicyForge$Reader" 46 y_RD_refuse b_RD_refuse 2 (some FieldType.boolean) 1 1 := ⟨⟨rfl, T_RD, 8, rfl⟩, List.forall_mem_cons.mpr ⟨(ab_in 420 (by decide +kernel) (by decide +kernel)), List.forall_mem_cons.mpr ⟨(ab_in 422 (by decide +kernel) (by decide +kernel)), List.forall_mem_cons.mpr ⟨(ab_in 1 (by decide +kernel) (by decide +kernel)), List.forall_mem_cons.mpr ⟨(ab_in 93 (by decide +kernel) (by decide +kernel)), List.forall_mem_cons.mpr ⟨(ab_in 423 (by decide +kernel) (by decide +kernel)), fun _ h => absurd h List.not_mem_nil⟩⟩⟩⟩⟩, ⟨by decide +kernel, by decide +kernel, by decide +kernel⟩, by decide⟩
theorem mm_RD_87 : ∀ w ∈ ([.methodLink "PolicyForge$Reader" 87 Lib.Math.max.name, .static Lib.Math.max.name, .initialized "java/lang/Math", .code Lib.Math.max.name Lib.Math.max.code 2 (some .int)] : List Cond), w ∈ ab_T := List.forall_mem_cons.mpr ⟨(ab_in 492 (by decide +kernel) (by decide +kernel)), List.forall_mem_cons.mpr ⟨(ab_in 493 (by decide +kernel) (by decide +kernel)), List.forall_mem_cons.mpr ⟨(ab_in 105 (by decide +kernel) (by decide +kernel)), List.forall_mem_cons.mpr ⟨(ab_in 494 (by decide +kernel) (by decide +kernel)), fun _ h => absurd h List.not_mem_nil⟩⟩⟩⟩
set_option maxRecDepth 100000 in
set_option maxHeartbeats 1000000 in
theorem c_RD_kindHere0 (u : ab_S) (h1 : 0 < N 1) (el : u.1 1 0 3 = 0) (ea : u.1 1 0 4 = 0) : ab_C true l D ca y_RD_kindHere b_RD_kindHere 8 (some .int) 3 N u [ab_O 1 0] (fun u' v => u' = ab_ui u 1 0 5 0 ∧ v = some (ab_I 0)) := by
  refine ab_C.of (by decide) (Nat.le_of_ble_eq_true rfl) ?_
  intro p e s m args below meth c ad X hZ hr0 hlk
  have loop : ∀ (n j : Nat), j + n = 7 → ab_J p l e (ab_rm 3 0 0) s m args below meth c (MQ below (ab_Q D ca ad N s.heap.size (fun u' v => u' = ab_ui u 1 0 5 0 ∧ v = some (ab_I 0))) args s 0 0 (ab_A ad N s.heap.size)) D ca (ab_A ad N s.heap.size) s.heap 8 0 0 ad N u 12 [(4, ab_I (nI j)), (3, ab_I 7), (2, ab_O 21 0), (1, ab_I 0), (0, ab_O 1 0)] [] := by
    intro n
    induction n with
    | zero =>
      intro j hj
      obtain rfl : j = 7 := by omega
      refine ab_iload X 0 d_RD_kindHere_12 rfl ?_
      refine ab_iload_n X 1 d_RD_kindHere_14 rfl rfl ?_
      refine ab_icmp_ge X 76 d_RD_kindHere_15 rfl (fun _ => ?_) (fun hb => absurd ((by decide)) hb)
      refine ab_aload_n X 4 d_RD_kindHere_76 rfl rfl ?_
      refine ab_aload_n X 4 d_RD_kindHere_77 rfl rfl ?_
      refine ab_gI X fl_RD_30 d_RD_kindHere_78 (by first | assumption | decide) (ea) ?_
      refine ab_iload_n X 3 d_RD_kindHere_81 rfl rfl ?_
      refine ab_iadd X d_RD_kindHere_82 ?_
      refine ab_callV (as := [ab_I 0]) X (fun h => by cases h) (c_RD_refuse u 0 h1) lk_RD_46 d_RD_kindHere_83 rfl rfl (by first | assumption | decide) ⟨by first | exact Nat.le_of_ble_eq_true rfl | (simp only [ab_rm]; omega), by first | exact Nat.le_of_ble_eq_true rfl | (simp only [ab_rm]; omega)⟩ ⟨by first | exact Nat.le_of_ble_eq_true rfl | (simp only [ab_rm]; omega), by first | exact Nat.le_of_ble_eq_true rfl | (simp only [ab_rm]; omega)⟩ (Nat.le_of_ble_eq_true rfl) (fun u83 r83 h83 => ?_)
      obtain ⟨e83, rfl⟩ := h83
      subst u83
      refine ab_pop X d_RD_kindHere_86 rfl ?_
      refine ab_iconst (v := 0) X d_RD_kindHere_87 (by decide) ?_
      exact ab_reti X hr0 hlk d_RD_kindHere_88 ⟨rfl, rfl⟩
    | succ n ih =>
      intro j hj
      have hj7 : j < 7 := by omega
      refine ab_iload X 0 d_RD_kindHere_12 rfl ?_
      refine ab_iload_n X 1 d_RD_kindHere_14 rfl rfl ?_
      refine ab_icmp_ge X 76 d_RD_kindHere_15 rfl (fun hb => absurd hb ((nI_ge (b := 7) hj7 (by decide)))) (fun _ => ?_)
      refine ab_aload_n X 2 d_RD_kindHere_18 rfl rfl ?_
      refine ab_iload X 0 d_RD_kindHere_19 rfl ?_
      refine ab_kld X (hZ rfl) rfl j d_RD_kindHere_21 rfl hj7 ?_
      refine ab_istore5 X 0 1 2 3 4 d_RD_kindHere_22 (by decide) rfl rfl rfl rfl rfl rfl rfl rfl rfl rfl ?_
      refine ab_iload X 0 d_RD_kindHere_24 rfl ?_
      refine ab_callS (as := [ab_I (ab_kinds j)]) X (fun _ => hZ rfl) (c_RD_nameOf u j hj7) ls_RD_75 d_RD_kindHere_26 rfl rfl ⟨by first | exact Nat.le_of_ble_eq_true rfl | (simp only [ab_rm]; omega), by first | exact Nat.le_of_ble_eq_true rfl | (simp only [ab_rm]; omega)⟩ ⟨by first | exact Nat.le_of_ble_eq_true rfl | (simp only [ab_rm]; omega), by first | exact Nat.le_of_ble_eq_true rfl | (simp only [ab_rm]; omega)⟩ (Nat.le_of_ble_eq_true rfl) (fun u26 r26 h26 => ?_)
      obtain ⟨e26, rfl⟩ := h26
      subst u26
      refine ab_astore6 X 0 1 2 3 4 5 d_RD_kindHere_29 (by decide) rfl rfl rfl rfl rfl rfl rfl rfl rfl rfl rfl rfl ?_
      refine ab_aload_n X 6 d_RD_kindHere_31 rfl rfl ?_
      refine ab_aload X 0 d_RD_kindHere_32 rfl ?_
      refine ab_callV (as := [ab_O 22 j]) X (fun _ => hZ rfl) (c_RD_countSame0 u j hj7 h1 el ea) lk_RD_79 d_RD_kindHere_34 rfl rfl (by first | assumption | decide) ⟨by first | exact Nat.le_of_ble_eq_true rfl | (simp only [ab_rm]; omega), by first | exact Nat.le_of_ble_eq_true rfl | (simp only [ab_rm]; omega)⟩ ⟨by first | exact Nat.le_of_ble_eq_true rfl | (simp only [ab_rm]; omega), by first | exact Nat.le_of_ble_eq_true rfl | (simp only [ab_rm]; omega)⟩ (Nat.le_of_ble_eq_true rfl) (fun u34 r34 h34 => ?_)
      obtain ⟨e34, rfl⟩ := h34
      subst u34
      refine ab_istore7 X 0 1 2 3 4 5 6 d_RD_kindHere_37 (by decide) rfl rfl rfl rfl rfl rfl rfl rfl rfl rfl rfl rfl rfl rfl ?_
      refine ab_iload X 0 d_RD_kindHere_39 rfl ?_
      refine ab_aload X 1 d_RD_kindHere_41 rfl ?_
      refine ab_callVQ (as := []) X (fun _ => hZ rfl) (c_JS_length u j hj7) lq_RD_83 d_RD_kindHere_43 rfl rfl (ab_srcv (hZ rfl) hj7) ⟨by first | exact Nat.le_of_ble_eq_true rfl | (simp only [ab_rm]; omega), by first | exact Nat.le_of_ble_eq_true rfl | (simp only [ab_rm]; omega)⟩ ⟨by first | exact Nat.le_of_ble_eq_true rfl | (simp only [ab_rm]; omega), by first | exact Nat.le_of_ble_eq_true rfl | (simp only [ab_rm]; omega)⟩ (Nat.le_of_ble_eq_true rfl) (fun u43 r43 h43 => ?_)
      obtain ⟨e43, rfl⟩ := h43
      subst u43
      refine ab_icmp_ne X 63 d_RD_kindHere_46 rfl (fun _ => ?_) (fun hb => absurd hb ((fun h => nI_ne0 (ab_sl_pos hj7) (ab_sl_lt hj7) h.symm)))
      refine ab_iload_n X 6 d_RD_kindHere_63 rfl rfl ?_
      refine ab_iload X 0 d_RD_kindHere_64 rfl ?_
      refine ab_mmax X mm_RD_87 ⟨Nat.le_of_ble_eq_true rfl, Nat.le_of_ble_eq_true rfl⟩ ⟨Nat.le_of_ble_eq_true rfl, Nat.le_of_ble_eq_true rfl⟩ (Nat.le_of_ble_eq_true rfl) d_RD_kindHere_66 ?_
      refine ab_top (show (if (0 : Int32) < 0 then (0 : Int32) else 0) = 0 by decide) ?_
      refine ab_istore_n7 X 0 1 2 3 4 5 7 d_RD_kindHere_69 rfl (by decide) rfl rfl rfl rfl rfl rfl rfl rfl rfl rfl rfl rfl rfl rfl ?_
      refine ab_iinc7 X 4 0 1 2 3 5 6 7 d_RD_kindHere_70 rfl (by decide) rfl rfl rfl rfl rfl rfl rfl rfl rfl rfl rfl rfl rfl rfl ?_
      refine ab_goto X 12 d_RD_kindHere_73 rfl ?_
      refine ab_lv (List.forall_mem_cons.mpr ⟨List.mem_of_getElem? (i := 0) rfl, List.forall_mem_cons.mpr ⟨List.mem_of_getElem? (i := 5) rfl, List.forall_mem_cons.mpr ⟨List.mem_of_getElem? (i := 6) rfl, List.forall_mem_cons.mpr ⟨List.mem_of_getElem? (i := 1) rfl, List.forall_mem_cons.mpr ⟨List.mem_of_getElem? (i := 7) rfl, fun _ h => absurd h List.not_mem_nil⟩⟩⟩⟩⟩) ?_
      rw [show nI j + Int32.ofInt 1 = nI (j + 1) from nI_1 j]
      exact ih (j + 1) (by omega)
  refine ab_iconst (v := 0) X d_RD_kindHere_0 (by decide) ?_
  refine ab_istore_n1 X 0 d_RD_kindHere_1 rfl (by decide) rfl rfl ?_
  refine ab_kget (host := "PolicyForge") X (hZ rfl) rfl (List.mem_filter.mpr ⟨List.mem_of_getElem? (i := 428) (by decide +kernel), by decide +kernel⟩) d_RD_kindHere_2 ?_
  refine ab_astore_n2 X 0 1 d_RD_kindHere_5 rfl (by decide) rfl rfl rfl rfl ?_
  refine ab_aload_n X 0 d_RD_kindHere_6 rfl rfl ?_
  refine ab_klen X (hZ rfl) rfl d_RD_kindHere_7 ?_
  refine ab_istore_n3 X 0 1 2 d_RD_kindHere_8 rfl (by decide) rfl rfl rfl rfl rfl rfl ?_
  refine ab_iconst (v := 0) X d_RD_kindHere_9 (by decide) ?_
  refine ab_istore4 X 0 1 2 3 d_RD_kindHere_10 (by decide) rfl rfl rfl rfl rfl rfl rfl rfl ?_
  exact loop 7 0 rfl
abbrev b_RD_readPart : ByteArray := prog_6_method_4_code
def y_RD_readPart : MethodName := ⟨"PolicyForge$Reader", "readPart", "(I)LPolicyForge$Part;"⟩
theorem d_RD_readPart_0 : decode b_RD_readPart 0 = .ok (.aload_n 0, 1) := by decide +kernel
theorem d_RD_readPart_1 : decode b_RD_readPart 1 = .ok (.getfield 30, 3) := by decide +kernel
theorem d_RD_readPart_4 : decode b_RD_readPart 4 = .ok (.istore_n 2, 1) := by decide +kernel
theorem d_RD_readPart_5 : decode b_RD_readPart 5 = .ok (.iload_n 1, 1) := by decide +kernel
theorem d_RD_readPart_6 : decode b_RD_readPart 6 = .ok (.bipush 40, 2) := by decide +kernel
theorem d_RD_readPart_8 : decode b_RD_readPart 8 = .ok (.if_icmp .le 14, 3) := by decide +kernel
theorem d_RD_readPart_11 : decode b_RD_readPart 11 = .ok (.aload_n 0, 1) := by decide +kernel
theorem d_RD_readPart_12 : decode b_RD_readPart 12 = .ok (.aload_n 0, 1) := by decide +kernel
theorem d_RD_readPart_13 : decode b_RD_readPart 13 = .ok (.getfield 30, 3) := by decide +kernel
theorem d_RD_readPart_16 : decode b_RD_readPart 16 = .ok (.invokevirtual 46, 3) := by decide +kernel
theorem d_RD_readPart_19 : decode b_RD_readPart 19 = .ok (.pop, 1) := by decide +kernel
theorem d_RD_readPart_20 : decode b_RD_readPart 20 = .ok (.aconst_null, 1) := by decide +kernel
theorem d_RD_readPart_21 : decode b_RD_readPart 21 = .ok (.areturn, 1) := by decide +kernel
theorem d_RD_readPart_22 : decode b_RD_readPart 22 = .ok (.aload_n 0, 1) := by decide +kernel
theorem d_RD_readPart_23 : decode b_RD_readPart 23 = .ok (.invokevirtual 50, 3) := by decide +kernel
theorem d_RD_readPart_26 : decode b_RD_readPart 26 = .ok (.istore_n 3, 1) := by decide +kernel
theorem d_RD_readPart_27 : decode b_RD_readPart 27 = .ok (.iload_n 3, 1) := by decide +kernel
theorem d_RD_readPart_28 : decode b_RD_readPart 28 = .ok (.ifCond .ne 5, 3) := by decide +kernel
theorem d_RD_readPart_31 : decode b_RD_readPart 31 = .ok (.aconst_null, 1) := by decide +kernel
theorem d_RD_readPart_32 : decode b_RD_readPart 32 = .ok (.areturn, 1) := by decide +kernel
theorem d_RD_readPart_33 : decode b_RD_readPart 33 = .ok (.aload_n 0, 1) := by decide +kernel
theorem d_RD_readPart_34 : decode b_RD_readPart 34 = .ok (.iload_n 3, 1) := by decide +kernel
theorem d_RD_readPart_35 : decode b_RD_readPart 35 = .ok (.invokevirtual 54, 3) := by decide +kernel
theorem d_RD_readPart_38 : decode b_RD_readPart 38 = .ok (.astore 4, 2) := by decide +kernel
theorem d_RD_readPart_40 : decode b_RD_readPart 40 = .ok (.iload_n 3, 1) := by decide +kernel
theorem d_RD_readPart_41 : decode b_RD_readPart 41 = .ok (.invokestatic 57, 3) := by decide +kernel
theorem d_RD_readPart_44 : decode b_RD_readPart 44 = .ok (.ifCond .eq 13, 3) := by decide +kernel
theorem d_RD_readPart_47 : decode b_RD_readPart 47 = .ok (.aload_n 0, 1) := by decide +kernel
theorem d_RD_readPart_48 : decode b_RD_readPart 48 = .ok (.aload 4, 2) := by decide +kernel
theorem d_RD_readPart_50 : decode b_RD_readPart 50 = .ok (.iload_n 2, 1) := by decide +kernel
theorem d_RD_readPart_51 : decode b_RD_readPart 51 = .ok (.invokevirtual 60, 3) := by decide +kernel
theorem d_RD_readPart_54 : decode b_RD_readPart 54 = .ok (.goto 11, 3) := by decide +kernel
theorem d_RD_readPart_57 : decode b_RD_readPart 57 = .ok (.aload_n 0, 1) := by decide +kernel
theorem d_RD_readPart_58 : decode b_RD_readPart 58 = .ok (.aload 4, 2) := by decide +kernel
theorem d_RD_readPart_60 : decode b_RD_readPart 60 = .ok (.iload_n 3, 1) := by decide +kernel
theorem d_RD_readPart_61 : decode b_RD_readPart 61 = .ok (.iload_n 1, 1) := by decide +kernel
theorem d_RD_readPart_62 : decode b_RD_readPart 62 = .ok (.invokevirtual 64, 3) := by decide +kernel
theorem d_RD_readPart_65 : decode b_RD_readPart 65 = .ok (.istore 5, 2) := by decide +kernel
theorem d_RD_readPart_67 : decode b_RD_readPart 67 = .ok (.iload 5, 2) := by decide +kernel
theorem d_RD_readPart_69 : decode b_RD_readPart 69 = .ok (.ifCond .eq 8, 3) := by decide +kernel
theorem d_RD_readPart_72 : decode b_RD_readPart 72 = .ok (.aload 4, 2) := by decide +kernel
theorem d_RD_readPart_74 : decode b_RD_readPart 74 = .ok (.goto 4, 3) := by decide +kernel
theorem d_RD_readPart_77 : decode b_RD_readPart 77 = .ok (.aconst_null, 1) := by decide +kernel
theorem d_RD_readPart_78 : decode b_RD_readPart 78 = .ok (.areturn, 1) := by decide +kernel
theorem lk_RD_50 : ab_lk "PolicyForge$Reader" 50 y_RD_kindHere b_RD_kindHere 8 (some FieldType.int) 0 1 := ⟨⟨rfl, T_RD, 8, rfl⟩, List.forall_mem_cons.mpr ⟨(ab_in 424 (by decide +kernel) (by decide +kernel)), List.forall_mem_cons.mpr ⟨(ab_in 426 (by decide +kernel) (by decide +kernel)), List.forall_mem_cons.mpr ⟨(ab_in 2 (by decide +kernel) (by decide +kernel)), List.forall_mem_cons.mpr ⟨(ab_in 93 (by decide +kernel) (by decide +kernel)), List.forall_mem_cons.mpr ⟨(ab_in 427 (by decide +kernel) (by decide +kernel)), fun _ h => absurd h List.not_mem_nil⟩⟩⟩⟩⟩, ⟨by decide +kernel, by decide +kernel, by decide +kernel⟩, by decide⟩
abbrev b_RD_newPart : ByteArray := prog_6_method_5_code
def y_RD_newPart : MethodName := ⟨"PolicyForge$Reader", "newPart", "(I)LPolicyForge$Part;"⟩
theorem lk_RD_54 : ab_lk "PolicyForge$Reader" 54 y_RD_newPart b_RD_newPart 3 (some (FieldType.object "PolicyForge$Part")) 1 1 := ⟨⟨rfl, T_RD, 8, rfl⟩, List.forall_mem_cons.mpr ⟨(ab_in 495 (by decide +kernel) (by decide +kernel)), List.forall_mem_cons.mpr ⟨(ab_in 497 (by decide +kernel) (by decide +kernel)), List.forall_mem_cons.mpr ⟨(ab_in 4 (by decide +kernel) (by decide +kernel)), List.forall_mem_cons.mpr ⟨(ab_in 93 (by decide +kernel) (by decide +kernel)), List.forall_mem_cons.mpr ⟨(ab_in 498 (by decide +kernel) (by decide +kernel)), fun _ h => absurd h List.not_mem_nil⟩⟩⟩⟩⟩, ⟨by decide +kernel, by decide +kernel, by decide +kernel⟩, by decide⟩
abbrev b_PF_isLeaf : ByteArray := prog_1_method_15_code
def y_PF_isLeaf : MethodName := ⟨"PolicyForge", "isLeaf", "(I)Z"⟩
theorem ls_RD_57 : ab_lSN "PolicyForge$Reader" 57 y_PF_isLeaf "PolicyForge" b_PF_isLeaf 1 (some FieldType.boolean) 1 := ⟨(List.mem_filter.mpr ⟨List.mem_of_getElem? (i := 503) (by decide +kernel), by decide +kernel⟩), List.forall_mem_cons.mpr ⟨(ab_in 504 (by decide +kernel) (by decide +kernel)), List.forall_mem_cons.mpr ⟨(ab_in 92 (by decide +kernel) (by decide +kernel)), List.forall_mem_cons.mpr ⟨(ab_in 505 (by decide +kernel) (by decide +kernel)), fun _ h => absurd h List.not_mem_nil⟩⟩⟩, ⟨by decide +kernel, by decide +kernel, by decide +kernel⟩, by decide⟩
abbrev b_RD_readLeaf : ByteArray := prog_6_method_9_code
def y_RD_readLeaf : MethodName := ⟨"PolicyForge$Reader", "readLeaf", "(LPolicyForge$Part;I)Z"⟩
theorem lk_RD_60 : ab_lk "PolicyForge$Reader" 60 y_RD_readLeaf b_RD_readLeaf 3 (some FieldType.boolean) 2 1 := ⟨⟨rfl, T_RD, 8, rfl⟩, List.forall_mem_cons.mpr ⟨(ab_in 506 (by decide +kernel) (by decide +kernel)), List.forall_mem_cons.mpr ⟨(ab_in 508 (by decide +kernel) (by decide +kernel)), List.forall_mem_cons.mpr ⟨(ab_in 5 (by decide +kernel) (by decide +kernel)), List.forall_mem_cons.mpr ⟨(ab_in 93 (by decide +kernel) (by decide +kernel)), List.forall_mem_cons.mpr ⟨(ab_in 509 (by decide +kernel) (by decide +kernel)), fun _ h => absurd h List.not_mem_nil⟩⟩⟩⟩⟩, ⟨by decide +kernel, by decide +kernel, by decide +kernel⟩, by decide⟩
abbrev b_RD_readBranches : ByteArray := prog_6_method_10_code
def y_RD_readBranches : MethodName := ⟨"PolicyForge$Reader", "readBranches", "(LPolicyForge$Part;II)Z"⟩
theorem lk_RD_64 : ab_lk "PolicyForge$Reader" 64 y_RD_readBranches b_RD_readBranches 8 (some FieldType.boolean) 3 1 := ⟨⟨rfl, T_RD, 8, rfl⟩, List.forall_mem_cons.mpr ⟨(ab_in 526 (by decide +kernel) (by decide +kernel)), List.forall_mem_cons.mpr ⟨(ab_in 528 (by decide +kernel) (by decide +kernel)), List.forall_mem_cons.mpr ⟨(ab_in 10 (by decide +kernel) (by decide +kernel)), List.forall_mem_cons.mpr ⟨(ab_in 93 (by decide +kernel) (by decide +kernel)), List.forall_mem_cons.mpr ⟨(ab_in 529 (by decide +kernel) (by decide +kernel)), fun _ h => absurd h List.not_mem_nil⟩⟩⟩⟩⟩, ⟨by decide +kernel, by decide +kernel, by decide +kernel⟩, by decide⟩
theorem c_RD_readPart0 (u : ab_S) (h1 : 0 < N 1) (el : u.1 1 0 3 = 0) (ea : u.1 1 0 4 = 0) : ab_C true l D ca y_RD_readPart b_RD_readPart 6 (some (.object "PolicyForge$Part")) 4 N u [ab_O 1 0, ab_I 0] (fun u' v => u' = ab_ui u 1 0 5 0 ∧ v = some (ab_R none)) := by
  refine ab_C.of (by decide) (Nat.le_of_ble_eq_true rfl) ?_
  intro p e s m args below meth c ad X hZ hr0 hlk
  refine ab_aload_n X 0 d_RD_readPart_0 rfl rfl ?_
  refine ab_gI X fl_RD_30 d_RD_readPart_1 (by first | assumption | decide) (ea) ?_
  refine ab_istore_n2 X 0 1 d_RD_readPart_4 rfl (by decide) rfl rfl rfl rfl ?_
  refine ab_iload_n X 2 d_RD_readPart_5 rfl rfl ?_
  refine ab_bipush (v := 40) X d_RD_readPart_6 (by decide) ?_
  refine ab_icmp_le X 22 d_RD_readPart_8 rfl (fun _ => ?_) (fun hb => absurd ((by decide)) hb)
  refine ab_aload_n X 1 d_RD_readPart_22 rfl rfl ?_
  refine ab_callV (as := []) X (fun _ => hZ rfl) (c_RD_kindHere0 u h1 el ea) lk_RD_50 d_RD_readPart_23 rfl rfl (by first | assumption | decide) ⟨by first | exact Nat.le_of_ble_eq_true rfl | (simp only [ab_rm]; omega), by first | exact Nat.le_of_ble_eq_true rfl | (simp only [ab_rm]; omega)⟩ ⟨by first | exact Nat.le_of_ble_eq_true rfl | (simp only [ab_rm]; omega), by first | exact Nat.le_of_ble_eq_true rfl | (simp only [ab_rm]; omega)⟩ (Nat.le_of_ble_eq_true rfl) (fun u23 r23 h23 => ?_)
  obtain ⟨e23, rfl⟩ := h23
  subst u23
  refine ab_istore_n3 X 0 1 2 d_RD_readPart_26 rfl (by decide) rfl rfl rfl rfl rfl rfl ?_
  refine ab_iload_n X 0 d_RD_readPart_27 rfl rfl ?_
  refine ab_if_ne X 33 d_RD_readPart_28 rfl (fun hb => absurd (rfl) hb) (fun _ => ?_)
  refine ab_null X d_RD_readPart_31 ?_
  exact ab_retr X hr0 hlk d_RD_readPart_32 ⟨rfl, rfl⟩
abbrev b_RD_whole : ByteArray := prog_6_method_3_code
def y_RD_whole : MethodName := ⟨"PolicyForge$Reader", "whole", "()LPolicyForge$Part;"⟩
theorem d_RD_whole_0 : decode b_RD_whole 0 = .ok (.aload_n 0, 1) := by decide +kernel
theorem d_RD_whole_1 : decode b_RD_whole 1 = .ok (.iconst 0, 1) := by decide +kernel
theorem d_RD_whole_2 : decode b_RD_whole 2 = .ok (.putfield 30, 3) := by decide +kernel
theorem d_RD_whole_5 : decode b_RD_whole 5 = .ok (.aload_n 0, 1) := by decide +kernel
theorem d_RD_whole_6 : decode b_RD_whole 6 = .ok (.iconst (-1), 1) := by decide +kernel
theorem d_RD_whole_7 : decode b_RD_whole 7 = .ok (.putfield 33, 3) := by decide +kernel
theorem d_RD_whole_10 : decode b_RD_whole 10 = .ok (.aload_n 0, 1) := by decide +kernel
theorem d_RD_whole_11 : decode b_RD_whole 11 = .ok (.iconst 0, 1) := by decide +kernel
theorem d_RD_whole_12 : decode b_RD_whole 12 = .ok (.putfield 36, 3) := by decide +kernel
theorem d_RD_whole_15 : decode b_RD_whole 15 = .ok (.aload_n 0, 1) := by decide +kernel
theorem d_RD_whole_16 : decode b_RD_whole 16 = .ok (.iconst 0, 1) := by decide +kernel
theorem d_RD_whole_17 : decode b_RD_whole 17 = .ok (.putfield 39, 3) := by decide +kernel
theorem d_RD_whole_20 : decode b_RD_whole 20 = .ok (.aload_n 0, 1) := by decide +kernel
theorem d_RD_whole_21 : decode b_RD_whole 21 = .ok (.iconst 0, 1) := by decide +kernel
theorem d_RD_whole_22 : decode b_RD_whole 22 = .ok (.invokevirtual 42, 3) := by decide +kernel
theorem d_RD_whole_25 : decode b_RD_whole 25 = .ok (.astore_n 1, 1) := by decide +kernel
theorem d_RD_whole_26 : decode b_RD_whole 26 = .ok (.aload_n 1, 1) := by decide +kernel
theorem d_RD_whole_27 : decode b_RD_whole 27 = .ok (.ifnull 24, 3) := by decide +kernel
theorem d_RD_whole_30 : decode b_RD_whole 30 = .ok (.aload_n 0, 1) := by decide +kernel
theorem d_RD_whole_31 : decode b_RD_whole 31 = .ok (.getfield 30, 3) := by decide +kernel
theorem d_RD_whole_34 : decode b_RD_whole 34 = .ok (.aload_n 0, 1) := by decide +kernel
theorem d_RD_whole_35 : decode b_RD_whole 35 = .ok (.getfield 26, 3) := by decide +kernel
theorem d_RD_whole_38 : decode b_RD_whole 38 = .ok (.if_icmp .ge 13, 3) := by decide +kernel
theorem d_RD_whole_41 : decode b_RD_whole 41 = .ok (.aload_n 0, 1) := by decide +kernel
theorem d_RD_whole_42 : decode b_RD_whole 42 = .ok (.aload_n 0, 1) := by decide +kernel
theorem d_RD_whole_43 : decode b_RD_whole 43 = .ok (.getfield 30, 3) := by decide +kernel
theorem d_RD_whole_46 : decode b_RD_whole 46 = .ok (.putfield 33, 3) := by decide +kernel
theorem d_RD_whole_49 : decode b_RD_whole 49 = .ok (.aconst_null, 1) := by decide +kernel
theorem d_RD_whole_50 : decode b_RD_whole 50 = .ok (.astore_n 1, 1) := by decide +kernel
theorem d_RD_whole_51 : decode b_RD_whole 51 = .ok (.aload_n 0, 1) := by decide +kernel
theorem d_RD_whole_52 : decode b_RD_whole 52 = .ok (.iconst 0, 1) := by decide +kernel
theorem d_RD_whole_53 : decode b_RD_whole 53 = .ok (.putfield 26, 3) := by decide +kernel
theorem d_RD_whole_56 : decode b_RD_whole 56 = .ok (.aload_n 1, 1) := by decide +kernel
theorem d_RD_whole_57 : decode b_RD_whole 57 = .ok (.areturn, 1) := by decide +kernel
theorem lk_RD_42 : ab_lk "PolicyForge$Reader" 42 y_RD_readPart b_RD_readPart 6 (some (FieldType.object "PolicyForge$Part")) 1 1 := ⟨⟨rfl, T_RD, 8, rfl⟩, List.forall_mem_cons.mpr ⟨(ab_in 416 (by decide +kernel) (by decide +kernel)), List.forall_mem_cons.mpr ⟨(ab_in 418 (by decide +kernel) (by decide +kernel)), List.forall_mem_cons.mpr ⟨(ab_in 0 (by decide +kernel) (by decide +kernel)), List.forall_mem_cons.mpr ⟨(ab_in 93 (by decide +kernel) (by decide +kernel)), List.forall_mem_cons.mpr ⟨(ab_in 419 (by decide +kernel) (by decide +kernel)), fun _ h => absurd h List.not_mem_nil⟩⟩⟩⟩⟩, ⟨by decide +kernel, by decide +kernel, by decide +kernel⟩, by decide⟩
theorem c_RD_whole0 (u : ab_S) (h1 : 0 < N 1) (el : u.1 1 0 3 = 0) : ab_C true l D ca y_RD_whole b_RD_whole 2 (some (.object "PolicyForge$Part")) 5 N u [ab_O 1 0] (fun u' v => u' = ab_ui (ab_ui (ab_ui (ab_ui (ab_ui (ab_ui u 1 0 4 0) 1 0 5 (-1)) 1 0 6 0) 1 0 7 0) 1 0 5 0) 1 0 3 0 ∧ v = some (ab_R none)) := by
  refine ab_C.of (by decide) (Nat.le_of_ble_eq_true rfl) ?_
  intro p e s m args below meth c ad X hZ hr0 hlk
  refine ab_aload_n X 0 d_RD_whole_0 rfl rfl ?_
  refine ab_iconst (v := 0) X d_RD_whole_1 (by decide) ?_
  refine ab_putI X fp_RD_30 d_RD_whole_2 (by first | assumption | decide) rfl rfl ?_
  refine ab_aload_n X 0 d_RD_whole_5 rfl rfl ?_
  refine ab_iconst (v := (-1)) X d_RD_whole_6 (by decide) ?_
  refine ab_putI X fp_RD_33 d_RD_whole_7 (by first | assumption | decide) rfl rfl ?_
  refine ab_aload_n X 0 d_RD_whole_10 rfl rfl ?_
  refine ab_iconst (v := 0) X d_RD_whole_11 (by decide) ?_
  refine ab_putI X fp_RD_36 d_RD_whole_12 (by first | assumption | decide) rfl rfl ?_
  refine ab_aload_n X 0 d_RD_whole_15 rfl rfl ?_
  refine ab_iconst (v := 0) X d_RD_whole_16 (by decide) ?_
  refine ab_putI X fp_RD_39 d_RD_whole_17 (by first | assumption | decide) rfl rfl ?_
  refine ab_aload_n X 0 d_RD_whole_20 rfl rfl ?_
  refine ab_iconst (v := 0) X d_RD_whole_21 (by decide) ?_
  refine ab_callV (as := [ab_I 0]) X (fun _ => hZ rfl) (c_RD_readPart0 (ab_ui (ab_ui (ab_ui (ab_ui u 1 0 4 0) 1 0 5 (-1)) 1 0 6 0) 1 0 7 0) h1 (by simpa [ab_up] using el) (by simp [ab_up])) lk_RD_42 d_RD_whole_22 rfl rfl (by first | assumption | decide) ⟨by first | exact Nat.le_of_ble_eq_true rfl | (simp only [ab_rm]; omega), by first | exact Nat.le_of_ble_eq_true rfl | (simp only [ab_rm]; omega)⟩ ⟨by first | exact Nat.le_of_ble_eq_true rfl | (simp only [ab_rm]; omega), by first | exact Nat.le_of_ble_eq_true rfl | (simp only [ab_rm]; omega)⟩ (Nat.le_of_ble_eq_true rfl) (fun u22 r22 h22 => ?_)
  obtain ⟨e22, rfl⟩ := h22
  subst u22
  refine ab_astore_n1 X 0 d_RD_whole_25 rfl (by decide) rfl rfl ?_
  refine ab_aload_n X 0 d_RD_whole_26 rfl rfl ?_
  refine ab_ifnull X 51 d_RD_whole_27 rfl (fun _ => ?_) (fun hb => absurd (rfl) hb)
  refine ab_aload_n X 1 d_RD_whole_51 rfl rfl ?_
  refine ab_iconst (v := 0) X d_RD_whole_52 (by decide) ?_
  refine ab_putI X fp_RD_26 d_RD_whole_53 (by first | assumption | decide) rfl rfl ?_
  refine ab_aload_n X 0 d_RD_whole_56 rfl rfl ?_
  exact ab_retr X hr0 hlk d_RD_whole_57 ⟨rfl, rfl⟩
abbrev b_SC_start : ByteArray := prog_8_method_2_code
def y_SC_start : MethodName := ⟨"PolicyForge$Script", "start", "()V"⟩
theorem d_SC_start_0 : decode b_SC_start 0 = .ok (.aload_n 0, 1) := by decide +kernel
theorem d_SC_start_1 : decode b_SC_start 1 = .ok (.iconst 0, 1) := by decide +kernel
theorem d_SC_start_2 : decode b_SC_start 2 = .ok (.putfield 21, 3) := by decide +kernel
theorem d_SC_start_5 : decode b_SC_start 5 = .ok (.aload_n 0, 1) := by decide +kernel
theorem d_SC_start_6 : decode b_SC_start 6 = .ok (.iconst 0, 1) := by decide +kernel
theorem d_SC_start_7 : decode b_SC_start 7 = .ok (.putfield 25, 3) := by decide +kernel
theorem d_SC_start_10 : decode b_SC_start 10 = .ok (.return_, 1) := by decide +kernel
theorem c_SC_start (u : ab_S) (h5 : 0 < N 5) : ab_C false l D ca y_SC_start b_SC_start 1 none 0 N u [ab_O 5 0] (fun u' v => u' = ab_ui (ab_ui u 5 0 2 0) 5 0 3 0 ∧ v = none) := by
  refine ab_C.of (by decide) (Nat.le_of_ble_eq_true rfl) ?_
  intro p e s m args below meth c ad X hZ hr0 hlk
  refine ab_aload_n X 0 d_SC_start_0 rfl rfl ?_
  refine ab_iconst (v := 0) X d_SC_start_1 (by decide) ?_
  refine ab_putI X fp_SC_21 d_SC_start_2 (by first | assumption | decide) rfl rfl ?_
  refine ab_aload_n X 0 d_SC_start_5 rfl rfl ?_
  refine ab_iconst (v := 0) X d_SC_start_6 (by decide) ?_
  refine ab_putI X fp_SC_25 d_SC_start_7 (by first | assumption | decide) rfl rfl ?_
  exact ab_retv X hr0 hlk d_SC_start_10 ⟨rfl, rfl⟩
abbrev b_PF_read : ByteArray := prog_1_method_3_code
def y_PF_read : MethodName := ⟨"PolicyForge", "read", "()I"⟩
theorem d_PF_read_0 : decode b_PF_read 0 = .ok (.aload_n 0, 1) := by decide +kernel
theorem d_PF_read_1 : decode b_PF_read 1 = .ok (.getfield 37, 3) := by decide +kernel
theorem d_PF_read_4 : decode b_PF_read 4 = .ok (.invokevirtual 73, 3) := by decide +kernel
theorem d_PF_read_7 : decode b_PF_read 7 = .ok (.aload_n 0, 1) := by decide +kernel
theorem d_PF_read_8 : decode b_PF_read 8 = .ok (.aload_n 0, 1) := by decide +kernel
theorem d_PF_read_9 : decode b_PF_read 9 = .ok (.getfield 12, 3) := by decide +kernel
theorem d_PF_read_12 : decode b_PF_read 12 = .ok (.invokevirtual 74, 3) := by decide +kernel
theorem d_PF_read_15 : decode b_PF_read 15 = .ok (.putfield 58, 3) := by decide +kernel
theorem d_PF_read_18 : decode b_PF_read 18 = .ok (.aload_n 0, 1) := by decide +kernel
theorem d_PF_read_19 : decode b_PF_read 19 = .ok (.getfield 58, 3) := by decide +kernel
theorem d_PF_read_22 : decode b_PF_read 22 = .ok (.ifnonnull 11, 3) := by decide +kernel
theorem d_PF_read_25 : decode b_PF_read 25 = .ok (.new 78, 3) := by decide +kernel
theorem d_PF_read_28 : decode b_PF_read 28 = .ok (.dup, 1) := by decide +kernel
theorem d_PF_read_29 : decode b_PF_read 29 = .ok (.invokespecial 80, 3) := by decide +kernel
theorem d_PF_read_32 : decode b_PF_read 32 = .ok (.athrow, 1) := by decide +kernel
theorem d_PF_read_33 : decode b_PF_read 33 = .ok (.aload_n 0, 1) := by decide +kernel
theorem d_PF_read_34 : decode b_PF_read 34 = .ok (.getfield 12, 3) := by decide +kernel
theorem d_PF_read_37 : decode b_PF_read 37 = .ok (.getfield 81, 3) := by decide +kernel
theorem d_PF_read_40 : decode b_PF_read 40 = .ok (.iconst 1, 1) := by decide +kernel
theorem d_PF_read_41 : decode b_PF_read 41 = .ok (.isub, 1) := by decide +kernel
theorem d_PF_read_42 : decode b_PF_read 42 = .ok (.istore_n 1, 1) := by decide +kernel
theorem d_PF_read_43 : decode b_PF_read 43 = .ok (.iload_n 1, 1) := by decide +kernel
theorem d_PF_read_44 : decode b_PF_read 44 = .ok (.ifCond .lt 25, 3) := by decide +kernel
theorem d_PF_read_47 : decode b_PF_read 47 = .ok (.aload_n 0, 1) := by decide +kernel
theorem d_PF_read_48 : decode b_PF_read 48 = .ok (.getfield 12, 3) := by decide +kernel
theorem d_PF_read_51 : decode b_PF_read 51 = .ok (.getfield 84, 3) := by decide +kernel
theorem d_PF_read_54 : decode b_PF_read 54 = .ok (.iload_n 1, 1) := by decide +kernel
theorem d_PF_read_55 : decode b_PF_read 55 = .ok (.aaload, 1) := by decide +kernel
theorem d_PF_read_56 : decode b_PF_read 56 = .ok (.aload_n 0, 1) := by decide +kernel
theorem d_PF_read_57 : decode b_PF_read 57 = .ok (.getfield 21, 3) := by decide +kernel
theorem d_PF_read_60 : decode b_PF_read 60 = .ok (.invokevirtual 88, 3) := by decide +kernel
theorem d_PF_read_63 : decode b_PF_read 63 = .ok (.iinc 1 (-1), 3) := by decide +kernel
theorem d_PF_read_66 : decode b_PF_read 66 = .ok (.goto (-23), 3) := by decide +kernel
theorem d_PF_read_69 : decode b_PF_read 69 = .ok (.aload_n 0, 1) := by decide +kernel
theorem d_PF_read_70 : decode b_PF_read 70 = .ok (.getfield 37, 3) := by decide +kernel
theorem d_PF_read_73 : decode b_PF_read 73 = .ok (.aload_n 0, 1) := by decide +kernel
theorem d_PF_read_74 : decode b_PF_read 74 = .ok (.getfield 58, 3) := by decide +kernel
theorem d_PF_read_77 : decode b_PF_read 77 = .ok (.getfield 94, 3) := by decide +kernel
theorem d_PF_read_80 : decode b_PF_read 80 = .ok (.iconst 0, 1) := by decide +kernel
theorem d_PF_read_81 : decode b_PF_read 81 = .ok (.invokevirtual 97, 3) := by decide +kernel
theorem d_PF_read_84 : decode b_PF_read 84 = .ok (.aload_n 0, 1) := by decide +kernel
theorem d_PF_read_85 : decode b_PF_read 85 = .ok (.getfield 37, 3) := by decide +kernel
theorem d_PF_read_88 : decode b_PF_read 88 = .ok (.getfield 101, 3) := by decide +kernel
theorem d_PF_read_91 : decode b_PF_read 91 = .ok (.ireturn, 1) := by decide +kernel
theorem lk_PF_73 : ab_lk "PolicyForge" 73 y_SC_start b_SC_start 1 none 0 5 := ⟨⟨rfl, T_SC, 4, rfl⟩, List.forall_mem_cons.mpr ⟨(ab_in 408 (by decide +kernel) (by decide +kernel)), List.forall_mem_cons.mpr ⟨(ab_in 409 (by decide +kernel) (by decide +kernel)), List.forall_mem_cons.mpr ⟨(ab_in 410 (by decide +kernel) (by decide +kernel)), List.forall_mem_cons.mpr ⟨(ab_in 97 (by decide +kernel) (by decide +kernel)), List.forall_mem_cons.mpr ⟨(ab_in 411 (by decide +kernel) (by decide +kernel)), fun _ h => absurd h List.not_mem_nil⟩⟩⟩⟩⟩, ⟨by decide +kernel, by decide +kernel, by decide +kernel⟩, by decide⟩
theorem lk_PF_74 : ab_lk "PolicyForge" 74 y_RD_whole b_RD_whole 2 (some (FieldType.object "PolicyForge$Part")) 0 1 := ⟨⟨rfl, T_RD, 8, rfl⟩, List.forall_mem_cons.mpr ⟨(ab_in 412 (by decide +kernel) (by decide +kernel)), List.forall_mem_cons.mpr ⟨(ab_in 413 (by decide +kernel) (by decide +kernel)), List.forall_mem_cons.mpr ⟨(ab_in 414 (by decide +kernel) (by decide +kernel)), List.forall_mem_cons.mpr ⟨(ab_in 93 (by decide +kernel) (by decide +kernel)), List.forall_mem_cons.mpr ⟨(ab_in 415 (by decide +kernel) (by decide +kernel)), fun _ h => absurd h List.not_mem_nil⟩⟩⟩⟩⟩, ⟨by decide +kernel, by decide +kernel, by decide +kernel⟩, by decide⟩
theorem fl_PF_21 : ab_fl "PolicyForge" 21 0 1 1 := ⟨rfl, R_PF, T_PF, 8, rfl, uw_PF, by decide, rfl, (ab_in 356 (by decide +kernel) (by decide +kernel))⟩
abbrev b_PT_chooseForms : ByteArray := prog_5_method_5_code
def y_PT_chooseForms : MethodName := ⟨"PolicyForge$Part", "chooseForms", "(LPolicyForge$Form;)V"⟩
theorem lk_PF_88 : ab_lk "PolicyForge" 88 y_PT_chooseForms b_PT_chooseForms 2 none 1 2 := ⟨⟨rfl, T_PT, 8, rfl⟩, List.forall_mem_cons.mpr ⟨(ab_in 599 (by decide +kernel) (by decide +kernel)), List.forall_mem_cons.mpr ⟨(ab_in 600 (by decide +kernel) (by decide +kernel)), List.forall_mem_cons.mpr ⟨(ab_in 601 (by decide +kernel) (by decide +kernel)), List.forall_mem_cons.mpr ⟨(ab_in 94 (by decide +kernel) (by decide +kernel)), List.forall_mem_cons.mpr ⟨(ab_in 602 (by decide +kernel) (by decide +kernel)), fun _ h => absurd h List.not_mem_nil⟩⟩⟩⟩⟩, ⟨by decide +kernel, by decide +kernel, by decide +kernel⟩, by decide⟩
abbrev b_SC_write : ByteArray := prog_8_method_3_code
def y_SC_write : MethodName := ⟨"PolicyForge$Script", "write", "(LPolicyForge$Form;I)V"⟩
theorem lk_PF_97 : ab_lk "PolicyForge" 97 y_SC_write b_SC_write 3 none 2 5 := ⟨⟨rfl, T_SC, 4, rfl⟩, List.forall_mem_cons.mpr ⟨(ab_in 681 (by decide +kernel) (by decide +kernel)), List.forall_mem_cons.mpr ⟨(ab_in 682 (by decide +kernel) (by decide +kernel)), List.forall_mem_cons.mpr ⟨(ab_in 683 (by decide +kernel) (by decide +kernel)), List.forall_mem_cons.mpr ⟨(ab_in 97 (by decide +kernel) (by decide +kernel)), List.forall_mem_cons.mpr ⟨(ab_in 684 (by decide +kernel) (by decide +kernel)), fun _ h => absurd h List.not_mem_nil⟩⟩⟩⟩⟩, ⟨by decide +kernel, by decide +kernel, by decide +kernel⟩, by decide⟩
set_option maxRecDepth 100000 in
set_option maxHeartbeats 1000000 in
theorem c_PF_read0 (hfl : ab_fl0 l) (u : ab_S) (h0 : 0 < N 0) (h1 : 0 < N 1) (h5 : 0 < N 5) (er : u.2.1 0 0 0 = some (1, 0)) (es : u.2.1 0 0 3 = some (5, 0)) (el : u.1 1 0 3 = 0) : ab_CT l D ca y_PF_read b_PF_read 2 (some .int) 8 N u [ab_O 0 0] (fun _ _ => False) (fun u' E => u' = ab_ur (ab_ui (ab_ui (ab_ui (ab_ui (ab_ui (ab_ui (ab_ui (ab_ui u 5 0 2 0) 5 0 3 0) 1 0 4 0) 1 0 5 (-1)) 1 0 6 0) 1 0 7 0) 1 0 5 0) 1 0 3 0) 0 0 7 none ∧ E = ab_IAE) := by
  refine ab_CT.of (by decide) (Nat.le_of_ble_eq_true rfl) ?_
  intro p e s m args below meth c ad X hZ hW0 hnh hr0 hlk
  refine ab_aload_n X 0 d_PF_read_0 rfl rfl ?_
  refine ab_gR X fl_PF_37 d_PF_read_1 (by first | assumption | decide) (es) ?_
  refine ab_callV (as := []) X (fun h => by cases h) (c_SC_start u h5) lk_PF_73 d_PF_read_4 rfl rfl (by first | assumption | decide) ⟨by first | exact Nat.le_of_ble_eq_true rfl | (simp only [ab_rm]; omega), by first | exact Nat.le_of_ble_eq_true rfl | (simp only [ab_rm]; omega)⟩ ⟨by first | exact Nat.le_of_ble_eq_true rfl | (simp only [ab_rm]; omega), by first | exact Nat.le_of_ble_eq_true rfl | (simp only [ab_rm]; omega)⟩ (Nat.le_of_ble_eq_true rfl) (fun u4 r4 h4 => ?_)
  obtain ⟨e4, rfl⟩ := h4
  subst u4
  refine ab_aload_n X 0 d_PF_read_7 rfl rfl ?_
  refine ab_aload_n X 0 d_PF_read_8 rfl rfl ?_
  refine ab_gR X fl_PF_12 d_PF_read_9 (by first | assumption | decide) (er) ?_
  refine ab_callV (as := []) X (fun _ => hZ) (c_RD_whole0 (ab_ui (ab_ui u 5 0 2 0) 5 0 3 0) h1 (by simpa [ab_up] using el)) lk_PF_74 d_PF_read_12 rfl rfl (by first | assumption | decide) ⟨by first | exact Nat.le_of_ble_eq_true rfl | (simp only [ab_rm]; omega), by first | exact Nat.le_of_ble_eq_true rfl | (simp only [ab_rm]; omega)⟩ ⟨by first | exact Nat.le_of_ble_eq_true rfl | (simp only [ab_rm]; omega), by first | exact Nat.le_of_ble_eq_true rfl | (simp only [ab_rm]; omega)⟩ (Nat.le_of_ble_eq_true rfl) (fun u12 r12 h12 => ?_)
  obtain ⟨e12, rfl⟩ := h12
  subst u12
  refine ab_putR X fp_PF_58 d_PF_read_15 (by first | assumption | decide) ?_
  refine ab_aload_n X 0 d_PF_read_18 rfl rfl ?_
  refine ab_gR X fl_PF_58 d_PF_read_19 (by first | assumption | decide) ((show _ = none by simp [ab_up])) ?_
  refine ab_ifnonnull X 33 d_PF_read_22 rfl (fun hb => absurd (rfl) hb) (fun _ => ?_)
  exact ab_throw (cells := 0) (slots := 0) X hfl hZ hW0 hnh hlk ow_PF_78 d_PF_read_25 d_PF_read_28 d_PF_read_29 d_PF_read_32 ⟨Nat.le_of_ble_eq_true rfl, Nat.le_of_ble_eq_true rfl⟩ ⟨Nat.le_of_ble_eq_true rfl, Nat.le_of_ble_eq_true rfl⟩ ⟨rfl, rfl⟩
end AbNm

