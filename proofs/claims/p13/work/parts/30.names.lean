/-! Names: the seven strings, what the JDK says of them. -/
section AbStr
variable {p : Program} {l : Launch} {e : Env} {R : Room} {s : State} {m : MethodId} {args : Array Value} {below : List Frame} {meth : Method} {c : Code} {Q : State → Prop}
variable {cc : ByteArray} {own : String} {nL : Nat} {D : va_G} {ca : Nat → ClassId} {A : Nat → Prop} {H0 : Heap} {cells slots : Nat} {ad : ab_Ad} {N : Nat → Nat} {u : ab_S} {pc : Nat} {lv : List (Nat × ab_V)} {st : List ab_V}
theorem ab_retn (X : ab_X p s m args c cc own nL D ca (ab_A ad N s.heap.size) s.heap) {ty : FieldType} (hr : meth.sig.returnType = some ty) (hlk : meth.locks = false) {v : Int32} (hv : narrow ty (.int v) = .int v) (hd : decode cc pc = .ok (.ireturn, 1)) {Post : ab_S → Option ab_V → Prop} (hP : Post u (some (ab_I v))) : ab_J p l e R s m args below meth c (MQ below (ab_Q D ca ad N s.heap.size Post) args s cells slots (ab_A ad N s.heap.size)) D ca (ab_A ad N s.heap.size) s.heap nL cells slots ad N u pc lv [ab_I v] :=
  fun H locs ls hW hS hl => W.zret X.1 X.2.1 hr hv (fun t ht hWt => ⟨⟨u, some (ab_I v), rfl, hP, by rw [ht]; exact hW.weaken (fun _ _ _ => trivial), va_K.moved hWt.alike X.2.2.2.2.2.1⟩, hS.F ht⟩) hS.2.2 hd hlk
theorem ab_sval (X : ab_X p s m args c cc own nL D ca A s.heap) (hz : ab_Zs ad A s s.heap) {idx i : Nat} (hi : i < 7) (hlk : Cond.fieldLink own idx "java/lang/String" "value" "[B" ∈ ab_T) (hd : decode cc pc = .ok (.getfield idx, 3)) (kk : ab_J p l e R s m args below meth c Q D ca A s.heap nL cells slots ad N u (pc + 3) lv (ab_O 24 i :: st)) : ab_J p l e R s m args below meth c Q D ca A s.heap nL cells slots ad N u pc lv (ab_O 22 i :: st) := fun H locs ls hW hS hl =>
  vk_getf X.1 X.2.1 (hz.2.2.2.2.2.2.1.1 i hi).2.2.1 hS X.2.2.2.1 (X.2.2.2.2.1 _ hlk) (fun _ h => h) hd (kk H locs ls hW hS hl)
theorem ab_scod (X : ab_X p s m args c cc own nL D ca A s.heap) (hz : ab_Zs ad A s s.heap) {idx i : Nat} (hi : i < 7) (hlk : Cond.fieldLink own idx "java/lang/String" "coder" "B" ∈ ab_T) (hd : decode cc pc = .ok (.getfield idx, 3)) (kk : ab_J p l e R s m args below meth c Q D ca A s.heap nL cells slots ad N u (pc + 3) lv (ab_I 0 :: st)) : ab_J p l e R s m args below meth c Q D ca A s.heap nL cells slots ad N u pc lv (ab_O 22 i :: st) := fun H locs ls hW hS hl =>
  vk_getf X.1 X.2.1 (hz.2.2.2.2.2.2.1.1 i hi).2.1 hS X.2.2.2.1 (X.2.2.2.2.1 _ hlk) (fun _ h => h) hd (kk H locs ls hW hS hl)
theorem ab_stln (X : ab_X p s m args c cc own nL D ca A s.heap) (hz : ab_Zs ad A s s.heap) {i : Nat} (hi : i < 7) (hd : decode cc pc = .ok (.arraylength, 1)) (kk : ab_J p l e R s m args below meth c Q D ca A s.heap nL cells slots ad N u (pc + 1) lv (ab_I (nI (ab_sl.getD i 0)) :: st)) : ab_J p l e R s m args below meth c Q D ca A s.heap nL cells slots ad N u pc lv (ab_O 24 i :: st) := fun H locs ls hW hS hl =>
  va_tlen (ty := .byte) X.1 X.2.1 (hz.2.2.2.2.2.2.1.1 i hi).2.2.2 hS rfl hd (kk H locs ls hW hS hl)
theorem ab_scom (X : ab_X p s m args c cc own nL D ca A s.heap) (hz : ab_Zs ad A s s.heap) {idx : Nat} (hlk : Cond.fieldLink own idx "java/lang/String" "COMPACT_STRINGS" "Z" ∈ ab_T) (hd : decode cc pc = .ok (.getstatic idx, 3)) (kk : ab_J p l e R s m args below meth c Q D ca A s.heap nL cells slots ad N u (pc + 3) lv (ab_I 1 :: st)) : ab_J p l e R s m args below meth c Q D ca A s.heap nL cells slots ad N u pc lv st := fun H locs ls hW hS hl =>
  va_gets X.1 X.2.1 hz.2.2.2.2.2.2.2.1 hS X.2.2.2.1 (X.2.2.2.2.1 _ hlk) (fun _ h => h) hd (kk H locs ls hW hS hl)
theorem ab_sldc (X : ab_X p s m args c cc "PolicyForge$Reader" nL D ca A s.heap) (hz : ab_Zs ad A s s.heap) {idx : Nat} (i : Nat) (hi : i < 7) (hx : 93 + 2 * i = idx) (hd : decode cc pc = .ok (.ldc idx, 2)) (kk : ab_J p l e R s m args below meth c Q D ca A s.heap nL cells slots ad N u (pc + 2) lv (ab_O 22 i :: st)) : ab_J p l e R s m args below meth c Q D ca A s.heap nL cells slots ad N u pc lv st := fun H locs ls hW hS hl => by
  subst hx
  exact va_ldcS X.1 X.2.1 X.2.2.2.1 (hz.2.2.2.2.2.2.2.2.2.1 i hi) hd (kk H locs ls hW hS hl)
theorem ab_srcv (hz : ab_Zs ad A s s.heap) {i : Nat} (hi : i < 7) (H : Heap) (locs : List Loc) (hS : va_S A s.heap H locs) : ∃ cell : Cell, H[ad 22 i]? = some cell ∧ cell.vm.isStatics = false ∧ s.vm.findClass "java/lang/String" = some cell.cls := vk_recv hz.2.2.2.2.2.2.1 hi hS
theorem ab_mmax (X : ab_X p s m args c cc own nL D ca A H0) {idx : Nat} (hws : ∀ w ∈ ([.methodLink own idx Lib.Math.max.name, .static Lib.Math.max.name, .initialized "java/lang/Math", .code Lib.Math.max.name Lib.Math.max.code 2 (some .int)] : List Cond), w ∈ ab_T) (hR : 1 ≤ R.frames ∧ 60 ≤ R.locals) (hc : cells ≤ R.cells ∧ slots ≤ R.slots) (hw : ab_len st ≤ 8) {x y : Int32} (hd : decode cc pc = .ok (.invokestatic idx, 3)) (kk : ab_J p l e R s m args below meth c Q D ca A H0 nL cells slots ad N u (pc + 3) lv (ab_I (if x < y then y else x) :: st)) : ab_J p l e R s m args below meth c Q D ca A H0 nL cells slots ad N u pc lv (ab_I y :: ab_I x :: st) := fun H locs ls hW hS hl =>
  va_mmax X.1 X.2.1 (X.2.2.1.trans hl.1.symm) X.2.2.2.1 (X.2.2.2.2.1 _ (hws _ (by simp))) (X.2.2.2.2.1 _ (hws _ (by simp))) (X.2.2.2.2.1 _ (hws _ (by simp))) (X.2.2.2.2.1 _ (hws _ (by simp))) hR.1 (by have := hR.2; rw [ab_wt]; omega) hc.1 hc.2 hd (kk H locs ls hW hS hl)
def ab_lq (own : String) (idx : Nat) (y : MethodName) (cc' : ByteArray) (nL' : Nat) (ret' : Option FieldType) (n : Nat) : Prop :=
  (∀ w ∈ ([.methodLink own idx y, .instanceMethod y, .selects y.cls y y, .initialized y.cls, .code y cc' nL' ret'] : List Cond), w ∈ ab_T) ∧
  (y.cls ≠ "java/lang/invoke/MethodHandle" ∧ y.cls ≠ "java/lang/invoke/VarHandle" ∧ (parseMethodDescriptor y.desc).map (fun d => d.parameters.length) = some n) ∧ nL' ≤ 41
theorem ab_callVQ {z : Bool} {Post : ab_S → Option ab_V → Prop} (X : ab_X p s m args c cc own nL D ca A H0) {y : MethodName} {cc' : ByteArray} {nL' d' idx c' i n : Nat} {ret' : Option FieldType} {as stk : List ab_V} (hz : z = true → ab_Zs ad A s H0) (hC : ab_C z l D ca y cc' nL' ret' d' N u (ab_O c' i :: as) Post) (hk : ab_lq own idx y cc' nL' ret' n) (hd : decode cc pc = .ok (.invokevirtual idx, 3)) (hst : stk = as.reverse ++ ab_O c' i :: st) (hn : as.length = n) (hrc : ∀ (H : Heap) (locs : List Loc), va_S A H0 H locs → ∃ cell : Cell, H[ad c' i]? = some cell ∧ cell.vm.isStatics = false ∧ s.vm.findClass y.cls = some cell.cls) (hR : d' + 1 ≤ R.frames ∧ 60 * (d' + 1) ≤ R.locals) (hc : cells ≤ R.cells ∧ slots ≤ R.slots) (hw : ab_len st ≤ 8)
    (kk : ∀ (u' : ab_S) (r : Option ab_V), Post u' r → ab_J p l e R s m args below meth c Q D ca A H0 nL cells slots ad N u' (pc + 3) lv (r.toList ++ st)) : ab_J p l e R s m args below meth c Q D ca A H0 nL cells slots ad N u pc lv stk := fun H locs ls hW hS hl => by
  obtain ⟨hws, hy, hnL⟩ := hk
  subst hst; subst hn
  have hp : PreV s H y.cls (ad c' i) (ab_Pc z D ca ad N u H.size (ab_O c' i :: as)) (as.map (ab_cv ad)) := ⟨ab_Pc_blind, hrc H locs hS, fun U hU hWU => ⟨rfl, by rw [hU], by rw [hU]; exact hW.weaken (fun _ _ _ => trivial), va_K.moved hWU.alike X.2.2.2.2.2.1, ab_Nw.moved hWU X.2.2.2.2.2.2.2, fun h => by rw [hU]; exact ab_Zs.go X (hz h) hW hS hWU⟩⟩
  have hG : GoodIn ab_T (wsV own idx y.cls y (Cond.code y cc' nL' ret' :: ab_T)) := fun w h => by
    refine ab_T_good w ?_
    rcases List.mem_append.mp h with h | h
    · exact hws w (List.mem_append_left [Cond.code y cc' nL' ret'] h)
    · rcases List.mem_cons.mp h with rfl | h
      · exact hws _ (by simp)
      · exact h
  have cw : CallW R s args own y.cls idx y cc' nL' ret' (Cond.code y cc' nL' ret' :: ab_T) (ab_rm d' 0 0) 0 0 as.length := cwV as.length X.2.2.2.2.1 hG rfl rfl rfl ⟨rfl, hy⟩ ⟨hR.1, by show 8 + (nL' + 11) + 60 * d' ≤ R.locals; omega⟩
  exact ab_after X hW hS hl (va_runV ⟨X.1, X.2.1, X.2.2.1, X.2.2.2.1, X.2.2.2.2.1⟩ (hC ad H.size) cw hp rfl (by simp) hl.1 (by show (as.reverse ++ ab_O c' i :: st).map (ab_cv ad) = _; rw [List.map_append, List.map_reverse]; rfl) (lv_room (by rw [ab_wt]; exact hw)) hd hc) kk
end AbStr
section AbNm
variable {l : Launch} {D : va_G} {ca : Nat → ClassId} {N : Nat → Nat}
abbrev b_JS_coder : ByteArray := prog_18_method_152_code
def y_JS_coder : MethodName := ⟨"java/lang/String", "coder", "()B"⟩
theorem d_JS_coder_0 : decode b_JS_coder 0 = .ok (.getstatic 38, 3) := by decide +kernel
theorem d_JS_coder_3 : decode b_JS_coder 3 = .ok (.ifCond .eq 10, 3) := by decide +kernel
theorem d_JS_coder_6 : decode b_JS_coder 6 = .ok (.aload_n 0, 1) := by decide +kernel
theorem d_JS_coder_7 : decode b_JS_coder 7 = .ok (.getfield 15, 3) := by decide +kernel
theorem d_JS_coder_10 : decode b_JS_coder 10 = .ok (.goto 4, 3) := by decide +kernel
theorem d_JS_coder_13 : decode b_JS_coder 13 = .ok (.iconst 1, 1) := by decide +kernel
theorem d_JS_coder_14 : decode b_JS_coder 14 = .ok (.ireturn, 1) := by decide +kernel
theorem c_JS_coder (u : ab_S) (i : Nat) (hi : i < 7) : ab_C true l D ca y_JS_coder b_JS_coder 1 (some .byte) 0 N u [ab_O 22 i] (fun u' v => u' = u ∧ v = some (ab_I 0)) := by
  refine ab_C.of (by decide) (Nat.le_of_ble_eq_true rfl) ?_
  intro p e s m args below meth c ad X hZ hr0 hlk
  refine ab_scom X (hZ rfl) (ab_in 452 (by decide +kernel) (by decide +kernel)) d_JS_coder_0 ?_
  refine ab_if_eq X 13 d_JS_coder_3 rfl (fun hb => absurd hb ((by decide))) (fun _ => ?_)
  refine ab_aload_n X 0 d_JS_coder_6 rfl rfl ?_
  refine ab_scod X (hZ rfl) hi (ab_in 1324 (by decide +kernel) (by decide +kernel)) d_JS_coder_7 ?_
  refine ab_goto X 14 d_JS_coder_10 rfl ?_
  exact ab_retn X hr0 hlk (by decide +kernel) d_JS_coder_14 ⟨rfl, rfl⟩
abbrev b_JS_length : ByteArray := prog_18_method_54_code
def y_JS_length : MethodName := ⟨"java/lang/String", "length", "()I"⟩
theorem d_JS_length_0 : decode b_JS_length 0 = .ok (.aload_n 0, 1) := by decide +kernel
theorem d_JS_length_1 : decode b_JS_length 1 = .ok (.getfield 9, 3) := by decide +kernel
theorem d_JS_length_4 : decode b_JS_length 4 = .ok (.arraylength, 1) := by decide +kernel
theorem d_JS_length_5 : decode b_JS_length 5 = .ok (.aload_n 0, 1) := by decide +kernel
theorem d_JS_length_6 : decode b_JS_length 6 = .ok (.invokevirtual 335, 3) := by decide +kernel
theorem d_JS_length_9 : decode b_JS_length 9 = .ok (.ishr, 1) := by decide +kernel
theorem d_JS_length_10 : decode b_JS_length 10 = .ok (.ireturn, 1) := by decide +kernel
theorem lq_JS_335 : ab_lq "java/lang/String" 335 y_JS_coder b_JS_coder 1 (some FieldType.byte) 0 := ⟨List.forall_mem_cons.mpr ⟨(ab_in 448 (by decide +kernel) (by decide +kernel)), List.forall_mem_cons.mpr ⟨(ab_in 449 (by decide +kernel) (by decide +kernel)), List.forall_mem_cons.mpr ⟨(ab_in 450 (by decide +kernel) (by decide +kernel)), List.forall_mem_cons.mpr ⟨(ab_in 101 (by decide +kernel) (by decide +kernel)), List.forall_mem_cons.mpr ⟨(ab_in 451 (by decide +kernel) (by decide +kernel)), fun _ h => absurd h List.not_mem_nil⟩⟩⟩⟩⟩, ⟨by decide +kernel, by decide +kernel, by decide +kernel⟩, by decide⟩
theorem ab_sl_lt {i : Nat} (h : i < 7) : ab_sl.getD i 0 < 2 ^ 31 := by
  have h' : i = 0 ∨ i = 1 ∨ i = 2 ∨ i = 3 ∨ i = 4 ∨ i = 5 ∨ i = 6 := by omega
  rcases h' with rfl | rfl | rfl | rfl | rfl | rfl | rfl <;> decide
theorem ab_sl_pos {i : Nat} (h : i < 7) : 0 < ab_sl.getD i 0 := by
  have h' : i = 0 ∨ i = 1 ∨ i = 2 ∨ i = 3 ∨ i = 4 ∨ i = 5 ∨ i = 6 := by omega
  rcases h' with rfl | rfl | rfl | rfl | rfl | rfl | rfl <;> decide
theorem c_JS_length (u : ab_S) (i : Nat) (hi : i < 7) : ab_C true l D ca y_JS_length b_JS_length 1 (some .int) 1 N u [ab_O 22 i] (fun u' v => u' = u ∧ v = some (ab_I (nI (ab_sl.getD i 0)))) := by
  refine ab_C.of (by decide) (Nat.le_of_ble_eq_true rfl) ?_
  intro p e s m args below meth c ad X hZ hr0 hlk
  refine ab_aload_n X 0 d_JS_length_0 rfl rfl ?_
  refine ab_sval X (hZ rfl) hi (ab_in 1323 (by decide +kernel) (by decide +kernel)) d_JS_length_1 ?_
  refine ab_stln X (hZ rfl) hi d_JS_length_4 ?_
  refine ab_aload_n X 0 d_JS_length_5 rfl rfl ?_
  refine ab_callVQ (as := []) X (fun _ => hZ rfl) (c_JS_coder u i hi) lq_JS_335 d_JS_length_6 rfl rfl (ab_srcv (hZ rfl) hi) ⟨by first | exact Nat.le_of_ble_eq_true rfl | (simp only [ab_rm]; omega), by first | exact Nat.le_of_ble_eq_true rfl | (simp only [ab_rm]; omega)⟩ ⟨by first | exact Nat.le_of_ble_eq_true rfl | (simp only [ab_rm]; omega), by first | exact Nat.le_of_ble_eq_true rfl | (simp only [ab_rm]; omega)⟩ (Nat.le_of_ble_eq_true rfl) (fun u6 r6 h6 => ?_)
  obtain ⟨e6, rfl⟩ := h6
  subst u6
  refine ab_ishr X d_JS_length_9 ?_
  refine ab_top (pk_shrN (ab_sl_lt hi) _ 0 (by decide +kernel)) ?_
  exact ab_reti X hr0 hlk d_JS_length_10 ⟨rfl, by rw [Nat.pow_zero, Nat.div_one]⟩
abbrev b_RD_nameOf : ByteArray := prog_6_method_7_code
def y_RD_nameOf : MethodName := ⟨"PolicyForge$Reader", "nameOf", "(I)Ljava/lang/String;"⟩
theorem d_RD_nameOf_0 : decode b_RD_nameOf 0 = .ok (.iload_n 0, 1) := by decide +kernel
theorem d_RD_nameOf_1 : decode b_RD_nameOf 1 = .ok (.tableswitch 61 1 7 #[43, 46, 49, 52, 61, 55, 58], 43) := by decide +kernel
theorem d_RD_nameOf_44 : decode b_RD_nameOf 44 = .ok (.ldc 93, 2) := by decide +kernel
theorem d_RD_nameOf_46 : decode b_RD_nameOf 46 = .ok (.areturn, 1) := by decide +kernel
theorem d_RD_nameOf_47 : decode b_RD_nameOf 47 = .ok (.ldc 95, 2) := by decide +kernel
theorem d_RD_nameOf_49 : decode b_RD_nameOf 49 = .ok (.areturn, 1) := by decide +kernel
theorem d_RD_nameOf_50 : decode b_RD_nameOf 50 = .ok (.ldc 97, 2) := by decide +kernel
theorem d_RD_nameOf_52 : decode b_RD_nameOf 52 = .ok (.areturn, 1) := by decide +kernel
theorem d_RD_nameOf_53 : decode b_RD_nameOf 53 = .ok (.ldc 99, 2) := by decide +kernel
theorem d_RD_nameOf_55 : decode b_RD_nameOf 55 = .ok (.areturn, 1) := by decide +kernel
theorem d_RD_nameOf_56 : decode b_RD_nameOf 56 = .ok (.ldc 101, 2) := by decide +kernel
theorem d_RD_nameOf_58 : decode b_RD_nameOf 58 = .ok (.areturn, 1) := by decide +kernel
theorem d_RD_nameOf_59 : decode b_RD_nameOf 59 = .ok (.ldc 103, 2) := by decide +kernel
theorem d_RD_nameOf_61 : decode b_RD_nameOf 61 = .ok (.areturn, 1) := by decide +kernel
theorem d_RD_nameOf_62 : decode b_RD_nameOf 62 = .ok (.ldc 105, 2) := by decide +kernel
theorem d_RD_nameOf_64 : decode b_RD_nameOf 64 = .ok (.areturn, 1) := by decide +kernel
theorem c_RD_nameOf (u : ab_S) (j : Nat) (hj : j < 7) : ab_C true l D ca y_RD_nameOf b_RD_nameOf 1 (some (.object "java/lang/String")) 0 N u [ab_I (ab_kinds j)] (fun u' v => u' = u ∧ v = some (ab_O 22 j)) := by
  refine ab_C.of (by decide) (Nat.le_of_ble_eq_true rfl) ?_
  intro p e s m args below meth c ad X hZ hr0 hlk
  have h' : j = 0 ∨ j = 1 ∨ j = 2 ∨ j = 3 ∨ j = 4 ∨ j = 5 ∨ j = 6 := by omega
  rcases h' with rfl | rfl | rfl | rfl | rfl | rfl | rfl
  ·
    refine ab_iload_n X 0 d_RD_nameOf_0 rfl rfl ?_
    refine ab_tableIn X 44 d_RD_nameOf_1 (by decide) (by decide) (off := 43) (by decide) (by decide) ?_
    refine ab_sldc X (hZ rfl) 0 (by decide) rfl d_RD_nameOf_44 ?_
    exact ab_retr X hr0 hlk d_RD_nameOf_46 ⟨rfl, rfl⟩
  ·
    refine ab_iload_n X 0 d_RD_nameOf_0 rfl rfl ?_
    refine ab_tableIn X 47 d_RD_nameOf_1 (by decide) (by decide) (off := 46) (by decide) (by decide) ?_
    refine ab_sldc X (hZ rfl) 1 (by decide) rfl d_RD_nameOf_47 ?_
    exact ab_retr X hr0 hlk d_RD_nameOf_49 ⟨rfl, rfl⟩
  ·
    refine ab_iload_n X 0 d_RD_nameOf_0 rfl rfl ?_
    refine ab_tableIn X 50 d_RD_nameOf_1 (by decide) (by decide) (off := 49) (by decide) (by decide) ?_
    refine ab_sldc X (hZ rfl) 2 (by decide) rfl d_RD_nameOf_50 ?_
    exact ab_retr X hr0 hlk d_RD_nameOf_52 ⟨rfl, rfl⟩
  ·
    refine ab_iload_n X 0 d_RD_nameOf_0 rfl rfl ?_
    refine ab_tableIn X 53 d_RD_nameOf_1 (by decide) (by decide) (off := 52) (by decide) (by decide) ?_
    refine ab_sldc X (hZ rfl) 3 (by decide) rfl d_RD_nameOf_53 ?_
    exact ab_retr X hr0 hlk d_RD_nameOf_55 ⟨rfl, rfl⟩
  ·
    refine ab_iload_n X 0 d_RD_nameOf_0 rfl rfl ?_
    refine ab_tableIn X 56 d_RD_nameOf_1 (by decide) (by decide) (off := 55) (by decide) (by decide) ?_
    refine ab_sldc X (hZ rfl) 4 (by decide) rfl d_RD_nameOf_56 ?_
    exact ab_retr X hr0 hlk d_RD_nameOf_58 ⟨rfl, rfl⟩
  ·
    refine ab_iload_n X 0 d_RD_nameOf_0 rfl rfl ?_
    refine ab_tableIn X 59 d_RD_nameOf_1 (by decide) (by decide) (off := 58) (by decide) (by decide) ?_
    refine ab_sldc X (hZ rfl) 5 (by decide) rfl d_RD_nameOf_59 ?_
    exact ab_retr X hr0 hlk d_RD_nameOf_61 ⟨rfl, rfl⟩
  ·
    refine ab_iload_n X 0 d_RD_nameOf_0 rfl rfl ?_
    refine ab_tableOut X 62 d_RD_nameOf_1 (by decide) (by decide) ?_
    refine ab_sldc X (hZ rfl) 6 (by decide) rfl d_RD_nameOf_62 ?_
    exact ab_retr X hr0 hlk d_RD_nameOf_64 ⟨rfl, rfl⟩
theorem mm_RD_87 : ∀ w ∈ ([.methodLink "PolicyForge$Reader" 87 Lib.Math.max.name, .static Lib.Math.max.name, .initialized "java/lang/Math", .code Lib.Math.max.name Lib.Math.max.code 2 (some .int)] : List Cond), w ∈ ab_T := List.forall_mem_cons.mpr ⟨(ab_in 492 (by decide +kernel) (by decide +kernel)), List.forall_mem_cons.mpr ⟨(ab_in 493 (by decide +kernel) (by decide +kernel)), List.forall_mem_cons.mpr ⟨(ab_in 105 (by decide +kernel) (by decide +kernel)), List.forall_mem_cons.mpr ⟨(ab_in 494 (by decide +kernel) (by decide +kernel)), fun _ h => absurd h List.not_mem_nil⟩⟩⟩⟩
abbrev b_RD_refuse : ByteArray := prog_6_method_11_code
def y_RD_refuse : MethodName := ⟨"PolicyForge$Reader", "refuse", "(I)Z"⟩
theorem d_RD_refuse_0 : decode b_RD_refuse 0 = .ok (.aload_n 0, 1) := by decide +kernel
theorem d_RD_refuse_1 : decode b_RD_refuse 1 = .ok (.iload_n 1, 1) := by decide +kernel
theorem d_RD_refuse_2 : decode b_RD_refuse 2 = .ok (.putfield 33, 3) := by decide +kernel
theorem d_RD_refuse_5 : decode b_RD_refuse 5 = .ok (.iconst 0, 1) := by decide +kernel
theorem d_RD_refuse_6 : decode b_RD_refuse 6 = .ok (.ireturn, 1) := by decide +kernel
theorem c_RD_refuse (u : ab_S) (x : Int32) (h1 : 0 < N 1) : ab_C false l D ca y_RD_refuse b_RD_refuse 2 (some .boolean) 0 N u [ab_O 1 0, ab_I x] (fun u' v => u' = ab_ui u 1 0 5 x ∧ v = some (ab_I 0)) := by
  refine ab_C.of (by decide) (Nat.le_of_ble_eq_true rfl) ?_
  intro p e s m args below meth c ad X hZ hr0 hlk
  refine ab_aload_n X 0 d_RD_refuse_0 rfl rfl ?_
  refine ab_iload_n X 1 d_RD_refuse_1 rfl rfl ?_
  refine ab_putI X fp_RD_33 d_RD_refuse_2 (by first | assumption | decide) rfl rfl ?_
  refine ab_iconst (v := 0) X d_RD_refuse_5 (by decide) ?_
  exact ab_retz X hr0 hlk (Or.inl rfl) d_RD_refuse_6 ⟨rfl, rfl⟩
end AbNm

