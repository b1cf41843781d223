/-! The characters of the names, as the JDK tells them. -/
abbrev b_JP_checkIndex : ByteArray := prog_23_method_11_code
def y_JP_checkIndex : MethodName := ⟨"jdk/internal/util/Preconditions", "checkIndex", "(IILjava/util/function/BiFunction;)I"⟩
theorem d_JP_checkIndex_0 : decode b_JP_checkIndex 0 = .ok (.iload_n 0, 1) := by decide +kernel
theorem d_JP_checkIndex_1 : decode b_JP_checkIndex 1 = .ok (.ifCond .lt 8, 3) := by decide +kernel
theorem d_JP_checkIndex_4 : decode b_JP_checkIndex 4 = .ok (.iload_n 0, 1) := by decide +kernel
theorem d_JP_checkIndex_5 : decode b_JP_checkIndex 5 = .ok (.iload_n 1, 1) := by decide +kernel
theorem d_JP_checkIndex_6 : decode b_JP_checkIndex 6 = .ok (.if_icmp .lt 10, 3) := by decide +kernel
theorem d_JP_checkIndex_9 : decode b_JP_checkIndex 9 = .ok (.aload_n 2, 1) := by decide +kernel
theorem d_JP_checkIndex_10 : decode b_JP_checkIndex 10 = .ok (.iload_n 0, 1) := by decide +kernel
theorem d_JP_checkIndex_11 : decode b_JP_checkIndex 11 = .ok (.iload_n 1, 1) := by decide +kernel
theorem d_JP_checkIndex_12 : decode b_JP_checkIndex 12 = .ok (.invokestatic 95, 3) := by decide +kernel
theorem d_JP_checkIndex_15 : decode b_JP_checkIndex 15 = .ok (.athrow, 1) := by decide +kernel
theorem d_JP_checkIndex_16 : decode b_JP_checkIndex 16 = .ok (.iload_n 0, 1) := by decide +kernel
theorem d_JP_checkIndex_17 : decode b_JP_checkIndex 17 = .ok (.ireturn, 1) := by decide +kernel
def ab_Px (D : va_G) (ca : Nat → ClassId) (ad : ab_Ad) (N : Nat → Nat) (u : ab_S) (sz : Nat) (as : List ab_V) (v : Value) : Array Value → State → Prop := va_Pc (as.map (ab_cv ad) ++ [v]) fun U => U.heap.size = sz ∧ ab_W D ca ad N u (fun _ => True) U.heap ∧ va_K D vwCl (ab_tys ca) U ∧ ab_Nw U
theorem ab_Px_blind {D : va_G} {ca : Nat → ClassId} {ad : ab_Ad} {N : Nat → Nat} {u : ab_S} {sz : Nat} {as : List ab_V} {v : Value} : FrameBlind (ab_Px D ca ad N u sz as v) := fun a U g mk q => by
  obtain ⟨q0, q1, q2, q3, q5⟩ := q
  exact ⟨q0, q1, q2, va_K.moved (u := U) (U := U.calling g mk a) (Vm.Alike.refl U.vm) q3, ab_Nw.moved (u := U) (U := U.calling g mk a) (State.WarmedH.refl U) q5⟩
theorem x_JP_checkIndex {l : Launch} {D : va_G} {ca : Nat → ClassId} {N : Nat → Nat} (u : ab_S) (i n : Int32) (v : Value) (hv : v = .null ∨ ∃ t, v = .ref t) (h0 : ¬ i < 0) (h1 : i < n) (ad : ab_Ad) (sz : Nat) : Met l y_JP_checkIndex (Cond.code y_JP_checkIndex b_JP_checkIndex 3 (some .int) :: ab_T) (ab_rm 0 0 0) (ab_Px D ca ad N u sz [ab_I i, ab_I n] v) (ab_Q D ca ad N sz (fun u' r => u' = u ∧ r = some (ab_I i))) 0 0 (ab_A ad N sz) := by
  refine Met.ofW (cc := b_JP_checkIndex) (maxL := 3) (ret := some .int) (by decide) rfl ?_
  intro p e s m args below meth c s₁ B hml hv'
  obtain ⟨rfl, hsz, hW, hK, hNw⟩ := hv'
  subst hsz
  have hts := atoms_spec (ws := Cond.code y_JP_checkIndex b_JP_checkIndex 3 (some .int) :: ab_T) B.pre
  rw [lg_entry_eq]
  have hl := lv_entry ([ab_I i, ab_I n].map (ab_cv ad) ++ [v]) (n := 3) (by rcases hv with rfl | ⟨t, rfl⟩ <;> exact Nat.le_of_ble_eq_true rfl)
  have hm : ∀ q ∈ ([(0, Value.int i), (1, Value.int n)] : List (Nat × Value)), q ∈ lv_args 0 ([ab_I i, ab_I n].map (ab_cv ad) ++ [v]) := by
    intro q hq
    rcases List.mem_cons.mp hq with rfl | hq
    · exact List.mem_cons_self ..
    · rcases List.mem_cons.mp hq with rfl | hq
      · exact List.mem_cons_of_mem _ (List.mem_cons_self ..)
      · exact absurd hq List.not_mem_nil
  have X : ab_X p s m (([ab_I i, ab_I n].map (ab_cv ad) ++ [v]).toArray) c b_JP_checkIndex "jdk/internal/util/Preconditions" 3 D ca (ab_A ad N s.heap.size) s.heap := ⟨B.exec, B.bytes, hml, findClass_of_methodNamed B.named, fun w hw => hts w (List.mem_cons_of_mem _ hw), hK, fun q hq => Or.inr hq, hNw⟩
  have hr0 := B.returns
  have hlk := B.notSynchronized
  have hJ : ab_J p l e (ab_rm 0 0 0) s m (([ab_I i, ab_I n].map (ab_cv ad) ++ [v]).toArray) below meth c (MQ below (ab_Q D ca ad N s.heap.size (fun u' r => u' = u ∧ r = some (ab_I i))) (([ab_I i, ab_I n].map (ab_cv ad) ++ [v]).toArray) s 0 0 (ab_A ad N s.heap.size)) D ca (ab_A ad N s.heap.size) s.heap 3 0 0 ad N u 0 [(0, ab_I i), (1, ab_I n)] [] := by
    refine ab_iload_n X 0 d_JP_checkIndex_0 rfl rfl ?_
    refine ab_if_lt X 9 d_JP_checkIndex_1 rfl (fun hb => absurd hb (h0)) (fun _ => ?_)
    refine ab_iload_n X 0 d_JP_checkIndex_4 rfl rfl ?_
    refine ab_iload_n X 1 d_JP_checkIndex_5 rfl rfl ?_
    refine ab_icmp_lt X 16 d_JP_checkIndex_6 rfl (fun _ => ?_) (fun hb => absurd (h1) hb)
    refine ab_iload_n X 0 d_JP_checkIndex_16 rfl rfl ?_
    exact ab_reti X hr0 hlk d_JP_checkIndex_17 ⟨rfl, rfl⟩
  exact hJ s.heap [] _ (hW.weaken fun c i hi => Or.inl ⟨c, i, hi, rfl⟩) va_S.rf ⟨hl.1, hl.2.1, fun q hq => hl.2.2 q (hm q hq)⟩
section AbCh
variable {p : Program} {l : Launch} {e : Env} {R : Room} {s : State} {m : MethodId} {args : Array Value} {below : List Frame} {meth : Method} {c : Code} {Q : State → Prop}
variable {cc : ByteArray} {own : String} {nL : Nat} {D : va_G} {ca : Nat → ClassId} {A : Nat → Prop} {H0 : Heap} {cells slots : Nat} {ad : ab_Ad} {N : Nat → Nat} {u : ab_S} {pc : Nat} {lv : List (Nat × ab_V)} {st : List ab_V}
theorem ab_i2c (X : ab_X p s m args c cc own nL D ca A H0) {x : Int32} (hd : decode cc pc = .ok (.i2c, 1)) (k : ab_J p l e R s m args below meth c Q D ca A H0 nL cells slots ad N u (pc + 1) lv (ab_I (x.toUInt32 % 65536).toInt32 :: st)) : ab_J p l e R s m args below meth c Q D ca A H0 nL cells slots ad N u pc lv (ab_I x :: st) := fun H locs ls hW hS hl => lv_i2c X.1 X.2.1 hd rfl (k H locs ls hW hS hl)
theorem ab_sbl (X : ab_X p s m args c cc own nL D ca A s.heap) (hz : ab_Zs ad A s s.heap) {i j : Nat} (hi : i < 7) (hj : j < ab_sl.getD i 0) (hd : decode cc pc = .ok (.baload, 1)) (kk : ab_J p l e R s m args below meth c Q D ca A s.heap nL cells slots ad N u (pc + 1) lv (ab_I ((ab_sb.getD i []).getD j 0) :: st)) : ab_J p l e R s m args below meth c Q D ca A s.heap nL cells slots ad N u pc lv (ab_I (nI j) :: ab_O 24 i :: st) := fun H locs ls hW hS hl =>
  va_tb X.1 X.2.1 (hz.2.2.2.2.2.2.1.1 i hi).2.2.2 hS (vp_in_nI hj (ab_sl_lt hi)) (by rw [nI_clamp (Nat.lt_trans hj (ab_sl_lt hi))]; rfl) hd (kk H locs ls hW hS hl)
theorem ab_chk (X : ab_X p s m args c cc own nL D ca A s.heap) (hz : ab_Zs ad A s s.heap) {i n : Int32} {ix iy : Nat} (h0 : ¬ i < 0) (h1 : i < n) (hlk : Cond.fieldLink own ix "jdk/internal/util/Preconditions" "SIOOBE_FORMATTER" "Ljava/util/function/BiFunction;" ∈ ab_T) (hk : ab_ls own iy y_JP_checkIndex b_JP_checkIndex 3 (some .int) 3) (hd1 : decode cc pc = .ok (.getstatic ix, 3)) (hd2 : decode cc (pc + 3) = .ok (.invokestatic iy, 3)) (hR : 1 ≤ R.frames ∧ 60 ≤ R.locals) (hc : cells ≤ R.cells ∧ slots ≤ R.slots) (hw : ab_len st ≤ 8) (kk : ab_J p l e R s m args below meth c Q D ca A s.heap nL cells slots ad N u (pc + 3 + 3) lv (ab_I i :: st)) : ab_J p l e R s m args below meth c Q D ca A s.heap nL cells slots ad N u pc lv (ab_I n :: ab_I i :: st) := fun H locs ls hW hS hl => by
  have go : ∀ v : Value, (v = .null ∨ ∃ t, v = .ref t) → W p l e R s m args below meth c H locs cells slots Q (F0 m (pc + 3) ls (v :: (ab_I n :: ab_I i :: st).map (ab_cv ad))) := by
    intro v hv
    obtain ⟨hws, hy, hnL⟩ := hk
    have hp : PreS s H (ab_Px D ca ad N u H.size [ab_I i, ab_I n] v) ([ab_I i, ab_I n].map (ab_cv ad) ++ [v]) := ⟨ab_Px_blind, fun U hU hWU => ⟨rfl, by rw [hU], by rw [hU]; exact hW.weaken (fun _ _ _ => trivial), va_K.moved hWU.alike X.2.2.2.2.2.1, ab_Nw.moved hWU X.2.2.2.2.2.2.2⟩⟩
    have hG : GoodIn ab_T (Cond.code y_JP_checkIndex b_JP_checkIndex 3 (some .int) :: ab_T) := fun w h => by
      refine ab_T_good w ?_
      rcases List.mem_cons.mp h with rfl | h
      · exact hws _ (by simp)
      · exact h
    have cb : CallB R s args own iy y_JP_checkIndex b_JP_checkIndex 3 (some .int) (Cond.code y_JP_checkIndex b_JP_checkIndex 3 (some .int) :: ab_T) (ab_rm 0 0 0) 0 0 3 := callB_of 3 X.2.2.2.2.1 hG rfl rfl rfl (X.2.2.2.2.1 _ (hws _ (by simp))) (X.2.2.2.2.1 _ (hws _ (by simp))) hy ⟨hR.1, by have := hR.2; show 8 + (3 + 11) + 60 * 0 ≤ R.locals; omega⟩
    refine ab_after (Post := fun u' r => u' = u ∧ r = some (ab_I i)) X hW hS hl (va_runS ⟨X.1, X.2.1, X.2.2.1, X.2.2.2.1, X.2.2.2.2.1⟩ (x_JP_checkIndex u i n v hv h0 h1 ad H.size) ⟨cb, X.2.2.2.2.1 _ (hws _ (by simp))⟩ hp rfl rfl hl.1 rfl (lv_room (by rw [ab_wt]; exact hw)) hd2 hc) (fun u' r h => ?_)
    obtain ⟨rfl, rfl⟩ := h
    exact kk
  rcases hz.2.2.2.2.2.2.2.2.1 with h | ⟨t, h⟩
  · exact va_gets X.1 X.2.1 h hS X.2.2.2.1 (X.2.2.2.2.1 _ hlk) (fun _ h => h) hd1 (go .null (Or.inl rfl))
  · exact va_gets X.1 X.2.1 h hS X.2.2.2.1 (X.2.2.2.2.1 _ hlk) (fun _ h => h) hd1 (go (.ref t) (Or.inr ⟨t, rfl⟩))
end AbCh
section AbCh2
variable {l : Launch} {D : va_G} {ca : Nat → ClassId} {N : Nat → Nat}
abbrev b_JS_checkIndex : ByteArray := prog_18_method_155_code
def y_JS_checkIndex : MethodName := ⟨"java/lang/String", "checkIndex", "(II)V"⟩
theorem d_JS_checkIndex_0 : decode b_JS_checkIndex 0 = .ok (.iload_n 0, 1) := by decide +kernel
theorem d_JS_checkIndex_1 : decode b_JS_checkIndex 1 = .ok (.iload_n 1, 1) := by decide +kernel
theorem d_JS_checkIndex_2 : decode b_JS_checkIndex 2 = .ok (.getstatic 1053, 3) := by decide +kernel
theorem d_JS_checkIndex_5 : decode b_JS_checkIndex 5 = .ok (.invokestatic 1059, 3) := by decide +kernel
theorem d_JS_checkIndex_8 : decode b_JS_checkIndex 8 = .ok (.pop, 1) := by decide +kernel
theorem d_JS_checkIndex_9 : decode b_JS_checkIndex 9 = .ok (.return_, 1) := by decide +kernel
theorem ls_JS_1059 : ab_ls "java/lang/String" 1059 y_JP_checkIndex b_JP_checkIndex 3 (some FieldType.int) 3 := ⟨List.forall_mem_cons.mpr ⟨(ab_in 470 (by decide +kernel) (by decide +kernel)), List.forall_mem_cons.mpr ⟨(ab_in 471 (by decide +kernel) (by decide +kernel)), List.forall_mem_cons.mpr ⟨(ab_in 103 (by decide +kernel) (by decide +kernel)), List.forall_mem_cons.mpr ⟨(ab_in 472 (by decide +kernel) (by decide +kernel)), fun _ h => absurd h List.not_mem_nil⟩⟩⟩⟩, ⟨by decide +kernel, by decide +kernel, by decide +kernel⟩, by decide⟩
theorem c_JS_checkIndex (u : ab_S) (i n : Int32) (h0 : ¬ i < 0) (h1 : i < n) : ab_C true l D ca y_JS_checkIndex b_JS_checkIndex 2 none 1 N u [ab_I i, ab_I n] (fun u' v => u' = u ∧ v = none) := by
  refine ab_C.of (by decide) (Nat.le_of_ble_eq_true rfl) ?_
  intro p e s m args below meth c ad X hZ hr0 hlk
  refine ab_iload_n X 0 d_JS_checkIndex_0 rfl rfl ?_
  refine ab_iload_n X 1 d_JS_checkIndex_1 rfl rfl ?_
  refine ab_chk X (hZ rfl) h0 h1 (ab_in 468 (by decide +kernel) (by decide +kernel)) ls_JS_1059 d_JS_checkIndex_2 d_JS_checkIndex_5 ⟨Nat.le_of_ble_eq_true rfl, Nat.le_of_ble_eq_true rfl⟩ ⟨Nat.le_of_ble_eq_true rfl, Nat.le_of_ble_eq_true rfl⟩ (Nat.le_of_ble_eq_true rfl) ?_
  refine ab_pop X d_JS_checkIndex_8 rfl ?_
  exact ab_retv X hr0 hlk d_JS_checkIndex_9 ⟨rfl, rfl⟩
abbrev b_JS_isLatin1 : ByteArray := prog_18_method_154_code
def y_JS_isLatin1 : MethodName := ⟨"java/lang/String", "isLatin1", "()Z"⟩
theorem d_JS_isLatin1_0 : decode b_JS_isLatin1 0 = .ok (.getstatic 38, 3) := by decide +kernel
theorem d_JS_isLatin1_3 : decode b_JS_isLatin1 3 = .ok (.ifCond .eq 14, 3) := by decide +kernel
theorem d_JS_isLatin1_6 : decode b_JS_isLatin1 6 = .ok (.aload_n 0, 1) := by decide +kernel
theorem d_JS_isLatin1_7 : decode b_JS_isLatin1 7 = .ok (.getfield 15, 3) := by decide +kernel
theorem d_JS_isLatin1_10 : decode b_JS_isLatin1 10 = .ok (.ifCond .ne 7, 3) := by decide +kernel
theorem d_JS_isLatin1_13 : decode b_JS_isLatin1 13 = .ok (.iconst 1, 1) := by decide +kernel
theorem d_JS_isLatin1_14 : decode b_JS_isLatin1 14 = .ok (.goto 4, 3) := by decide +kernel
theorem d_JS_isLatin1_17 : decode b_JS_isLatin1 17 = .ok (.iconst 0, 1) := by decide +kernel
theorem d_JS_isLatin1_18 : decode b_JS_isLatin1 18 = .ok (.ireturn, 1) := by decide +kernel
theorem c_JS_isLatin1 (u : ab_S) (i : Nat) (hi : i < 7) : ab_C true l D ca y_JS_isLatin1 b_JS_isLatin1 1 (some .boolean) 0 N u [ab_O 22 i] (fun u' v => u' = u ∧ v = some (ab_I 1)) := by
  refine ab_C.of (by decide) (Nat.le_of_ble_eq_true rfl) ?_
  intro p e s m args below meth c ad X hZ hr0 hlk
  refine ab_scom X (hZ rfl) (ab_in 452 (by decide +kernel) (by decide +kernel)) d_JS_isLatin1_0 ?_
  refine ab_if_eq X 17 d_JS_isLatin1_3 rfl (fun hb => absurd hb ((by decide))) (fun _ => ?_)
  refine ab_aload_n X 0 d_JS_isLatin1_6 rfl rfl ?_
  refine ab_scod X (hZ rfl) hi (ab_in 1324 (by decide +kernel) (by decide +kernel)) d_JS_isLatin1_7 ?_
  refine ab_if_ne X 17 d_JS_isLatin1_10 rfl (fun hb => absurd (rfl) hb) (fun _ => ?_)
  refine ab_iconst (v := 1) X d_JS_isLatin1_13 (by decide) ?_
  refine ab_goto X 18 d_JS_isLatin1_14 rfl ?_
  exact ab_retz X hr0 hlk (Or.inr rfl) d_JS_isLatin1_18 ⟨rfl, rfl⟩
def ab_chr (i j : Nat) : Int32 := ((((ab_sb.getD i []).getD j 0) &&& 255).toUInt32 % 65536).toInt32
theorem ab_chr_n (x : Int32) : narrow .char (.int (x.toUInt32 % 65536).toInt32) = .int (x.toUInt32 % 65536).toInt32 := by
  simp [narrow, Lib.u32_mod_mod]
abbrev b_JL_charAt : ByteArray := prog_19_method_2_code
def y_JL_charAt : MethodName := ⟨"java/lang/StringLatin1", "charAt", "([BI)C"⟩
theorem d_JL_charAt_0 : decode b_JL_charAt 0 = .ok (.iload_n 1, 1) := by decide +kernel
theorem d_JL_charAt_1 : decode b_JL_charAt 1 = .ok (.aload_n 0, 1) := by decide +kernel
theorem d_JL_charAt_2 : decode b_JL_charAt 2 = .ok (.arraylength, 1) := by decide +kernel
theorem d_JL_charAt_3 : decode b_JL_charAt 3 = .ok (.invokestatic 9, 3) := by decide +kernel
theorem d_JL_charAt_6 : decode b_JL_charAt 6 = .ok (.aload_n 0, 1) := by decide +kernel
theorem d_JL_charAt_7 : decode b_JL_charAt 7 = .ok (.iload_n 1, 1) := by decide +kernel
theorem d_JL_charAt_8 : decode b_JL_charAt 8 = .ok (.baload, 1) := by decide +kernel
theorem d_JL_charAt_9 : decode b_JL_charAt 9 = .ok (.sipush 255, 3) := by decide +kernel
theorem d_JL_charAt_12 : decode b_JL_charAt 12 = .ok (.iand, 1) := by decide +kernel
theorem d_JL_charAt_13 : decode b_JL_charAt 13 = .ok (.i2c, 1) := by decide +kernel
theorem d_JL_charAt_14 : decode b_JL_charAt 14 = .ok (.ireturn, 1) := by decide +kernel
theorem ls_JL_9 : ab_ls "java/lang/StringLatin1" 9 y_JS_checkIndex b_JS_checkIndex 2 none 2 := ⟨List.forall_mem_cons.mpr ⟨(ab_in 465 (by decide +kernel) (by decide +kernel)), List.forall_mem_cons.mpr ⟨(ab_in 466 (by decide +kernel) (by decide +kernel)), List.forall_mem_cons.mpr ⟨(ab_in 101 (by decide +kernel) (by decide +kernel)), List.forall_mem_cons.mpr ⟨(ab_in 467 (by decide +kernel) (by decide +kernel)), fun _ h => absurd h List.not_mem_nil⟩⟩⟩⟩, ⟨by decide +kernel, by decide +kernel, by decide +kernel⟩, by decide⟩
theorem c_JL_charAt (u : ab_S) (i j : Nat) (hi : i < 7) (hj : j < ab_sl.getD i 0) : ab_C true l D ca y_JL_charAt b_JL_charAt 2 (some .char) 2 N u [ab_O 24 i, ab_I (nI j)] (fun u' v => u' = u ∧ v = some (ab_I (ab_chr i j))) := by
  refine ab_C.of (by decide) (Nat.le_of_ble_eq_true rfl) ?_
  intro p e s m args below meth c ad X hZ hr0 hlk
  have hlt := ab_sl_lt hi
  refine ab_iload_n X 1 d_JL_charAt_0 rfl rfl ?_
  refine ab_aload_n X 0 d_JL_charAt_1 rfl rfl ?_
  refine ab_stln X (hZ rfl) hi d_JL_charAt_2 ?_
  refine ab_callS (as := [ab_I (nI j), ab_I (nI (ab_sl.getD i 0))]) X (fun _ => hZ rfl) (c_JS_checkIndex u (nI j) (nI (ab_sl.getD i 0)) (nI_pos (Nat.lt_trans hj hlt)) (nI_lt hj hlt)) ls_JL_9 d_JL_charAt_3 rfl rfl ⟨by first | exact Nat.le_of_ble_eq_true rfl | (simp only [ab_rm]; omega), by first | exact Nat.le_of_ble_eq_true rfl | (simp only [ab_rm]; omega)⟩ ⟨by first | exact Nat.le_of_ble_eq_true rfl | (simp only [ab_rm]; omega), by first | exact Nat.le_of_ble_eq_true rfl | (simp only [ab_rm]; omega)⟩ (Nat.le_of_ble_eq_true rfl) (fun u3 r3 h3 => ?_)
  obtain ⟨e3, rfl⟩ := h3
  subst u3
  refine ab_aload_n X 0 d_JL_charAt_6 rfl rfl ?_
  refine ab_iload_n X 1 d_JL_charAt_7 rfl rfl ?_
  refine ab_sbl X (hZ rfl) hi hj d_JL_charAt_8 ?_
  refine ab_sipush (v := 255) X d_JL_charAt_9 (by decide) ?_
  refine ab_iand X d_JL_charAt_12 ?_
  refine ab_i2c X d_JL_charAt_13 ?_
  exact ab_retn X hr0 hlk (ab_chr_n _) d_JL_charAt_14 ⟨rfl, rfl⟩
abbrev b_JS_charAt : ByteArray := prog_18_method_56_code
def y_JS_charAt : MethodName := ⟨"java/lang/String", "charAt", "(I)C"⟩
theorem d_JS_charAt_0 : decode b_JS_charAt 0 = .ok (.aload_n 0, 1) := by decide +kernel
theorem d_JS_charAt_1 : decode b_JS_charAt 1 = .ok (.invokevirtual 492, 3) := by decide +kernel
theorem d_JS_charAt_4 : decode b_JS_charAt 4 = .ok (.ifCond .eq 12, 3) := by decide +kernel
theorem d_JS_charAt_7 : decode b_JS_charAt 7 = .ok (.aload_n 0, 1) := by decide +kernel
theorem d_JS_charAt_8 : decode b_JS_charAt 8 = .ok (.getfield 9, 3) := by decide +kernel
theorem d_JS_charAt_11 : decode b_JS_charAt 11 = .ok (.iload_n 1, 1) := by decide +kernel
theorem d_JS_charAt_12 : decode b_JS_charAt 12 = .ok (.invokestatic 495, 3) := by decide +kernel
theorem d_JS_charAt_15 : decode b_JS_charAt 15 = .ok (.ireturn, 1) := by decide +kernel
theorem d_JS_charAt_16 : decode b_JS_charAt 16 = .ok (.aload_n 0, 1) := by decide +kernel
theorem d_JS_charAt_17 : decode b_JS_charAt 17 = .ok (.getfield 9, 3) := by decide +kernel
theorem d_JS_charAt_20 : decode b_JS_charAt 20 = .ok (.iload_n 1, 1) := by decide +kernel
theorem d_JS_charAt_21 : decode b_JS_charAt 21 = .ok (.invokestatic 498, 3) := by decide +kernel
theorem d_JS_charAt_24 : decode b_JS_charAt 24 = .ok (.ireturn, 1) := by decide +kernel
theorem lq_JS_492 : ab_lq "java/lang/String" 492 y_JS_isLatin1 b_JS_isLatin1 1 (some FieldType.boolean) 0 := ⟨List.forall_mem_cons.mpr ⟨(ab_in 458 (by decide +kernel) (by decide +kernel)), List.forall_mem_cons.mpr ⟨(ab_in 459 (by decide +kernel) (by decide +kernel)), List.forall_mem_cons.mpr ⟨(ab_in 460 (by decide +kernel) (by decide +kernel)), List.forall_mem_cons.mpr ⟨(ab_in 101 (by decide +kernel) (by decide +kernel)), List.forall_mem_cons.mpr ⟨(ab_in 461 (by decide +kernel) (by decide +kernel)), fun _ h => absurd h List.not_mem_nil⟩⟩⟩⟩⟩, ⟨by decide +kernel, by decide +kernel, by decide +kernel⟩, by decide⟩
theorem ls_JS_495 : ab_ls "java/lang/String" 495 y_JL_charAt b_JL_charAt 2 (some FieldType.char) 2 := ⟨List.forall_mem_cons.mpr ⟨(ab_in 462 (by decide +kernel) (by decide +kernel)), List.forall_mem_cons.mpr ⟨(ab_in 463 (by decide +kernel) (by decide +kernel)), List.forall_mem_cons.mpr ⟨(ab_in 102 (by decide +kernel) (by decide +kernel)), List.forall_mem_cons.mpr ⟨(ab_in 464 (by decide +kernel) (by decide +kernel)), fun _ h => absurd h List.not_mem_nil⟩⟩⟩⟩, ⟨by decide +kernel, by decide +kernel, by decide +kernel⟩, by decide⟩
theorem c_JS_charAt (u : ab_S) (i j : Nat) (hi : i < 7) (hj : j < ab_sl.getD i 0) : ab_C true l D ca y_JS_charAt b_JS_charAt 2 (some .char) 3 N u [ab_O 22 i, ab_I (nI j)] (fun u' v => u' = u ∧ v = some (ab_I (ab_chr i j))) := by
  refine ab_C.of (by decide) (Nat.le_of_ble_eq_true rfl) ?_
  intro p e s m args below meth c ad X hZ hr0 hlk
  refine ab_aload_n X 0 d_JS_charAt_0 rfl rfl ?_
  refine ab_callVQ (as := []) X (fun _ => hZ rfl) (c_JS_isLatin1 u i hi) lq_JS_492 d_JS_charAt_1 rfl rfl (ab_srcv (hZ rfl) hi) ⟨by first | exact Nat.le_of_ble_eq_true rfl | (simp only [ab_rm]; omega), by first | exact Nat.le_of_ble_eq_true rfl | (simp only [ab_rm]; omega)⟩ ⟨by first | exact Nat.le_of_ble_eq_true rfl | (simp only [ab_rm]; omega), by first | exact Nat.le_of_ble_eq_true rfl | (simp only [ab_rm]; omega)⟩ (Nat.le_of_ble_eq_true rfl) (fun u1 r1 h1 => ?_)
  obtain ⟨e1, rfl⟩ := h1
  subst u1
  refine ab_if_eq X 16 d_JS_charAt_4 rfl (fun hb => absurd hb ((by decide))) (fun _ => ?_)
  refine ab_aload_n X 0 d_JS_charAt_7 rfl rfl ?_
  refine ab_sval X (hZ rfl) hi (ab_in 1323 (by decide +kernel) (by decide +kernel)) d_JS_charAt_8 ?_
  refine ab_iload_n X 1 d_JS_charAt_11 rfl rfl ?_
  refine ab_callS (as := [ab_O 24 i, ab_I (nI j)]) X (fun _ => hZ rfl) (c_JL_charAt u i j hi hj) ls_JS_495 d_JS_charAt_12 rfl rfl ⟨by first | exact Nat.le_of_ble_eq_true rfl | (simp only [ab_rm]; omega), by first | exact Nat.le_of_ble_eq_true rfl | (simp only [ab_rm]; omega)⟩ ⟨by first | exact Nat.le_of_ble_eq_true rfl | (simp only [ab_rm]; omega), by first | exact Nat.le_of_ble_eq_true rfl | (simp only [ab_rm]; omega)⟩ (Nat.le_of_ble_eq_true rfl) (fun u12 r12 h12 => ?_)
  obtain ⟨e12, rfl⟩ := h12
  subst u12
  exact ab_retn X hr0 hlk (ab_chr_n _) d_JS_charAt_15 ⟨rfl, rfl⟩
end AbCh2
section SaKind
variable {l : Launch} {D : va_G} {ca : Nat → ClassId}
theorem ab_sl6 {i : Nat} (h : i < 7) : ab_sl.getD i 0 ≤ 6 := by
  have h' : i = 0 ∨ i = 1 ∨ i = 2 ∨ i = 3 ∨ i = 4 ∨ i = 5 ∨ i = 6 := by omega
  rcases h' with rfl | rfl | rfl | rfl | rfl | rfl | rfl <;> decide
abbrev b_RD_countSame : ByteArray := prog_6_method_8_code
def y_RD_countSame : MethodName := ⟨"PolicyForge$Reader", "countSame", "(Ljava/lang/String;)I"⟩
theorem d_RD_countSame_0 : decode b_RD_countSame 0 = .ok (.iconst 0, 1) := by decide +kernel
theorem d_RD_countSame_1 : decode b_RD_countSame 1 = .ok (.istore_n 2, 1) := by decide +kernel
theorem d_RD_countSame_2 : decode b_RD_countSame 2 = .ok (.iload_n 2, 1) := by decide +kernel
theorem d_RD_countSame_3 : decode b_RD_countSame 3 = .ok (.aload_n 1, 1) := by decide +kernel
theorem d_RD_countSame_4 : decode b_RD_countSame 4 = .ok (.invokevirtual 83, 3) := by decide +kernel
theorem d_RD_countSame_7 : decode b_RD_countSame 7 = .ok (.if_icmp .ge 41, 3) := by decide +kernel
theorem d_RD_countSame_10 : decode b_RD_countSame 10 = .ok (.aload_n 0, 1) := by decide +kernel
theorem d_RD_countSame_11 : decode b_RD_countSame 11 = .ok (.getfield 30, 3) := by decide +kernel
theorem d_RD_countSame_14 : decode b_RD_countSame 14 = .ok (.iload_n 2, 1) := by decide +kernel
theorem d_RD_countSame_15 : decode b_RD_countSame 15 = .ok (.iadd, 1) := by decide +kernel
theorem d_RD_countSame_16 : decode b_RD_countSame 16 = .ok (.aload_n 0, 1) := by decide +kernel
theorem d_RD_countSame_17 : decode b_RD_countSame 17 = .ok (.getfield 26, 3) := by decide +kernel
theorem d_RD_countSame_20 : decode b_RD_countSame 20 = .ok (.if_icmp .ge 28, 3) := by decide +kernel
theorem d_RD_countSame_23 : decode b_RD_countSame 23 = .ok (.aload_n 0, 1) := by decide +kernel
theorem d_RD_countSame_24 : decode b_RD_countSame 24 = .ok (.getfield 9, 3) := by decide +kernel
theorem d_RD_countSame_27 : decode b_RD_countSame 27 = .ok (.aload_n 0, 1) := by decide +kernel
theorem d_RD_countSame_28 : decode b_RD_countSame 28 = .ok (.getfield 30, 3) := by decide +kernel
theorem d_RD_countSame_31 : decode b_RD_countSame 31 = .ok (.iload_n 2, 1) := by decide +kernel
theorem d_RD_countSame_32 : decode b_RD_countSame 32 = .ok (.iadd, 1) := by decide +kernel
theorem d_RD_countSame_33 : decode b_RD_countSame 33 = .ok (.iaload, 1) := by decide +kernel
theorem d_RD_countSame_34 : decode b_RD_countSame 34 = .ok (.aload_n 1, 1) := by decide +kernel
theorem d_RD_countSame_35 : decode b_RD_countSame 35 = .ok (.iload_n 2, 1) := by decide +kernel
theorem d_RD_countSame_36 : decode b_RD_countSame 36 = .ok (.invokevirtual 107, 3) := by decide +kernel
theorem d_RD_countSame_39 : decode b_RD_countSame 39 = .ok (.if_icmp .ne 9, 3) := by decide +kernel
theorem d_RD_countSame_42 : decode b_RD_countSame 42 = .ok (.iinc 2 1, 3) := by decide +kernel
theorem d_RD_countSame_45 : decode b_RD_countSame 45 = .ok (.goto (-43), 3) := by decide +kernel
theorem d_RD_countSame_48 : decode b_RD_countSame 48 = .ok (.iload_n 2, 1) := by decide +kernel
theorem d_RD_countSame_49 : decode b_RD_countSame 49 = .ok (.ireturn, 1) := by decide +kernel
theorem lq_RD_83 : ab_lq "PolicyForge$Reader" 83 y_JS_length b_JS_length 1 (some FieldType.int) 0 := ⟨List.forall_mem_cons.mpr ⟨(ab_in 444 (by decide +kernel) (by decide +kernel)), List.forall_mem_cons.mpr ⟨(ab_in 445 (by decide +kernel) (by decide +kernel)), List.forall_mem_cons.mpr ⟨(ab_in 446 (by decide +kernel) (by decide +kernel)), List.forall_mem_cons.mpr ⟨(ab_in 101 (by decide +kernel) (by decide +kernel)), List.forall_mem_cons.mpr ⟨(ab_in 447 (by decide +kernel) (by decide +kernel)), fun _ h => absurd h List.not_mem_nil⟩⟩⟩⟩⟩, ⟨by decide +kernel, by decide +kernel, by decide +kernel⟩, by decide⟩
theorem fl_RD_30 : ab_fl "PolicyForge$Reader" 30 1 4 0 := ⟨rfl, R_RD, T_RD, 8, rfl, uw_RD, by decide, rfl, (ab_in 249 (by decide +kernel) (by decide +kernel))⟩
theorem fl_RD_26 : ab_fl "PolicyForge$Reader" 26 1 3 0 := ⟨rfl, R_RD, T_RD, 8, rfl, uw_RD, by decide, rfl, (ab_in 247 (by decide +kernel) (by decide +kernel))⟩
theorem lq_RD_107 : ab_lq "PolicyForge$Reader" 107 y_JS_charAt b_JS_charAt 2 (some FieldType.char) 1 := ⟨List.forall_mem_cons.mpr ⟨(ab_in 454 (by decide +kernel) (by decide +kernel)), List.forall_mem_cons.mpr ⟨(ab_in 455 (by decide +kernel) (by decide +kernel)), List.forall_mem_cons.mpr ⟨(ab_in 456 (by decide +kernel) (by decide +kernel)), List.forall_mem_cons.mpr ⟨(ab_in 101 (by decide +kernel) (by decide +kernel)), List.forall_mem_cons.mpr ⟨(ab_in 457 (by decide +kernel) (by decide +kernel)), fun _ h => absurd h List.not_mem_nil⟩⟩⟩⟩⟩, ⟨by decide +kernel, by decide +kernel, by decide +kernel⟩, by decide⟩
set_option maxRecDepth 100000 in
set_option maxHeartbeats 1000000 in
theorem t_RD_countSame (u : ab_S) (g a L : Nat) (h : CI u) (hg : g < 7) (ha : a ≤ 100) (hL : L ≤ 100) (ea : u.1 1 0 4 = nI a) (eL : u.1 1 0 3 = nI L) : ab_C true l D ca y_RD_countSame b_RD_countSame 3 (some FieldType.int) 4 ab_nQ u [ab_O 1 0, ab_O 22 g] (fun u' v => u' = u ∧ ∃ k, a + k ≤ 100 ∧ v = some (ab_I (nI k))) := by
  refine ab_C.of (by decide) (Nat.le_of_ble_eq_true rfl) ?_
  intro p e s m args below meth c ad X hZ hr0 hlk
  have P0 : cP [1, 2, 10] u u := cQ.rf h
  have l6 := ab_sl6 hg
  have loop : ∀ (k j : Nat), k + j = 7 → a + j ≤ 100 → ab_J p l e (ab_rm 4 0 0) s m args below meth c (MQ below (ab_Q D ca ad ab_nQ s.heap.size (fun u' v => u' = u ∧ ∃ k, a + k ≤ 100 ∧ v = some (ab_I (nI k)))) args s 0 0 (ab_A ad ab_nQ s.heap.size)) D ca (ab_A ad ab_nQ s.heap.size) s.heap 3 0 0 ad ab_nQ u 2 [(2, ab_I (nI j)), (0, ab_O 1 0), (1, ab_O 22 g)] [] := by
    intro k
    induction k with
    | zero =>
      intro j hj ha2
      refine ab_iload_n X 0 d_RD_countSame_2 rfl rfl ?_
      refine ab_aload_n X 2 d_RD_countSame_3 rfl rfl ?_
      refine ab_callVQ (as := []) X (fun _ => hZ rfl) (c_JS_length u g hg) lq_RD_83 d_RD_countSame_4 rfl rfl (ab_srcv (hZ rfl) hg) ⟨by first | exact Nat.le_of_ble_eq_true rfl | (simp only [ab_rm]; omega), by first | exact Nat.le_of_ble_eq_true rfl | (simp only [ab_rm]; omega)⟩ ⟨by first | exact Nat.le_of_ble_eq_true rfl | (simp only [ab_rm]; omega), by first | exact Nat.le_of_ble_eq_true rfl | (simp only [ab_rm]; omega)⟩ (Nat.le_of_ble_eq_true rfl) (fun u4 r4 h4 => ?_)
      obtain ⟨e4, rfl⟩ := h4
      subst u4
      refine ab_icmp_ge X 48 d_RD_countSame_7 rfl (fun _ => ?_) (fun hb => absurd ((nI_le (by omega) (by omega))) hb)
      refine ab_iload_n X 0 d_RD_countSame_48 rfl rfl ?_
      exact ab_reti X hr0 hlk d_RD_countSame_49 ⟨rfl, j, ha2, rfl⟩
    | succ k ih =>
      intro j hj ha2
      refine ab_iload_n X 0 d_RD_countSame_2 rfl rfl ?_
      refine ab_aload_n X 2 d_RD_countSame_3 rfl rfl ?_
      refine ab_callVQ (as := []) X (fun _ => hZ rfl) (c_JS_length u g hg) lq_RD_83 d_RD_countSame_4 rfl rfl (ab_srcv (hZ rfl) hg) ⟨by first | exact Nat.le_of_ble_eq_true rfl | (simp only [ab_rm]; omega), by first | exact Nat.le_of_ble_eq_true rfl | (simp only [ab_rm]; omega)⟩ ⟨by first | exact Nat.le_of_ble_eq_true rfl | (simp only [ab_rm]; omega), by first | exact Nat.le_of_ble_eq_true rfl | (simp only [ab_rm]; omega)⟩ (Nat.le_of_ble_eq_true rfl) (fun u4 r4 h4 => ?_)
      obtain ⟨e4, rfl⟩ := h4
      subst u4
      refine ab_icmp_ge X 48 d_RD_countSame_7 rfl (fun h7 => ?_) (fun h7 => ?_)
      ·
        refine ab_iload_n X 0 d_RD_countSame_48 rfl rfl ?_
        exact ab_reti X hr0 hlk d_RD_countSame_49 ⟨rfl, j, ha2, rfl⟩
      ·
        have hjs := nI_lt_of h7 (by omega)
        refine ab_aload_n X 1 d_RD_countSame_10 rfl rfl ?_
        refine ab_gI X fl_RD_30 d_RD_countSame_11 (by first | assumption | decide | (show _ < 124; omega) | (show _ < 61; omega) | (show _ < 20; omega)) (ea) ?_
        refine ab_iload_n X 0 d_RD_countSame_14 rfl rfl ?_
        refine ab_iadd X d_RD_countSame_15 ?_
        refine ab_top (nI_add a j) ?_
        refine ab_aload_n X 1 d_RD_countSame_16 rfl rfl ?_
        refine ab_gI X fl_RD_26 d_RD_countSame_17 (by first | assumption | decide | (show _ < 124; omega) | (show _ < 61; omega) | (show _ < 20; omega)) (eL) ?_
        refine ab_icmp_ge X 48 d_RD_countSame_20 rfl (fun h20 => ?_) (fun h20 => ?_)
        ·
          refine ab_iload_n X 0 d_RD_countSame_48 rfl rfl ?_
          exact ab_reti X hr0 hlk d_RD_countSame_49 ⟨rfl, j, ha2, rfl⟩
        ·
          have haj := nI_lt_of h20 (by omega)
          refine ab_aload_n X 1 d_RD_countSame_23 rfl rfl ?_
          refine ab_gR X fl_RD_9 d_RD_countSame_24 (by first | assumption | decide | (show _ < 124; omega) | (show _ < 61; omega) | (show _ < 20; omega)) (P0.1.rd0) ?_
          refine ab_aload_n X 1 d_RD_countSame_27 rfl rfl ?_
          refine ab_gI X fl_RD_30 d_RD_countSame_28 (by first | assumption | decide | (show _ < 124; omega) | (show _ < 61; omega) | (show _ < 20; omega)) (ea) ?_
          refine ab_iload_n X 0 d_RD_countSame_31 rfl rfl ?_
          refine ab_iadd X d_RD_countSame_32 ?_
          refine ab_top (nI_add a j) ?_
          refine ab_iald X (a + j) ⟨rfl, rfl⟩ d_RD_countSame_33 (by first | assumption | decide | (show _ < 124; omega) | (show _ < 61; omega) | (show _ < 20; omega)) (rfl) (show a + j < 120 by omega) (ab_ln_lt _ _) ?_
          refine ab_aload_n X 2 d_RD_countSame_34 rfl rfl ?_
          refine ab_iload_n X 0 d_RD_countSame_35 rfl rfl ?_
          refine ab_callVQ (as := [ab_I (nI j)]) X (fun _ => hZ rfl) (c_JS_charAt u g j hg hjs) lq_RD_107 d_RD_countSame_36 rfl rfl (ab_srcv (hZ rfl) hg) ⟨by first | exact Nat.le_of_ble_eq_true rfl | (simp only [ab_rm]; omega), by first | exact Nat.le_of_ble_eq_true rfl | (simp only [ab_rm]; omega)⟩ ⟨by first | exact Nat.le_of_ble_eq_true rfl | (simp only [ab_rm]; omega), by first | exact Nat.le_of_ble_eq_true rfl | (simp only [ab_rm]; omega)⟩ (Nat.le_of_ble_eq_true rfl) (fun u36 r36 h36 => ?_)
          obtain ⟨e36, rfl⟩ := h36
          subst u36
          refine ab_icmp_ne X 48 d_RD_countSame_39 rfl (fun h39 => ?_) (fun h39 => ?_)
          ·
            refine ab_iload_n X 0 d_RD_countSame_48 rfl rfl ?_
            exact ab_reti X hr0 hlk d_RD_countSame_49 ⟨rfl, j, ha2, rfl⟩
          ·
            refine ab_iinc2 X 0 1 2 d_RD_countSame_42 rfl (by decide) rfl rfl rfl rfl ?_
            refine ab_goto X 2 d_RD_countSame_45 rfl ?_
            rw [show nI j + Int32.ofInt 1 = nI (j + 1) from nI_1 j]
            exact ih (j + 1) (by omega) (by omega)
  refine ab_iconst (v := 0) X d_RD_countSame_0 (by decide) ?_
  refine ab_istore_n2 X 0 1 d_RD_countSame_1 rfl (by decide) rfl rfl rfl rfl ?_
  exact loop 7 0 rfl ha
abbrev b_RD_kindHere : ByteArray := prog_6_method_6_code
def y_RD_kindHere : MethodName := ⟨"PolicyForge$Reader", "kindHere", "()I"⟩
theorem d_RD_kindHere_0 : decode b_RD_kindHere 0 = .ok (.iconst 0, 1) := by decide +kernel
theorem d_RD_kindHere_1 : decode b_RD_kindHere 1 = .ok (.istore_n 1, 1) := by decide +kernel
theorem d_RD_kindHere_2 : decode b_RD_kindHere 2 = .ok (.getstatic 72, 3) := by decide +kernel
theorem d_RD_kindHere_5 : decode b_RD_kindHere 5 = .ok (.astore_n 2, 1) := by decide +kernel
theorem d_RD_kindHere_6 : decode b_RD_kindHere 6 = .ok (.aload_n 2, 1) := by decide +kernel
theorem d_RD_kindHere_7 : decode b_RD_kindHere 7 = .ok (.arraylength, 1) := by decide +kernel
theorem d_RD_kindHere_8 : decode b_RD_kindHere 8 = .ok (.istore_n 3, 1) := by decide +kernel
theorem d_RD_kindHere_9 : decode b_RD_kindHere 9 = .ok (.iconst 0, 1) := by decide +kernel
theorem d_RD_kindHere_10 : decode b_RD_kindHere 10 = .ok (.istore 4, 2) := by decide +kernel
theorem d_RD_kindHere_12 : decode b_RD_kindHere 12 = .ok (.iload 4, 2) := by decide +kernel
theorem d_RD_kindHere_14 : decode b_RD_kindHere 14 = .ok (.iload_n 3, 1) := by decide +kernel
theorem d_RD_kindHere_15 : decode b_RD_kindHere 15 = .ok (.if_icmp .ge 61, 3) := by decide +kernel
theorem d_RD_kindHere_18 : decode b_RD_kindHere 18 = .ok (.aload_n 2, 1) := by decide +kernel
theorem d_RD_kindHere_19 : decode b_RD_kindHere 19 = .ok (.iload 4, 2) := by decide +kernel
theorem d_RD_kindHere_21 : decode b_RD_kindHere 21 = .ok (.iaload, 1) := by decide +kernel
theorem d_RD_kindHere_22 : decode b_RD_kindHere 22 = .ok (.istore 5, 2) := by decide +kernel
theorem d_RD_kindHere_24 : decode b_RD_kindHere 24 = .ok (.iload 5, 2) := by decide +kernel
theorem d_RD_kindHere_26 : decode b_RD_kindHere 26 = .ok (.invokestatic 75, 3) := by decide +kernel
theorem d_RD_kindHere_29 : decode b_RD_kindHere 29 = .ok (.astore 6, 2) := by decide +kernel
theorem d_RD_kindHere_31 : decode b_RD_kindHere 31 = .ok (.aload_n 0, 1) := by decide +kernel
theorem d_RD_kindHere_32 : decode b_RD_kindHere 32 = .ok (.aload 6, 2) := by decide +kernel
theorem d_RD_kindHere_34 : decode b_RD_kindHere 34 = .ok (.invokevirtual 79, 3) := by decide +kernel
theorem d_RD_kindHere_37 : decode b_RD_kindHere 37 = .ok (.istore 7, 2) := by decide +kernel
theorem d_RD_kindHere_39 : decode b_RD_kindHere 39 = .ok (.iload 7, 2) := by decide +kernel
theorem d_RD_kindHere_41 : decode b_RD_kindHere 41 = .ok (.aload 6, 2) := by decide +kernel
theorem d_RD_kindHere_43 : decode b_RD_kindHere 43 = .ok (.invokevirtual 83, 3) := by decide +kernel
theorem d_RD_kindHere_46 : decode b_RD_kindHere 46 = .ok (.if_icmp .ne 17, 3) := by decide +kernel
theorem d_RD_kindHere_49 : decode b_RD_kindHere 49 = .ok (.aload_n 0, 1) := by decide +kernel
theorem d_RD_kindHere_50 : decode b_RD_kindHere 50 = .ok (.dup, 1) := by decide +kernel
theorem d_RD_kindHere_51 : decode b_RD_kindHere 51 = .ok (.getfield 30, 3) := by decide +kernel
theorem d_RD_kindHere_54 : decode b_RD_kindHere 54 = .ok (.iload 7, 2) := by decide +kernel
theorem d_RD_kindHere_56 : decode b_RD_kindHere 56 = .ok (.iadd, 1) := by decide +kernel
theorem d_RD_kindHere_57 : decode b_RD_kindHere 57 = .ok (.putfield 30, 3) := by decide +kernel
theorem d_RD_kindHere_60 : decode b_RD_kindHere 60 = .ok (.iload 5, 2) := by decide +kernel
theorem d_RD_kindHere_62 : decode b_RD_kindHere 62 = .ok (.ireturn, 1) := by decide +kernel
theorem d_RD_kindHere_63 : decode b_RD_kindHere 63 = .ok (.iload_n 1, 1) := by decide +kernel
theorem d_RD_kindHere_64 : decode b_RD_kindHere 64 = .ok (.iload 7, 2) := by decide +kernel
theorem d_RD_kindHere_66 : decode b_RD_kindHere 66 = .ok (.invokestatic 87, 3) := by decide +kernel
theorem d_RD_kindHere_69 : decode b_RD_kindHere 69 = .ok (.istore_n 1, 1) := by decide +kernel
theorem d_RD_kindHere_70 : decode b_RD_kindHere 70 = .ok (.iinc 4 1, 3) := by decide +kernel
theorem d_RD_kindHere_73 : decode b_RD_kindHere 73 = .ok (.goto (-61), 3) := by decide +kernel
theorem d_RD_kindHere_76 : decode b_RD_kindHere 76 = .ok (.aload_n 0, 1) := by decide +kernel
theorem d_RD_kindHere_77 : decode b_RD_kindHere 77 = .ok (.aload_n 0, 1) := by decide +kernel
theorem d_RD_kindHere_78 : decode b_RD_kindHere 78 = .ok (.getfield 30, 3) := by decide +kernel
theorem d_RD_kindHere_81 : decode b_RD_kindHere 81 = .ok (.iload_n 1, 1) := by decide +kernel
theorem d_RD_kindHere_82 : decode b_RD_kindHere 82 = .ok (.iadd, 1) := by decide +kernel
theorem d_RD_kindHere_83 : decode b_RD_kindHere 83 = .ok (.invokevirtual 46, 3) := by decide +kernel
theorem d_RD_kindHere_86 : decode b_RD_kindHere 86 = .ok (.pop, 1) := by decide +kernel
theorem d_RD_kindHere_87 : decode b_RD_kindHere 87 = .ok (.iconst 0, 1) := by decide +kernel
theorem d_RD_kindHere_88 : decode b_RD_kindHere 88 = .ok (.ireturn, 1) := by decide +kernel
theorem ls_RD_75 : ab_ls "PolicyForge$Reader" 75 y_RD_nameOf b_RD_nameOf 1 (some (FieldType.object "java/lang/String")) 1 := ⟨List.forall_mem_cons.mpr ⟨(ab_in 430 (by decide +kernel) (by decide +kernel)), List.forall_mem_cons.mpr ⟨(ab_in 431 (by decide +kernel) (by decide +kernel)), List.forall_mem_cons.mpr ⟨(ab_in 93 (by decide +kernel) (by decide +kernel)), List.forall_mem_cons.mpr ⟨(ab_in 432 (by decide +kernel) (by decide +kernel)), fun _ h => absurd h List.not_mem_nil⟩⟩⟩⟩, ⟨by decide +kernel, by decide +kernel, by decide +kernel⟩, by decide⟩
theorem lk_RD_79 : ab_lk "PolicyForge$Reader" 79 y_RD_countSame b_RD_countSame 3 (some FieldType.int) 1 1 := ⟨⟨rfl, T_RD, 8, rfl⟩, List.forall_mem_cons.mpr ⟨(ab_in 440 (by decide +kernel) (by decide +kernel)), List.forall_mem_cons.mpr ⟨(ab_in 442 (by decide +kernel) (by decide +kernel)), List.forall_mem_cons.mpr ⟨(ab_in 3 (by decide +kernel) (by decide +kernel)), List.forall_mem_cons.mpr ⟨(ab_in 93 (by decide +kernel) (by decide +kernel)), List.forall_mem_cons.mpr ⟨(ab_in 443 (by decide +kernel) (by decide +kernel)), fun _ h => absurd h List.not_mem_nil⟩⟩⟩⟩⟩, ⟨by decide +kernel, by decide +kernel, by decide +kernel⟩, by decide⟩
theorem ls_RD_87 : ab_ls "PolicyForge$Reader" 87 y_JM_max b_JM_max 2 (some FieldType.int) 2 := ⟨List.forall_mem_cons.mpr ⟨(ab_in 492 (by decide +kernel) (by decide +kernel)), List.forall_mem_cons.mpr ⟨(ab_in 493 (by decide +kernel) (by decide +kernel)), List.forall_mem_cons.mpr ⟨(ab_in 105 (by decide +kernel) (by decide +kernel)), List.forall_mem_cons.mpr ⟨(ab_in 494 (by decide +kernel) (by decide +kernel)), fun _ h => absurd h List.not_mem_nil⟩⟩⟩⟩, ⟨by decide +kernel, by decide +kernel, by decide +kernel⟩, by decide⟩
theorem lk_RD_46 : ab_lk "PolicyForge$Reader" 46 y_RD_refuse b_RD_refuse 2 (some FieldType.boolean) 1 1 := ⟨⟨rfl, T_RD, 8, rfl⟩, List.forall_mem_cons.mpr ⟨(ab_in 420 (by decide +kernel) (by decide +kernel)), List.forall_mem_cons.mpr ⟨(ab_in 422 (by decide +kernel) (by decide +kernel)), List.forall_mem_cons.mpr ⟨(ab_in 1 (by decide +kernel) (by decide +kernel)), List.forall_mem_cons.mpr ⟨(ab_in 93 (by decide +kernel) (by decide +kernel)), List.forall_mem_cons.mpr ⟨(ab_in 423 (by decide +kernel) (by decide +kernel)), fun _ h => absurd h List.not_mem_nil⟩⟩⟩⟩⟩, ⟨by decide +kernel, by decide +kernel, by decide +kernel⟩, by decide⟩
set_option maxRecDepth 100000 in
set_option maxHeartbeats 1000000 in
theorem s_RD_kindHere (u : ab_S) (h : CI u) : ab_C true l D ca y_RD_kindHere b_RD_kindHere 8 (some FieldType.int) 5 ab_nQ u [ab_O 1 0] (fun u' v => cP [1, 2, 10] u u' ∧ ∃ x : Int32, v = some (ab_I x)) := by
  refine ab_C.of (by decide) (Nat.le_of_ble_eq_true rfl) ?_
  intro p e s m args below meth c ad X hZ hr0 hlk
  have P0 : cP [1, 2, 10] u u := cQ.rf h
  obtain ⟨⟨L, hL, eL⟩, ⟨a, ha, ea⟩, -⟩ := h.rd
  have loop : ∀ (n j : Nat) (y : Int32), j + n = 7 → ab_J p l e (ab_rm 5 0 0) s m args below meth c (MQ below (ab_Q D ca ad ab_nQ s.heap.size (fun u' v => cP [1, 2, 10] u u' ∧ ∃ x : Int32, v = some (ab_I x))) args s 0 0 (ab_A ad ab_nQ s.heap.size)) D ca (ab_A ad ab_nQ s.heap.size) s.heap 8 0 0 ad ab_nQ u 12 [(4, ab_I (nI j)), (3, ab_I 7), (2, ab_O 21 0), (1, ab_I y), (0, ab_O 1 0)] [] := by
    intro n
    induction n with
    | zero =>
      intro j y hj
      obtain rfl : j = 7 := by omega
      refine ab_iload X 0 d_RD_kindHere_12 rfl ?_
      refine ab_iload_n X 1 d_RD_kindHere_14 rfl rfl ?_
      refine ab_icmp_ge X 76 d_RD_kindHere_15 rfl (fun _ => ?_) (fun hb => absurd ((by decide)) hb)
      refine ab_aload_n X 4 d_RD_kindHere_76 rfl rfl ?_
      refine ab_aload_n X 4 d_RD_kindHere_77 rfl rfl ?_
      refine ab_gI X fl_RD_30 d_RD_kindHere_78 (by first | assumption | decide | (show _ < 124; omega) | (show _ < 61; omega) | (show _ < 20; omega)) (rfl) ?_
      refine ab_iload_n X 3 d_RD_kindHere_81 rfl rfl ?_
      refine ab_iadd X d_RD_kindHere_82 ?_
      refine ab_callV (as := [ab_I _]) X (fun h => by cases h) (s_RD_refuse u _ h) lk_RD_46 d_RD_kindHere_83 rfl rfl (by first | assumption | decide | (show _ < 124; omega) | (show _ < 61; omega) | (show _ < 20; omega)) ⟨by first | exact Nat.le_of_ble_eq_true rfl | (simp only [ab_rm]; omega), by first | exact Nat.le_of_ble_eq_true rfl | (simp only [ab_rm]; omega)⟩ ⟨by first | exact Nat.le_of_ble_eq_true rfl | (simp only [ab_rm]; omega), by first | exact Nat.le_of_ble_eq_true rfl | (simp only [ab_rm]; omega)⟩ (Nat.le_of_ble_eq_true rfl) (fun u83 r83 h83 => ?_)
      obtain ⟨q83, b83, hb83, rfl⟩ := h83
      have P83 := P0.trans q83 (by decide)
      refine ab_pop X d_RD_kindHere_86 rfl ?_
      refine ab_iconst (v := 0) X d_RD_kindHere_87 (by decide) ?_
      exact ab_reti X hr0 hlk d_RD_kindHere_88 ⟨P83, _, rfl⟩
    | succ n ih =>
      intro j y hj
      have hj7 : j < 7 := by omega
      refine ab_iload X 0 d_RD_kindHere_12 rfl ?_
      refine ab_iload_n X 1 d_RD_kindHere_14 rfl rfl ?_
      refine ab_icmp_ge X 76 d_RD_kindHere_15 rfl (fun hb => absurd hb ((nI_ge (b := 7) hj7 (by decide)))) (fun _ => ?_)
      refine ab_aload_n X 2 d_RD_kindHere_18 rfl rfl ?_
      refine ab_iload X 0 d_RD_kindHere_19 rfl ?_
      refine ab_kld X (hZ rfl) rfl j d_RD_kindHere_21 rfl hj7 ?_
      refine ab_istore5 X 0 1 2 3 4 d_RD_kindHere_22 (by decide) rfl rfl rfl rfl rfl rfl rfl rfl rfl rfl ?_
      refine ab_iload X 0 d_RD_kindHere_24 rfl ?_
      refine ab_callS (as := [ab_I (ab_kinds j)]) X (fun _ => hZ rfl) (c_RD_nameOf u j hj7) ls_RD_75 d_RD_kindHere_26 rfl rfl ⟨by first | exact Nat.le_of_ble_eq_true rfl | (simp only [ab_rm]; omega), by first | exact Nat.le_of_ble_eq_true rfl | (simp only [ab_rm]; omega)⟩ ⟨by first | exact Nat.le_of_ble_eq_true rfl | (simp only [ab_rm]; omega), by first | exact Nat.le_of_ble_eq_true rfl | (simp only [ab_rm]; omega)⟩ (Nat.le_of_ble_eq_true rfl) (fun u26 r26 h26 => ?_)
      obtain ⟨e26, rfl⟩ := h26
      subst u26
      refine ab_astore6 X 0 1 2 3 4 5 d_RD_kindHere_29 (by decide) rfl rfl rfl rfl rfl rfl rfl rfl rfl rfl rfl rfl ?_
      refine ab_aload_n X 6 d_RD_kindHere_31 rfl rfl ?_
      refine ab_aload X 0 d_RD_kindHere_32 rfl ?_
      refine ab_callV (as := [ab_O 22 j]) X (fun _ => hZ rfl) (t_RD_countSame u j a L h hj7 ha hL ea eL) lk_RD_79 d_RD_kindHere_34 rfl rfl (by first | assumption | decide | (show _ < 124; omega) | (show _ < 61; omega) | (show _ < 20; omega)) ⟨by first | exact Nat.le_of_ble_eq_true rfl | (simp only [ab_rm]; omega), by first | exact Nat.le_of_ble_eq_true rfl | (simp only [ab_rm]; omega)⟩ ⟨by first | exact Nat.le_of_ble_eq_true rfl | (simp only [ab_rm]; omega), by first | exact Nat.le_of_ble_eq_true rfl | (simp only [ab_rm]; omega)⟩ (Nat.le_of_ble_eq_true rfl) (fun u34 r34 h34 => ?_)
      obtain ⟨e34, k34, hk34, rfl⟩ := h34
      subst u34
      refine ab_istore7 X 0 1 2 3 4 5 6 d_RD_kindHere_37 (by decide) rfl rfl rfl rfl rfl rfl rfl rfl rfl rfl rfl rfl rfl rfl ?_
      refine ab_iload X 0 d_RD_kindHere_39 rfl ?_
      refine ab_aload X 1 d_RD_kindHere_41 rfl ?_
      refine ab_callVQ (as := []) X (fun _ => hZ rfl) (c_JS_length u j hj7) lq_RD_83 d_RD_kindHere_43 rfl rfl (ab_srcv (hZ rfl) hj7) ⟨by first | exact Nat.le_of_ble_eq_true rfl | (simp only [ab_rm]; omega), by first | exact Nat.le_of_ble_eq_true rfl | (simp only [ab_rm]; omega)⟩ ⟨by first | exact Nat.le_of_ble_eq_true rfl | (simp only [ab_rm]; omega), by first | exact Nat.le_of_ble_eq_true rfl | (simp only [ab_rm]; omega)⟩ (Nat.le_of_ble_eq_true rfl) (fun u43 r43 h43 => ?_)
      obtain ⟨e43, rfl⟩ := h43
      subst u43
      refine ab_icmp_ne X 63 d_RD_kindHere_46 rfl (fun h46 => ?_) (fun h46 => ?_)
      ·
        refine ab_iload_n X 6 d_RD_kindHere_63 rfl rfl ?_
        refine ab_iload X 0 d_RD_kindHere_64 rfl ?_
        refine ab_mmax X mm_RD_87 ⟨Nat.le_of_ble_eq_true rfl, Nat.le_of_ble_eq_true rfl⟩ ⟨Nat.le_of_ble_eq_true rfl, Nat.le_of_ble_eq_true rfl⟩ (Nat.le_of_ble_eq_true rfl) d_RD_kindHere_66 ?_
        refine ab_istore_n7 X 0 1 2 3 4 5 7 d_RD_kindHere_69 rfl (by decide) rfl rfl rfl rfl rfl rfl rfl rfl rfl rfl rfl rfl rfl rfl ?_
        refine ab_iinc7 X 4 0 1 2 3 5 6 7 d_RD_kindHere_70 rfl (by decide) rfl rfl rfl rfl rfl rfl rfl rfl rfl rfl rfl rfl rfl rfl ?_
        refine ab_goto X 12 d_RD_kindHere_73 rfl ?_
        refine ab_lv (List.forall_mem_cons.mpr ⟨List.mem_of_getElem? (i := 0) rfl, List.forall_mem_cons.mpr ⟨List.mem_of_getElem? (i := 5) rfl, List.forall_mem_cons.mpr ⟨List.mem_of_getElem? (i := 6) rfl, List.forall_mem_cons.mpr ⟨List.mem_of_getElem? (i := 1) rfl, List.forall_mem_cons.mpr ⟨List.mem_of_getElem? (i := 7) rfl, fun _ h => absurd h List.not_mem_nil⟩⟩⟩⟩⟩) ?_
        rw [show nI j + Int32.ofInt 1 = nI (j + 1) from nI_1 j]
        exact ih (j + 1) _ (by omega)
      ·
        refine ab_aload_n X 7 d_RD_kindHere_49 rfl rfl ?_
        refine ab_dup X d_RD_kindHere_50 rfl ?_
        refine ab_gI X fl_RD_30 d_RD_kindHere_51 (by first | assumption | decide | (show _ < 124; omega) | (show _ < 61; omega) | (show _ < 20; omega)) (ea) ?_
        refine ab_iload X 0 d_RD_kindHere_54 rfl ?_
        refine ab_iadd X d_RD_kindHere_56 ?_
        refine ab_top (nI_add a k34) ?_
        refine ab_putI X fp_RD_30 d_RD_kindHere_57 (by first | assumption | decide | (show _ < 124; omega) | (show _ < 61; omega) | (show _ < 20; omega)) rfl rfl ?_
        refine ab_gen (fun u57 e57 => ?_)
        have P57 : cP [1, 2, 10] u u57 := by rw [e57]; exact P0.at (by decide) hk34
        refine ab_iload X 2 d_RD_kindHere_60 rfl ?_
        exact ab_reti X hr0 hlk d_RD_kindHere_62 ⟨P57, _, rfl⟩
  refine ab_iconst (v := 0) X d_RD_kindHere_0 (by decide) ?_
  refine ab_istore_n1 X 0 d_RD_kindHere_1 rfl (by decide) rfl rfl ?_
  refine ab_kget (host := "PolicyForge") X (hZ rfl) rfl (List.mem_filter.mpr ⟨List.mem_of_getElem? (i := 428) (by decide +kernel), by decide +kernel⟩) d_RD_kindHere_2 ?_
  refine ab_astore_n2 X 0 1 d_RD_kindHere_5 rfl (by decide) rfl rfl rfl rfl ?_
  refine ab_aload_n X 0 d_RD_kindHere_6 rfl rfl ?_
  refine ab_klen X (hZ rfl) rfl d_RD_kindHere_7 ?_
  refine ab_istore_n3 X 0 1 2 d_RD_kindHere_8 rfl (by decide) rfl rfl rfl rfl rfl rfl ?_
  refine ab_iconst (v := 0) X d_RD_kindHere_9 (by decide) ?_
  refine ab_istore4 X 0 1 2 3 d_RD_kindHere_10 (by decide) rfl rfl rfl rfl rfl rfl rfl rfl ?_
  exact loop 7 0 _ rfl
end SaKind

