/-! Constructors of Script, Facts, Machine, Reader. -/
abbrev b_SC_init : ByteArray := prog_8_method_1_code
def y_SC_init : MethodName := ⟨"PolicyForge$Script", "<init>", "()V"⟩
theorem d_SC_init_0 : decode b_SC_init 0 = .ok (.aload_n 0, 1) := by decide +kernel
theorem d_SC_init_1 : decode b_SC_init 1 = .ok (.invokespecial 3, 3) := by decide +kernel
theorem d_SC_init_4 : decode b_SC_init 4 = .ok (.aload_n 0, 1) := by decide +kernel
theorem d_SC_init_5 : decode b_SC_init 5 = .ok (.sipush 128, 3) := by decide +kernel
theorem d_SC_init_8 : decode b_SC_init 8 = .ok (.newarray .int, 2) := by decide +kernel
theorem d_SC_init_10 : decode b_SC_init 10 = .ok (.putfield 9, 3) := by decide +kernel
theorem d_SC_init_13 : decode b_SC_init 13 = .ok (.aload_n 0, 1) := by decide +kernel
theorem d_SC_init_14 : decode b_SC_init 14 = .ok (.bipush 38, 2) := by decide +kernel
theorem d_SC_init_16 : decode b_SC_init 16 = .ok (.anewarray 15, 3) := by decide +kernel
theorem d_SC_init_19 : decode b_SC_init 19 = .ok (.putfield 17, 3) := by decide +kernel
theorem d_SC_init_22 : decode b_SC_init 22 = .ok (.aload_n 0, 1) := by decide +kernel
theorem d_SC_init_23 : decode b_SC_init 23 = .ok (.iconst 0, 1) := by decide +kernel
theorem d_SC_init_24 : decode b_SC_init 24 = .ok (.putfield 21, 3) := by decide +kernel
theorem d_SC_init_27 : decode b_SC_init 27 = .ok (.aload_n 0, 1) := by decide +kernel
theorem d_SC_init_28 : decode b_SC_init 28 = .ok (.iconst 0, 1) := by decide +kernel
theorem d_SC_init_29 : decode b_SC_init 29 = .ok (.putfield 25, 3) := by decide +kernel
theorem d_SC_init_32 : decode b_SC_init 32 = .ok (.return_, 1) := by decide +kernel
theorem oi_SC_3 : ∀ w ∈ ([.methodLink "PolicyForge$Script" 3 objectInit, .instanceMethod objectInit, .code objectInit ⟨#[0xb1]⟩ 1 none] : List Cond), w ∈ ab_T := List.forall_mem_cons.mpr ⟨(ab_in 282 (by decide +kernel) (by decide +kernel)), List.forall_mem_cons.mpr ⟨(ab_in 120 (by decide +kernel) (by decide +kernel)), List.forall_mem_cons.mpr ⟨(ab_in 121 (by decide +kernel) (by decide +kernel)), fun _ h => absurd h List.not_mem_nil⟩⟩⟩
theorem uw_SC : ∀ w ∈ u_ws R_SC T_SC 4, w ∈ ab_T := fun w h => List.mem_filter.mpr ⟨by have h2 := h; revert w; decide +kernel, by revert w; decide +kernel⟩
theorem fF_SC_9 : ab_fF "PolicyForge$Script" 9 5 0 1 (t_SC 0) := ⟨rfl, R_SC, T_SC, 4, t_SC, rfl, uw_SC, by decide, rfl, (ab_in 284 (by decide +kernel) (by decide +kernel)), t_SC_ok, n_SC, rfl, rfl, rfl⟩
theorem fF_SC_17 : ab_fF "PolicyForge$Script" 17 5 1 1 (t_SC 1) := ⟨rfl, R_SC, T_SC, 4, t_SC, rfl, uw_SC, by decide, rfl, (ab_in 287 (by decide +kernel) (by decide +kernel)), t_SC_ok, n_SC, rfl, rfl, rfl⟩
theorem fp_SC_21 : ab_fp "PolicyForge$Script" 21 5 2 0 .int := ⟨rfl, R_SC, T_SC, 4, t_SC, rfl, uw_SC, by decide, rfl, (ab_in 289 (by decide +kernel) (by decide +kernel)), t_SC_ok, n_SC, rfl, rfl⟩
theorem fp_SC_25 : ab_fp "PolicyForge$Script" 25 5 3 0 .int := ⟨rfl, R_SC, T_SC, 4, t_SC, rfl, uw_SC, by decide, rfl, (ab_in 292 (by decide +kernel) (by decide +kernel)), t_SC_ok, n_SC, rfl, rfl⟩
set_option maxRecDepth 100000 in
set_option maxHeartbeats 4000000 in
theorem c_SC_init {l : Launch} {D : va_G} {ca : Nat → ClassId} {N : Nat → Nat} (u : ab_S) (i0 : Nat) (hi : i0 < N 5) (hG : ab_G N u) (h0 : ∀ k, u.1 5 i0 k = 0) : ab_CA l D ca y_SC_init b_SC_init 1 1 2 166 N u [ab_O 5 i0] (ab_nx (ab_nx N 13) 14) (fun u' => u' = ab_ur (ab_ur u 5 i0 0 (some (13, N 13))) 5 i0 1 (some (14, N 14))) := by
  refine ab_CA.of (by decide) rfl (Nat.le_of_ble_eq_true rfl) ?_
  intro p e s m args below meth c ad X hr0 hlk hin
  refine ab_aload_n X 0 d_SC_init_0 rfl rfl ?_
  refine ab_objInit X oi_SC_3 d_SC_init_1 ⟨by first | exact Nat.le_of_ble_eq_true rfl | (simp only [ab_rm]; omega), by first | exact Nat.le_of_ble_eq_true rfl | (simp only [ab_rm]; omega)⟩ (Nat.le_of_ble_eq_true rfl) ?_
  refine ab_aload_n X 0 d_SC_init_4 rfl rfl ?_
  refine ab_sipush (v := 128) X d_SC_init_5 (by decide) ?_
  refine ab_newa (c' := 13) X rfl (ab_in 171 (by decide +kernel) (by decide +kernel)) (Or.inl ⟨rfl, Or.inl rfl⟩) (fun _ => rfl) d_SC_init_8 (rfl) (ab_ln_le _ _) (by decide) (hG) (by (repeat' (first | (intro q hq; exact absurd hq (List.not_mem_nil)) | refine List.forall_mem_cons.mpr ⟨?_, ?_⟩)) <;> (first | trivial | (refine Or.inl ?_; first | assumption | exact Nat.le_of_ble_eq_true rfl | exact Nat.lt_succ_self _ | (simp [ab_nx]; done) | (simp [ab_nx]; omega)))) (by (repeat' (first | (intro q hq; exact absurd hq (List.not_mem_nil)) | refine List.forall_mem_cons.mpr ⟨?_, ?_⟩)) <;> (first | trivial | (refine Or.inl ?_; first | assumption | exact Nat.le_of_ble_eq_true rfl | exact Nat.lt_succ_self _ | (simp [ab_nx]; done) | (simp [ab_nx]; omega)))) ⟨by first | exact Nat.le_of_ble_eq_true rfl | (simp only [ab_rm]; omega), by first | exact Nat.le_of_ble_eq_true rfl | (simp only [ab_rm]; omega)⟩ (fun ad8 x8 => ?_)
  refine ab_widen (k := 1) (n := 128) (Nat.le_of_ble_eq_true rfl) (Nat.le_of_ble_eq_true rfl) ?_
  refine ab_putFR X fF_SC_9 (by first | exact Or.inl ⟨_, rfl⟩ | exact Or.inr ⟨_, rfl⟩) hin d_SC_init_10 hi ?_
  refine ab_aload_n X 0 d_SC_init_13 rfl rfl ?_
  have hG1 : ab_G (ab_nx N 13) (ab_ur u 5 i0 0 (some (13, N 13))) := (hG.more (ab_nx_le N 13)).ur (c := 5) (i := i0) (k := 0) (r := some (13, N 13)) hi (Or.inl (Nat.lt_succ_self _))
  refine ab_bipush (v := 38) X d_SC_init_14 (by decide) ?_
  refine ab_newq (c' := 14) X rfl ⟨(ab_in 283 (by decide +kernel) (by decide +kernel)), (List.mem_filter.mpr ⟨List.mem_of_getElem? (i := 143) (by decide +kernel), by decide +kernel⟩)⟩ (fun _ => rfl) d_SC_init_16 (rfl) (ab_ln_le _ _) (by decide) (hG1) (by (repeat' (first | (intro q hq; exact absurd hq (List.not_mem_nil)) | refine List.forall_mem_cons.mpr ⟨?_, ?_⟩)) <;> (first | trivial | (refine Or.inl ?_; first | assumption | exact Nat.le_of_ble_eq_true rfl | exact Nat.lt_succ_self _ | (simp [ab_nx]; done) | (simp [ab_nx]; omega)))) (by (repeat' (first | (intro q hq; exact absurd hq (List.not_mem_nil)) | refine List.forall_mem_cons.mpr ⟨?_, ?_⟩)) <;> (first | trivial | (refine Or.inl ?_; first | assumption | exact Nat.le_of_ble_eq_true rfl | exact Nat.lt_succ_self _ | (simp [ab_nx]; done) | (simp [ab_nx]; omega)))) ⟨by first | exact Nat.le_of_ble_eq_true rfl | (simp only [ab_rm]; omega), by first | exact Nat.le_of_ble_eq_true rfl | (simp only [ab_rm]; omega)⟩ (fun ad16 x16 => ?_)
  refine ab_widen (k := 2) (n := 166) (Nat.le_of_ble_eq_true rfl) (Nat.le_of_ble_eq_true rfl) ?_
  refine ab_putFR X fF_SC_17 (by first | exact Or.inl ⟨_, rfl⟩ | exact Or.inr ⟨_, rfl⟩) hin d_SC_init_19 hi ?_
  refine ab_aload_n X 0 d_SC_init_22 rfl rfl ?_
  refine ab_iconst (v := 0) X d_SC_init_23 (by decide) ?_
  refine ab_putI X fp_SC_21 d_SC_init_24 hi rfl rfl ?_
  refine ab_u (ab_ui_same (h0 2)) ?_
  refine ab_aload_n X 0 d_SC_init_27 rfl rfl ?_
  refine ab_iconst (v := 0) X d_SC_init_28 (by decide) ?_
  refine ab_putI X fp_SC_25 d_SC_init_29 hi rfl rfl ?_
  refine ab_u (ab_ui_same (h0 3)) ?_
  exact ab_retA X hr0 hlk (ab_ex.trans x8 (ab_nx_le N 13) x16) d_SC_init_32 rfl
abbrev b_FA_init : ByteArray := prog_2_method_1_code
def y_FA_init : MethodName := ⟨"PolicyForge$Facts", "<init>", "()V"⟩
theorem d_FA_init_0 : decode b_FA_init 0 = .ok (.aload_n 0, 1) := by decide +kernel
theorem d_FA_init_1 : decode b_FA_init 1 = .ok (.invokespecial 3, 3) := by decide +kernel
theorem d_FA_init_4 : decode b_FA_init 4 = .ok (.aload_n 0, 1) := by decide +kernel
theorem d_FA_init_5 : decode b_FA_init 5 = .ok (.iconst 0, 1) := by decide +kernel
theorem d_FA_init_6 : decode b_FA_init 6 = .ok (.putfield 9, 3) := by decide +kernel
theorem d_FA_init_9 : decode b_FA_init 9 = .ok (.aload_n 0, 1) := by decide +kernel
theorem d_FA_init_10 : decode b_FA_init 10 = .ok (.iconst 0, 1) := by decide +kernel
theorem d_FA_init_11 : decode b_FA_init 11 = .ok (.putfield 15, 3) := by decide +kernel
theorem d_FA_init_14 : decode b_FA_init 14 = .ok (.aload_n 0, 1) := by decide +kernel
theorem d_FA_init_15 : decode b_FA_init 15 = .ok (.iconst 0, 1) := by decide +kernel
theorem d_FA_init_16 : decode b_FA_init 16 = .ok (.putfield 18, 3) := by decide +kernel
theorem d_FA_init_19 : decode b_FA_init 19 = .ok (.aload_n 0, 1) := by decide +kernel
theorem d_FA_init_20 : decode b_FA_init 20 = .ok (.iconst 0, 1) := by decide +kernel
theorem d_FA_init_21 : decode b_FA_init 21 = .ok (.putfield 21, 3) := by decide +kernel
theorem d_FA_init_24 : decode b_FA_init 24 = .ok (.return_, 1) := by decide +kernel
theorem oi_FA_3 : ∀ w ∈ ([.methodLink "PolicyForge$Facts" 3 objectInit, .instanceMethod objectInit, .code objectInit ⟨#[0xb1]⟩ 1 none] : List Cond), w ∈ ab_T := List.forall_mem_cons.mpr ⟨(ab_in 308 (by decide +kernel) (by decide +kernel)), List.forall_mem_cons.mpr ⟨(ab_in 120 (by decide +kernel) (by decide +kernel)), List.forall_mem_cons.mpr ⟨(ab_in 121 (by decide +kernel) (by decide +kernel)), fun _ h => absurd h List.not_mem_nil⟩⟩⟩
theorem uw_FA : ∀ w ∈ u_ws R_FA T_FA 4, w ∈ ab_T := fun w h => List.mem_filter.mpr ⟨by have h2 := h; revert w; decide +kernel, by revert w; decide +kernel⟩
theorem fp_FA_9 : ab_fp "PolicyForge$Facts" 9 6 0 0 .int := ⟨rfl, R_FA, T_FA, 4, t_FA, rfl, uw_FA, by decide, rfl, (ab_in 309 (by decide +kernel) (by decide +kernel)), t_FA_ok, n_FA, rfl, rfl⟩
theorem fp_FA_15 : ab_fp "PolicyForge$Facts" 15 6 1 0 .int := ⟨rfl, R_FA, T_FA, 4, t_FA, rfl, uw_FA, by decide, rfl, (ab_in 310 (by decide +kernel) (by decide +kernel)), t_FA_ok, n_FA, rfl, rfl⟩
theorem fp_FA_18 : ab_fp "PolicyForge$Facts" 18 6 2 0 .int := ⟨rfl, R_FA, T_FA, 4, t_FA, rfl, uw_FA, by decide, rfl, (ab_in 311 (by decide +kernel) (by decide +kernel)), t_FA_ok, n_FA, rfl, rfl⟩
theorem fp_FA_21 : ab_fp "PolicyForge$Facts" 21 6 3 0 .int := ⟨rfl, R_FA, T_FA, 4, t_FA, rfl, uw_FA, by decide, rfl, (ab_in 312 (by decide +kernel) (by decide +kernel)), t_FA_ok, n_FA, rfl, rfl⟩
set_option maxRecDepth 100000 in
set_option maxHeartbeats 4000000 in
theorem c_FA_init {l : Launch} {D : va_G} {ca : Nat → ClassId} {N : Nat → Nat} (u : ab_S) (i0 : Nat) (hi : i0 < N 6) (h0 : ∀ k, u.1 6 i0 k = 0) : ab_CA l D ca y_FA_init b_FA_init 1 1 0 0 N u [ab_O 6 i0] N (fun u' => u' = u) := by
  refine ab_CA.of (by decide) rfl (Nat.le_of_ble_eq_true rfl) ?_
  intro p e s m args below meth c ad X hr0 hlk hin
  refine ab_aload_n X 0 d_FA_init_0 rfl rfl ?_
  refine ab_objInit X oi_FA_3 d_FA_init_1 ⟨by first | exact Nat.le_of_ble_eq_true rfl | (simp only [ab_rm]; omega), by first | exact Nat.le_of_ble_eq_true rfl | (simp only [ab_rm]; omega)⟩ (Nat.le_of_ble_eq_true rfl) ?_
  refine ab_aload_n X 0 d_FA_init_4 rfl rfl ?_
  refine ab_iconst (v := 0) X d_FA_init_5 (by decide) ?_
  refine ab_putI X fp_FA_9 d_FA_init_6 (by first | assumption | decide) rfl rfl ?_
  refine ab_u (ab_ui_same (h0 0)) ?_
  refine ab_aload_n X 0 d_FA_init_9 rfl rfl ?_
  refine ab_iconst (v := 0) X d_FA_init_10 (by decide) ?_
  refine ab_putI X fp_FA_15 d_FA_init_11 (by first | assumption | decide) rfl rfl ?_
  refine ab_u (ab_ui_same (h0 1)) ?_
  refine ab_aload_n X 0 d_FA_init_14 rfl rfl ?_
  refine ab_iconst (v := 0) X d_FA_init_15 (by decide) ?_
  refine ab_putI X fp_FA_18 d_FA_init_16 (by first | assumption | decide) rfl rfl ?_
  refine ab_u (ab_ui_same (h0 2)) ?_
  refine ab_aload_n X 0 d_FA_init_19 rfl rfl ?_
  refine ab_iconst (v := 0) X d_FA_init_20 (by decide) ?_
  refine ab_putI X fp_FA_21 d_FA_init_21 (by first | assumption | decide) rfl rfl ?_
  refine ab_u (ab_ui_same (h0 3)) ?_
  exact ab_retA X hr0 hlk ab_ex.rf d_FA_init_24 rfl
abbrev b_MA_init : ByteArray := prog_4_method_1_code
def y_MA_init : MethodName := ⟨"PolicyForge$Machine", "<init>", "()V"⟩
theorem d_MA_init_0 : decode b_MA_init 0 = .ok (.aload_n 0, 1) := by decide +kernel
theorem d_MA_init_1 : decode b_MA_init 1 = .ok (.invokespecial 3, 3) := by decide +kernel
theorem d_MA_init_4 : decode b_MA_init 4 = .ok (.aload_n 0, 1) := by decide +kernel
theorem d_MA_init_5 : decode b_MA_init 5 = .ok (.sipush 168, 3) := by decide +kernel
theorem d_MA_init_8 : decode b_MA_init 8 = .ok (.newarray .int, 2) := by decide +kernel
theorem d_MA_init_10 : decode b_MA_init 10 = .ok (.putfield 9, 3) := by decide +kernel
theorem d_MA_init_13 : decode b_MA_init 13 = .ok (.aload_n 0, 1) := by decide +kernel
theorem d_MA_init_14 : decode b_MA_init 14 = .ok (.sipush 128, 3) := by decide +kernel
theorem d_MA_init_17 : decode b_MA_init 17 = .ok (.newarray .int, 2) := by decide +kernel
theorem d_MA_init_19 : decode b_MA_init 19 = .ok (.putfield 15, 3) := by decide +kernel
theorem d_MA_init_22 : decode b_MA_init 22 = .ok (.aload_n 0, 1) := by decide +kernel
theorem d_MA_init_23 : decode b_MA_init 23 = .ok (.iconst 0, 1) := by decide +kernel
theorem d_MA_init_24 : decode b_MA_init 24 = .ok (.putfield 18, 3) := by decide +kernel
theorem d_MA_init_27 : decode b_MA_init 27 = .ok (.aload_n 0, 1) := by decide +kernel
theorem d_MA_init_28 : decode b_MA_init 28 = .ok (.iconst 0, 1) := by decide +kernel
theorem d_MA_init_29 : decode b_MA_init 29 = .ok (.putfield 22, 3) := by decide +kernel
theorem d_MA_init_32 : decode b_MA_init 32 = .ok (.aload_n 0, 1) := by decide +kernel
theorem d_MA_init_33 : decode b_MA_init 33 = .ok (.iconst 0, 1) := by decide +kernel
theorem d_MA_init_34 : decode b_MA_init 34 = .ok (.putfield 25, 3) := by decide +kernel
theorem d_MA_init_37 : decode b_MA_init 37 = .ok (.aload_n 0, 1) := by decide +kernel
theorem d_MA_init_38 : decode b_MA_init 38 = .ok (.iconst 0, 1) := by decide +kernel
theorem d_MA_init_39 : decode b_MA_init 39 = .ok (.putfield 28, 3) := by decide +kernel
theorem d_MA_init_42 : decode b_MA_init 42 = .ok (.aload_n 0, 1) := by decide +kernel
theorem d_MA_init_43 : decode b_MA_init 43 = .ok (.iconst 0, 1) := by decide +kernel
theorem d_MA_init_44 : decode b_MA_init 44 = .ok (.putfield 31, 3) := by decide +kernel
theorem d_MA_init_47 : decode b_MA_init 47 = .ok (.return_, 1) := by decide +kernel
theorem oi_MA_3 : ∀ w ∈ ([.methodLink "PolicyForge$Machine" 3 objectInit, .instanceMethod objectInit, .code objectInit ⟨#[0xb1]⟩ 1 none] : List Cond), w ∈ ab_T := List.forall_mem_cons.mpr ⟨(ab_in 327 (by decide +kernel) (by decide +kernel)), List.forall_mem_cons.mpr ⟨(ab_in 120 (by decide +kernel) (by decide +kernel)), List.forall_mem_cons.mpr ⟨(ab_in 121 (by decide +kernel) (by decide +kernel)), fun _ h => absurd h List.not_mem_nil⟩⟩⟩
theorem uw_MA : ∀ w ∈ u_ws R_MA T_MA 7, w ∈ ab_T := fun w h => List.mem_filter.mpr ⟨by have h2 := h; revert w; decide +kernel, by revert w; decide +kernel⟩
theorem fF_MA_9 : ab_fF "PolicyForge$Machine" 9 7 0 1 (t_MA 0) := ⟨rfl, R_MA, T_MA, 7, t_MA, rfl, uw_MA, by decide, rfl, (ab_in 328 (by decide +kernel) (by decide +kernel)), t_MA_ok, n_MA, rfl, rfl, rfl⟩
theorem fF_MA_15 : ab_fF "PolicyForge$Machine" 15 7 1 1 (t_MA 1) := ⟨rfl, R_MA, T_MA, 7, t_MA, rfl, uw_MA, by decide, rfl, (ab_in 329 (by decide +kernel) (by decide +kernel)), t_MA_ok, n_MA, rfl, rfl, rfl⟩
theorem fp_MA_18 : ab_fp "PolicyForge$Machine" 18 7 2 0 .int := ⟨rfl, R_MA, T_MA, 7, t_MA, rfl, uw_MA, by decide, rfl, (ab_in 330 (by decide +kernel) (by decide +kernel)), t_MA_ok, n_MA, rfl, rfl⟩
theorem fp_MA_22 : ab_fp "PolicyForge$Machine" 22 7 3 0 .int := ⟨rfl, R_MA, T_MA, 7, t_MA, rfl, uw_MA, by decide, rfl, (ab_in 331 (by decide +kernel) (by decide +kernel)), t_MA_ok, n_MA, rfl, rfl⟩
theorem fp_MA_25 : ab_fp "PolicyForge$Machine" 25 7 4 0 .int := ⟨rfl, R_MA, T_MA, 7, t_MA, rfl, uw_MA, by decide, rfl, (ab_in 332 (by decide +kernel) (by decide +kernel)), t_MA_ok, n_MA, rfl, rfl⟩
theorem fp_MA_28 : ab_fp "PolicyForge$Machine" 28 7 5 0 .int := ⟨rfl, R_MA, T_MA, 7, t_MA, rfl, uw_MA, by decide, rfl, (ab_in 333 (by decide +kernel) (by decide +kernel)), t_MA_ok, n_MA, rfl, rfl⟩
theorem fp_MA_31 : ab_fp "PolicyForge$Machine" 31 7 6 0 .boolean := ⟨rfl, R_MA, T_MA, 7, t_MA, rfl, uw_MA, by decide, rfl, (ab_in 335 (by decide +kernel) (by decide +kernel)), t_MA_ok, n_MA, rfl, rfl⟩
set_option maxRecDepth 100000 in
set_option maxHeartbeats 4000000 in
theorem c_MA_init {l : Launch} {D : va_G} {ca : Nat → ClassId} {N : Nat → Nat} (u : ab_S) (i0 : Nat) (hi : i0 < N 7) (hG : ab_G N u) (h0 : ∀ k, u.1 7 i0 k = 0) : ab_CA l D ca y_MA_init b_MA_init 1 1 2 296 N u [ab_O 7 i0] (ab_nx (ab_nx N 15) 16) (fun u' => u' = ab_ur (ab_ur u 7 i0 0 (some (15, N 15))) 7 i0 1 (some (16, N 16))) := by
  refine ab_CA.of (by decide) rfl (Nat.le_of_ble_eq_true rfl) ?_
  intro p e s m args below meth c ad X hr0 hlk hin
  refine ab_aload_n X 0 d_MA_init_0 rfl rfl ?_
  refine ab_objInit X oi_MA_3 d_MA_init_1 ⟨by first | exact Nat.le_of_ble_eq_true rfl | (simp only [ab_rm]; omega), by first | exact Nat.le_of_ble_eq_true rfl | (simp only [ab_rm]; omega)⟩ (Nat.le_of_ble_eq_true rfl) ?_
  refine ab_aload_n X 0 d_MA_init_4 rfl rfl ?_
  refine ab_sipush (v := 168) X d_MA_init_5 (by decide) ?_
  refine ab_newa (c' := 15) X rfl (ab_in 171 (by decide +kernel) (by decide +kernel)) (Or.inl ⟨rfl, Or.inl rfl⟩) (fun _ => rfl) d_MA_init_8 (rfl) (ab_ln_le _ _) (by decide) (hG) (by (repeat' (first | (intro q hq; exact absurd hq (List.not_mem_nil)) | refine List.forall_mem_cons.mpr ⟨?_, ?_⟩)) <;> (first | trivial | (refine Or.inl ?_; first | assumption | exact Nat.le_of_ble_eq_true rfl | exact Nat.lt_succ_self _ | (simp [ab_nx]; done) | (simp [ab_nx]; omega)))) (by (repeat' (first | (intro q hq; exact absurd hq (List.not_mem_nil)) | refine List.forall_mem_cons.mpr ⟨?_, ?_⟩)) <;> (first | trivial | (refine Or.inl ?_; first | assumption | exact Nat.le_of_ble_eq_true rfl | exact Nat.lt_succ_self _ | (simp [ab_nx]; done) | (simp [ab_nx]; omega)))) ⟨by first | exact Nat.le_of_ble_eq_true rfl | (simp only [ab_rm]; omega), by first | exact Nat.le_of_ble_eq_true rfl | (simp only [ab_rm]; omega)⟩ (fun ad8 x8 => ?_)
  refine ab_widen (k := 1) (n := 168) (Nat.le_of_ble_eq_true rfl) (Nat.le_of_ble_eq_true rfl) ?_
  refine ab_putFR X fF_MA_9 (by first | exact Or.inl ⟨_, rfl⟩ | exact Or.inr ⟨_, rfl⟩) hin d_MA_init_10 hi ?_
  refine ab_aload_n X 0 d_MA_init_13 rfl rfl ?_
  have hG1 : ab_G (ab_nx N 15) (ab_ur u 7 i0 0 (some (15, N 15))) := (hG.more (ab_nx_le N 15)).ur (c := 7) (i := i0) (k := 0) (r := some (15, N 15)) hi (Or.inl (Nat.lt_succ_self _))
  refine ab_sipush (v := 128) X d_MA_init_14 (by decide) ?_
  refine ab_newa (c' := 16) X rfl (ab_in 171 (by decide +kernel) (by decide +kernel)) (Or.inl ⟨rfl, Or.inl rfl⟩) (fun _ => rfl) d_MA_init_17 (rfl) (ab_ln_le _ _) (by decide) (hG1) (by (repeat' (first | (intro q hq; exact absurd hq (List.not_mem_nil)) | refine List.forall_mem_cons.mpr ⟨?_, ?_⟩)) <;> (first | trivial | (refine Or.inl ?_; first | assumption | exact Nat.le_of_ble_eq_true rfl | exact Nat.lt_succ_self _ | (simp [ab_nx]; done) | (simp [ab_nx]; omega)))) (by (repeat' (first | (intro q hq; exact absurd hq (List.not_mem_nil)) | refine List.forall_mem_cons.mpr ⟨?_, ?_⟩)) <;> (first | trivial | (refine Or.inl ?_; first | assumption | exact Nat.le_of_ble_eq_true rfl | exact Nat.lt_succ_self _ | (simp [ab_nx]; done) | (simp [ab_nx]; omega)))) ⟨by first | exact Nat.le_of_ble_eq_true rfl | (simp only [ab_rm]; omega), by first | exact Nat.le_of_ble_eq_true rfl | (simp only [ab_rm]; omega)⟩ (fun ad17 x17 => ?_)
  refine ab_widen (k := 2) (n := 296) (Nat.le_of_ble_eq_true rfl) (Nat.le_of_ble_eq_true rfl) ?_
  refine ab_putFR X fF_MA_15 (by first | exact Or.inl ⟨_, rfl⟩ | exact Or.inr ⟨_, rfl⟩) hin d_MA_init_19 hi ?_
  refine ab_aload_n X 0 d_MA_init_22 rfl rfl ?_
  refine ab_iconst (v := 0) X d_MA_init_23 (by decide) ?_
  refine ab_putI X fp_MA_18 d_MA_init_24 hi rfl rfl ?_
  refine ab_u (ab_ui_same (h0 2)) ?_
  refine ab_aload_n X 0 d_MA_init_27 rfl rfl ?_
  refine ab_iconst (v := 0) X d_MA_init_28 (by decide) ?_
  refine ab_putI X fp_MA_22 d_MA_init_29 hi rfl rfl ?_
  refine ab_u (ab_ui_same (h0 3)) ?_
  refine ab_aload_n X 0 d_MA_init_32 rfl rfl ?_
  refine ab_iconst (v := 0) X d_MA_init_33 (by decide) ?_
  refine ab_putI X fp_MA_25 d_MA_init_34 hi rfl rfl ?_
  refine ab_u (ab_ui_same (h0 4)) ?_
  refine ab_aload_n X 0 d_MA_init_37 rfl rfl ?_
  refine ab_iconst (v := 0) X d_MA_init_38 (by decide) ?_
  refine ab_putI X fp_MA_28 d_MA_init_39 hi rfl rfl ?_
  refine ab_u (ab_ui_same (h0 5)) ?_
  refine ab_aload_n X 0 d_MA_init_42 rfl rfl ?_
  refine ab_iconst (v := 0) X d_MA_init_43 (by decide) ?_
  refine ab_putI X fp_MA_31 d_MA_init_44 hi (by decide +kernel) (by decide +kernel) ?_
  refine ab_u (ab_ui_same (h0 6)) ?_
  exact ab_retA X hr0 hlk (ab_ex.trans x8 (ab_nx_le N 15) x17) d_MA_init_47 rfl
/-! Reader: a spare part, then nineteen -/
def ab_Z : ab_S := (fun _ _ _ => 0, fun _ _ _ => none, fun _ _ _ => 0)
def ab_nl (l : List Nat) : Nat → Nat := fun c => l.getD c 0
theorem ab_G_Z (N : Nat → Nat) : ab_G N ab_Z := ⟨fun _ _ _ _ => ⟨rfl, rfl, rfl⟩, fun _ _ _ _ h => by cases h⟩
def ab_uR0 : ab_S := ab_ui (ab_ur (ab_part (ab_ur (ab_ur ab_Z 1 0 0 (some (11, 0))) 1 0 1 (some (12, 0))) 0 0 0 0 0 0) 1 0 2 (some (2, 0))) 1 0 5 (-1)
def ab_uL : Nat → ab_S
  | 0 => ab_uR0
  | j + 1 => ab_ur (ab_part (ab_uL j) (j + 1) (j + 1) (3 * (j + 1)) (3 * (j + 1)) (6 * (j + 1)) (6 * (j + 1))) 12 0 j (some (2, j + 1))
def ab_NL (j : Nat) : Nat → Nat := ab_nl [1, 1, j + 1, 3 * (j + 1), 6 * (j + 1), 0, 0, 0, 6 * (j + 1), 3 * (j + 1), j + 1, 1, 1]
theorem ab_NL_s (j : Nat) : ab_nP (ab_nx (ab_NL j) 2) = ab_NL (j + 1) := by
  funext c
  by_cases h : c < 13
  · have h1 : c = 0 ∨ c = 1 ∨ c = 2 ∨ c = 3 ∨ c = 4 ∨ c = 5 ∨ c = 6 ∨ c = 7 ∨ c = 8 ∨ c = 9 ∨ c = 10 ∨ c = 11 ∨ c = 12 := by omega
    rcases h1 with rfl | rfl | rfl | rfl | rfl | rfl | rfl | rfl | rfl | rfl | rfl | rfl | rfl <;> first | rfl | (simp [ab_nP, ab_nF, ab_nx, ab_NL, ab_nl]; done) | (simp [ab_nP, ab_nF, ab_nx, ab_NL, ab_nl]; omega)
  · have e1 : ∀ j, ab_NL j c = 0 := fun j => by
      unfold ab_NL ab_nl
      rw [List.getD_eq_getElem?_getD, List.getElem?_eq_none (by simp; omega)]; rfl
    have h2 : c ≠ 2 ∧ c ≠ 3 ∧ c ≠ 4 ∧ c ≠ 8 ∧ c ≠ 9 ∧ c ≠ 10 := by omega
    simp [ab_nP, ab_nF, ab_nx, h2.1, h2.2.1, h2.2.2.1, h2.2.2.2.1, h2.2.2.2.2.1, h2.2.2.2.2.2, e1]
theorem ab_uL_1 : ∀ j, (ab_uL j).2.1 1 0 1 = some (12, 0)
  | 0 => rfl
  | j + 1 => ab_uL_1 j
theorem ab_NL_0 : ab_nP (ab_nx (ab_nx (ab_nx (ab_nl [1, 1]) 11) 12) 2) = ab_NL 0 := by
  funext c
  by_cases h : c < 13
  · have h1 : c = 0 ∨ c = 1 ∨ c = 2 ∨ c = 3 ∨ c = 4 ∨ c = 5 ∨ c = 6 ∨ c = 7 ∨ c = 8 ∨ c = 9 ∨ c = 10 ∨ c = 11 ∨ c = 12 := by omega
    rcases h1 with rfl | rfl | rfl | rfl | rfl | rfl | rfl | rfl | rfl | rfl | rfl | rfl | rfl <;> rfl
  · have e1 : ∀ j, ab_NL j c = 0 := fun j => by
      unfold ab_NL ab_nl
      rw [List.getD_eq_getElem?_getD, List.getElem?_eq_none (by simp; omega)]; rfl
    have e2 : ab_nl [1, 1] c = 0 := by
      unfold ab_nl
      rw [List.getD_eq_getElem?_getD, List.getElem?_eq_none (by simp; omega)]; rfl
    have h2 : c ≠ 2 ∧ c ≠ 3 ∧ c ≠ 4 ∧ c ≠ 8 ∧ c ≠ 9 ∧ c ≠ 10 ∧ c ≠ 11 ∧ c ≠ 12 := by omega
    simp [ab_nP, ab_nF, ab_nx, h2.1, h2.2.1, h2.2.2.1, h2.2.2.2.1, h2.2.2.2.2.1, h2.2.2.2.2.2.1, h2.2.2.2.2.2.2.1, h2.2.2.2.2.2.2.2, e1, e2]
theorem ab_Nr {p : Program} {l : Launch} {e : Env} {R : Room} {s : State} {m : MethodId} {args : Array Value} {below : List Frame} {meth : Method} {c : Code} {Q : State → Prop} {nL : Nat} {D : va_G} {ca : Nat → ClassId} {A : Nat → Prop} {H0 : Heap} {cells slots : Nat} {ad : ab_Ad} {N N' : Nat → Nat} {u : ab_S} {pc : Nat} {lv : List (Nat × ab_V)} {st : List ab_V} (h : N = N') (kk : ab_J p l e R s m args below meth c Q D ca A H0 nL cells slots ad N' u pc lv st) : ab_J p l e R s m args below meth c Q D ca A H0 nL cells slots ad N u pc lv st := by rw [h]; exact kk
theorem ab_G_uL0 : ab_G (ab_NL 0) ab_uR0 := by
  have h1 : ab_G (ab_nx (ab_nx (ab_nl [1, 1]) 11) 12) (ab_ur (ab_ur ab_Z 1 0 0 (some (11, 0))) 1 0 1 (some (12, 0))) := ((ab_G_Z _).ur (c := 1) (i := 0) (k := 0) (r := some (11, 0)) (Nat.le_of_ble_eq_true rfl) (Or.inl (Nat.le_of_ble_eq_true rfl))).ur (c := 1) (i := 0) (k := 1) (r := some (12, 0)) (Nat.le_of_ble_eq_true rfl) (Or.inl (Nat.le_of_ble_eq_true rfl))
  have h2 := ab_G_part (h1.more (ab_nx_le _ 2)) (p0 := 0) (Nat.le_of_ble_eq_true rfl)
  rw [ab_NL_0] at h2
  exact (h2.ur (c := 1) (i := 0) (k := 2) (r := some (2, 0)) (Nat.le_of_ble_eq_true rfl) (Or.inl (Nat.le_of_ble_eq_true rfl))).ui (c := 1) (i := 0) (k := 5) (Nat.le_of_ble_eq_true rfl) (-1)
theorem ab_G_uL : ∀ j, ab_G (ab_NL j) (ab_uL j)
  | 0 => ab_G_uL0
  | j + 1 => by
    have h1 := ab_G_part ((ab_G_uL j).more (ab_nx_le _ 2)) (p0 := j + 1) (show j + 1 < j + 1 + 1 by omega)
    rw [ab_NL_s] at h1
    exact h1.ur (c := 12) (i := 0) (k := j) (r := some (2, j + 1)) (show 0 < 1 by omega) (Or.inl (show j + 1 < j + 1 + 1 by omega))
theorem ab_NL_le (j c : Nat) : ab_nl [1, 1] c ≤ ab_NL j c := by
  unfold ab_NL ab_nl
  match c with
  | 0 => exact Nat.le_refl 1
  | 1 => exact Nat.le_refl 1
  | c + 2 => exact Nat.zero_le _
abbrev b_RD_init : ByteArray := prog_6_method_1_code
def y_RD_init : MethodName := ⟨"PolicyForge$Reader", "<init>", "()V"⟩
theorem d_RD_init_0 : decode b_RD_init 0 = .ok (.aload_n 0, 1) := by decide +kernel
theorem d_RD_init_1 : decode b_RD_init 1 = .ok (.invokespecial 3, 3) := by decide +kernel
theorem d_RD_init_4 : decode b_RD_init 4 = .ok (.aload_n 0, 1) := by decide +kernel
theorem d_RD_init_5 : decode b_RD_init 5 = .ok (.bipush 120, 2) := by decide +kernel
theorem d_RD_init_7 : decode b_RD_init 7 = .ok (.newarray .int, 2) := by decide +kernel
theorem d_RD_init_9 : decode b_RD_init 9 = .ok (.putfield 9, 3) := by decide +kernel
theorem d_RD_init_12 : decode b_RD_init 12 = .ok (.aload_n 0, 1) := by decide +kernel
theorem d_RD_init_13 : decode b_RD_init 13 = .ok (.bipush 19, 2) := by decide +kernel
theorem d_RD_init_15 : decode b_RD_init 15 = .ok (.anewarray 15, 3) := by decide +kernel
theorem d_RD_init_18 : decode b_RD_init 18 = .ok (.putfield 17, 3) := by decide +kernel
theorem d_RD_init_21 : decode b_RD_init 21 = .ok (.aload_n 0, 1) := by decide +kernel
theorem d_RD_init_22 : decode b_RD_init 22 = .ok (.new 15, 3) := by decide +kernel
theorem d_RD_init_25 : decode b_RD_init 25 = .ok (.dup, 1) := by decide +kernel
theorem d_RD_init_26 : decode b_RD_init 26 = .ok (.invokespecial 21, 3) := by decide +kernel
theorem d_RD_init_29 : decode b_RD_init 29 = .ok (.putfield 22, 3) := by decide +kernel
theorem d_RD_init_32 : decode b_RD_init 32 = .ok (.aload_n 0, 1) := by decide +kernel
theorem d_RD_init_33 : decode b_RD_init 33 = .ok (.iconst 0, 1) := by decide +kernel
theorem d_RD_init_34 : decode b_RD_init 34 = .ok (.putfield 26, 3) := by decide +kernel
theorem d_RD_init_37 : decode b_RD_init 37 = .ok (.aload_n 0, 1) := by decide +kernel
theorem d_RD_init_38 : decode b_RD_init 38 = .ok (.iconst 0, 1) := by decide +kernel
theorem d_RD_init_39 : decode b_RD_init 39 = .ok (.putfield 30, 3) := by decide +kernel
theorem d_RD_init_42 : decode b_RD_init 42 = .ok (.aload_n 0, 1) := by decide +kernel
theorem d_RD_init_43 : decode b_RD_init 43 = .ok (.iconst (-1), 1) := by decide +kernel
theorem d_RD_init_44 : decode b_RD_init 44 = .ok (.putfield 33, 3) := by decide +kernel
theorem d_RD_init_47 : decode b_RD_init 47 = .ok (.aload_n 0, 1) := by decide +kernel
theorem d_RD_init_48 : decode b_RD_init 48 = .ok (.iconst 0, 1) := by decide +kernel
theorem d_RD_init_49 : decode b_RD_init 49 = .ok (.putfield 36, 3) := by decide +kernel
theorem d_RD_init_52 : decode b_RD_init 52 = .ok (.aload_n 0, 1) := by decide +kernel
theorem d_RD_init_53 : decode b_RD_init 53 = .ok (.iconst 0, 1) := by decide +kernel
theorem d_RD_init_54 : decode b_RD_init 54 = .ok (.putfield 39, 3) := by decide +kernel
theorem d_RD_init_57 : decode b_RD_init 57 = .ok (.iconst 0, 1) := by decide +kernel
theorem d_RD_init_58 : decode b_RD_init 58 = .ok (.istore_n 1, 1) := by decide +kernel
theorem d_RD_init_59 : decode b_RD_init 59 = .ok (.iload_n 1, 1) := by decide +kernel
theorem d_RD_init_60 : decode b_RD_init 60 = .ok (.bipush 19, 2) := by decide +kernel
theorem d_RD_init_62 : decode b_RD_init 62 = .ok (.if_icmp .ge 22, 3) := by decide +kernel
theorem d_RD_init_65 : decode b_RD_init 65 = .ok (.aload_n 0, 1) := by decide +kernel
theorem d_RD_init_66 : decode b_RD_init 66 = .ok (.getfield 17, 3) := by decide +kernel
theorem d_RD_init_69 : decode b_RD_init 69 = .ok (.iload_n 1, 1) := by decide +kernel
theorem d_RD_init_70 : decode b_RD_init 70 = .ok (.new 15, 3) := by decide +kernel
theorem d_RD_init_73 : decode b_RD_init 73 = .ok (.dup, 1) := by decide +kernel
theorem d_RD_init_74 : decode b_RD_init 74 = .ok (.invokespecial 21, 3) := by decide +kernel
theorem d_RD_init_77 : decode b_RD_init 77 = .ok (.aastore, 1) := by decide +kernel
theorem d_RD_init_78 : decode b_RD_init 78 = .ok (.iinc 1 1, 3) := by decide +kernel
theorem d_RD_init_81 : decode b_RD_init 81 = .ok (.goto (-22), 3) := by decide +kernel
theorem d_RD_init_84 : decode b_RD_init 84 = .ok (.return_, 1) := by decide +kernel
theorem oi_RD_3 : ∀ w ∈ ([.methodLink "PolicyForge$Reader" 3 objectInit, .instanceMethod objectInit, .code objectInit ⟨#[0xb1]⟩ 1 none] : List Cond), w ∈ ab_T := List.forall_mem_cons.mpr ⟨(ab_in 127 (by decide +kernel) (by decide +kernel)), List.forall_mem_cons.mpr ⟨(ab_in 120 (by decide +kernel) (by decide +kernel)), List.forall_mem_cons.mpr ⟨(ab_in 121 (by decide +kernel) (by decide +kernel)), fun _ h => absurd h List.not_mem_nil⟩⟩⟩
theorem uw_RD : ∀ w ∈ u_ws R_RD T_RD 8, w ∈ ab_T := fun w h => List.mem_filter.mpr ⟨by have h2 := h; revert w; decide +kernel, by revert w; decide +kernel⟩
theorem fF_RD_9 : ab_fF "PolicyForge$Reader" 9 1 0 1 (t_RD 0) := ⟨rfl, R_RD, T_RD, 8, t_RD, rfl, uw_RD, by decide, rfl, (ab_in 243 (by decide +kernel) (by decide +kernel)), t_RD_ok, n_RD, rfl, rfl, rfl⟩
theorem fF_RD_17 : ab_fF "PolicyForge$Reader" 17 1 1 1 (t_RD 1) := ⟨rfl, R_RD, T_RD, 8, t_RD, rfl, uw_RD, by decide, rfl, (ab_in 244 (by decide +kernel) (by decide +kernel)), t_RD_ok, n_RD, rfl, rfl, rfl⟩
theorem nw_RD_15 : ab_nw "PolicyForge$Reader" 15 2 8 := ⟨rfl, R_PT, T_PT, t_PT, rfl, uw_PT, t_PT_ok, List.forall_mem_cons.mpr ⟨(ab_in 128 (by decide +kernel) (by decide +kernel)), List.forall_mem_cons.mpr ⟨(ab_in 130 (by decide +kernel) (by decide +kernel)), List.forall_mem_cons.mpr ⟨(ab_in 94 (by decide +kernel) (by decide +kernel)), fun _ h => absurd h List.not_mem_nil⟩⟩⟩, rfl, by decide +kernel⟩
theorem lI_RD_21 : ab_lIN "PolicyForge$Reader" 21 y_PT_init "PolicyForge" b_PT_init 1 0 := ⟨(List.mem_filter.mpr ⟨List.mem_of_getElem? (i := 131) (by decide +kernel), by decide +kernel⟩), List.forall_mem_cons.mpr ⟨(ab_in 132 (by decide +kernel) (by decide +kernel)), List.forall_mem_cons.mpr ⟨(ab_in 94 (by decide +kernel) (by decide +kernel)), List.forall_mem_cons.mpr ⟨(ab_in 133 (by decide +kernel) (by decide +kernel)), fun _ h => absurd h List.not_mem_nil⟩⟩⟩, ⟨rfl, by decide +kernel, by decide +kernel, by decide +kernel⟩, by decide⟩
theorem fF_RD_22 : ab_fF "PolicyForge$Reader" 22 1 2 1 (.object "PolicyForge$Part") := ⟨rfl, R_RD, T_RD, 8, t_RD, rfl, uw_RD, by decide, rfl, (ab_in 246 (by decide +kernel) (by decide +kernel)), t_RD_ok, n_RD, rfl, rfl, rfl⟩
theorem fp_RD_26 : ab_fp "PolicyForge$Reader" 26 1 3 0 .int := ⟨rfl, R_RD, T_RD, 8, t_RD, rfl, uw_RD, by decide, rfl, (ab_in 247 (by decide +kernel) (by decide +kernel)), t_RD_ok, n_RD, rfl, rfl⟩
theorem fp_RD_30 : ab_fp "PolicyForge$Reader" 30 1 4 0 .int := ⟨rfl, R_RD, T_RD, 8, t_RD, rfl, uw_RD, by decide, rfl, (ab_in 249 (by decide +kernel) (by decide +kernel)), t_RD_ok, n_RD, rfl, rfl⟩
theorem fp_RD_33 : ab_fp "PolicyForge$Reader" 33 1 5 0 .int := ⟨rfl, R_RD, T_RD, 8, t_RD, rfl, uw_RD, by decide, rfl, (ab_in 250 (by decide +kernel) (by decide +kernel)), t_RD_ok, n_RD, rfl, rfl⟩
theorem fp_RD_36 : ab_fp "PolicyForge$Reader" 36 1 6 0 .int := ⟨rfl, R_RD, T_RD, 8, t_RD, rfl, uw_RD, by decide, rfl, (ab_in 252 (by decide +kernel) (by decide +kernel)), t_RD_ok, n_RD, rfl, rfl⟩
theorem fp_RD_39 : ab_fp "PolicyForge$Reader" 39 1 7 0 .int := ⟨rfl, R_RD, T_RD, 8, t_RD, rfl, uw_RD, by decide, rfl, (ab_in 254 (by decide +kernel) (by decide +kernel)), t_RD_ok, n_RD, rfl, rfl⟩
theorem fl_RD_17 : ab_fl "PolicyForge$Reader" 17 1 1 1 := ⟨rfl, R_RD, T_RD, 8, rfl, uw_RD, by decide, rfl, (ab_in 244 (by decide +kernel) (by decide +kernel))⟩
set_option maxRecDepth 100000 in
set_option maxHeartbeats 8000000 in
theorem c_RD_init {l : Launch} {D : va_G} {ca : Nat → ClassId} : ab_CA l D ca y_RD_init b_RD_init 2 4 402 6499 (ab_nl [1, 1]) ab_Z [ab_O 1 0] (ab_NL 19) (fun u' => u' = ab_uL 19) := by
  refine ab_CA.of (by decide) rfl (Nat.le_of_ble_eq_true rfl) ?_
  intro p e s m args below meth c ad X hr0 hlk hin
  have loop : ∀ (n j : Nat), j + n = 19 → ∀ adj, ab_ex (ab_nl [1, 1]) ad adj → ab_J p l e (ab_rm 4 402 6499) s m args below meth c (MQ below (ab_QA D ca ad (ab_nl [1, 1]) (ab_NL 19) s.heap.size fun u' => u' = ab_uL 19) args s 402 6499 (ab_A ad (ab_nl [1, 1]) s.heap.size)) D ca (ab_A ad (ab_nl [1, 1]) s.heap.size) s.heap 2 (22 + 20 * j) (457 + 318 * j) adj (ab_NL j) (ab_uL j) 59 [(1, ab_I (nI j)), (0, ab_O 1 0)] [] := by
    intro n
    induction n with
    | zero =>
      intro j hj adj hx
      have hj : j = 19 := by omega
      subst hj
      refine ab_iload_n X 0 d_RD_init_59 rfl rfl ?_
      refine ab_bipush (v := 19) X d_RD_init_60 (by decide) ?_
      refine ab_icmp_ge X 84 d_RD_init_62 rfl (fun _ => ?_) (fun hb => absurd ((by decide)) hb)
      exact ab_retA X hr0 hlk hx d_RD_init_84 rfl
    | succ n ih =>
      intro j hj adj hx
      have hl : ¬ (19 : Int32) ≤ nI j := nI_ge (b := 19) (by omega) (by decide)
      refine ab_iload_n X 0 d_RD_init_59 rfl rfl ?_
      refine ab_bipush (v := 19) X d_RD_init_60 (by decide) ?_
      refine ab_icmp_ge X 84 d_RD_init_62 rfl (fun hb => absurd hb (hl)) (fun _ => ?_)
      refine ab_aload_n X 1 d_RD_init_65 rfl rfl ?_
      refine ab_gR X fl_RD_17 d_RD_init_66 (show 0 < 1 by omega) (ab_uL_1 j) ?_
      refine ab_iload_n X 0 d_RD_init_69 rfl rfl ?_
      have hG := ab_G_uL j
      refine ab_new X nw_RD_15 d_RD_init_70 (by decide) (hG) (by (repeat' (first | (intro q hq; exact absurd hq (List.not_mem_nil)) | refine List.forall_mem_cons.mpr ⟨?_, ?_⟩)) <;> (first | trivial | (refine Or.inl ?_; first | assumption | exact Nat.le_of_ble_eq_true rfl | exact Nat.lt_succ_self _ | (simp [ab_nx]; done) | (simp [ab_nx]; omega)))) (by (repeat' (first | (intro q hq; exact absurd hq (List.not_mem_nil)) | refine List.forall_mem_cons.mpr ⟨?_, ?_⟩)) <;> (first | trivial | (refine Or.inl ?_; first | assumption | exact Nat.le_of_ble_eq_true rfl | exact Nat.lt_succ_self _ | (simp [ab_nx]; done) | (simp [ab_nx]; omega)))) ⟨by simp only [ab_rm]; omega, by simp only [ab_rm]; omega⟩ (fun ad70 x70 => ?_)
      refine ab_dup X d_RD_init_73 rfl ?_
      have hG2 := hG.more (ab_nx_le _ 2)
      refine ab_callIN (as := []) X (c_PT_init (N := ab_nx (ab_NL j) 2) (ab_uL j) (j + 1) (by omega) (show j + 1 < j + 1 + 1 by omega) (show 6 * (j + 1) = 6 * (j + 1) from rfl) hG2 (fun k => (hG.1 2 (j + 1) k (Nat.le_refl _)).1)) lI_RD_21 d_RD_init_74 rfl rfl (by (repeat' (first | (intro q hq; exact absurd hq (List.not_mem_nil)) | refine List.forall_mem_cons.mpr ⟨?_, ?_⟩)) <;> (first | trivial | (refine Or.inl ?_; first | assumption | exact Nat.le_of_ble_eq_true rfl | exact Nat.lt_succ_self _ | (simp [ab_nx]; done) | (simp [ab_nx]; omega)))) (by (repeat' (first | (intro q hq; exact absurd hq (List.not_mem_nil)) | refine List.forall_mem_cons.mpr ⟨?_, ?_⟩)) <;> (first | trivial | (refine Or.inl ?_; first | assumption | exact Nat.le_of_ble_eq_true rfl | exact Nat.lt_succ_self _ | (simp [ab_nx]; done) | (simp [ab_nx]; omega)))) ⟨by first | exact Nat.le_of_ble_eq_true rfl | (simp only [ab_rm]; omega), by first | exact Nat.le_of_ble_eq_true rfl | (simp only [ab_rm]; omega)⟩ ⟨by simp only [ab_rm]; omega, by simp only [ab_rm]; omega⟩ (Nat.le_of_ble_eq_true rfl) (fun ad74 u74 x74 h74 => ?_)
      obtain rfl := h74
      refine ab_Nr (ab_NL_s j) ?_
      refine ab_aast X (j) ⟨rfl, rfl, _, rfl, fun _ => rfl⟩ d_RD_init_77 (show 0 < 1 by omega) (show j + 1 < j + 1 + 1 by omega) (rfl) (show j < 19 by omega) (ab_ln_lt _ _) ?_
      refine ab_iinc1 X 0 1 d_RD_init_78 rfl (by decide) rfl rfl ?_
      refine ab_goto X 59 d_RD_init_81 rfl ?_
      rw [show nI j + Int32.ofInt 1 = nI (j + 1) from (nI_succ j).symm]
      refine ab_widen (k := 22 + 20 * (j + 1)) (n := 457 + 318 * (j + 1)) (by omega) (by omega) ?_
      refine ih (j + 1) (by omega) ad74 (ab_ex.trans (ab_ex.trans hx (ab_NL_le j) x70) (fun k => Nat.le_trans (ab_NL_le j k) (ab_nx_le _ 2 k)) x74)
  refine ab_aload_n X 0 d_RD_init_0 rfl rfl ?_
  refine ab_objInit X oi_RD_3 d_RD_init_1 ⟨by first | exact Nat.le_of_ble_eq_true rfl | (simp only [ab_rm]; omega), by first | exact Nat.le_of_ble_eq_true rfl | (simp only [ab_rm]; omega)⟩ (Nat.le_of_ble_eq_true rfl) ?_
  refine ab_aload_n X 0 d_RD_init_4 rfl rfl ?_
  refine ab_bipush (v := 120) X d_RD_init_5 (by decide) ?_
  refine ab_newa (c' := 11) X rfl (ab_in 171 (by decide +kernel) (by decide +kernel)) (Or.inl ⟨rfl, Or.inl rfl⟩) (fun _ => rfl) d_RD_init_7 (rfl) (ab_ln_le _ _) (by decide) (ab_G_Z _) (by (repeat' (first | (intro q hq; exact absurd hq (List.not_mem_nil)) | refine List.forall_mem_cons.mpr ⟨?_, ?_⟩)) <;> (first | trivial | (refine Or.inl ?_; first | assumption | exact Nat.le_of_ble_eq_true rfl | exact Nat.lt_succ_self _ | (simp [ab_nx]; done) | (simp [ab_nx]; omega)))) (by (repeat' (first | (intro q hq; exact absurd hq (List.not_mem_nil)) | refine List.forall_mem_cons.mpr ⟨?_, ?_⟩)) <;> (first | trivial | (refine Or.inl ?_; first | assumption | exact Nat.le_of_ble_eq_true rfl | exact Nat.lt_succ_self _ | (simp [ab_nx]; done) | (simp [ab_nx]; omega)))) ⟨by first | exact Nat.le_of_ble_eq_true rfl | (simp only [ab_rm]; omega), by first | exact Nat.le_of_ble_eq_true rfl | (simp only [ab_rm]; omega)⟩ (fun ad7 x7 => ?_)
  refine ab_widen (k := 1) (n := 120) (Nat.le_of_ble_eq_true rfl) (Nat.le_of_ble_eq_true rfl) ?_
  refine ab_putFR X fF_RD_9 (by first | exact Or.inl ⟨_, rfl⟩ | exact Or.inr ⟨_, rfl⟩) hin d_RD_init_9 (Nat.le_of_ble_eq_true rfl) ?_
  refine ab_aload_n X 0 d_RD_init_12 rfl rfl ?_
  refine ab_bipush (v := 19) X d_RD_init_13 (by decide) ?_
  refine ab_newq (c' := 12) X rfl ⟨(ab_in 128 (by decide +kernel) (by decide +kernel)), (List.mem_filter.mpr ⟨List.mem_of_getElem? (i := 129) (by decide +kernel), by decide +kernel⟩)⟩ (fun _ => rfl) d_RD_init_15 (rfl) (ab_ln_le _ _) (by decide) ((ab_G_Z _).ur (c := 1) (i := 0) (k := 0) (r := some (11, 0)) (Nat.le_of_ble_eq_true rfl) (Or.inl (Nat.le_of_ble_eq_true rfl))) (by (repeat' (first | (intro q hq; exact absurd hq (List.not_mem_nil)) | refine List.forall_mem_cons.mpr ⟨?_, ?_⟩)) <;> (first | trivial | (refine Or.inl ?_; first | assumption | exact Nat.le_of_ble_eq_true rfl | exact Nat.lt_succ_self _ | (simp [ab_nx]; done) | (simp [ab_nx]; omega)))) (by (repeat' (first | (intro q hq; exact absurd hq (List.not_mem_nil)) | refine List.forall_mem_cons.mpr ⟨?_, ?_⟩)) <;> (first | trivial | (refine Or.inl ?_; first | assumption | exact Nat.le_of_ble_eq_true rfl | exact Nat.lt_succ_self _ | (simp [ab_nx]; done) | (simp [ab_nx]; omega)))) ⟨by first | exact Nat.le_of_ble_eq_true rfl | (simp only [ab_rm]; omega), by first | exact Nat.le_of_ble_eq_true rfl | (simp only [ab_rm]; omega)⟩ (fun ad15 x15 => ?_)
  refine ab_widen (k := 2) (n := 139) (Nat.le_of_ble_eq_true rfl) (Nat.le_of_ble_eq_true rfl) ?_
  refine ab_putFR X fF_RD_17 (by first | exact Or.inl ⟨_, rfl⟩ | exact Or.inr ⟨_, rfl⟩) hin d_RD_init_18 (Nat.le_of_ble_eq_true rfl) ?_
  have h1 : ab_G (ab_nx (ab_nx (ab_nl [1, 1]) 11) 12) (ab_ur (ab_ur ab_Z 1 0 0 (some (11, 0))) 1 0 1 (some (12, 0))) := ((ab_G_Z _).ur (c := 1) (i := 0) (k := 0) (r := some (11, 0)) (Nat.le_of_ble_eq_true rfl) (Or.inl (Nat.le_of_ble_eq_true rfl))).ur (c := 1) (i := 0) (k := 1) (r := some (12, 0)) (Nat.le_of_ble_eq_true rfl) (Or.inl (Nat.le_of_ble_eq_true rfl))
  refine ab_aload_n X 0 d_RD_init_21 rfl rfl ?_
  refine ab_new X nw_RD_15 d_RD_init_22 (by decide) (h1) (by (repeat' (first | (intro q hq; exact absurd hq (List.not_mem_nil)) | refine List.forall_mem_cons.mpr ⟨?_, ?_⟩)) <;> (first | trivial | (refine Or.inl ?_; first | assumption | exact Nat.le_of_ble_eq_true rfl | exact Nat.lt_succ_self _ | (simp [ab_nx]; done) | (simp [ab_nx]; omega)))) (by (repeat' (first | (intro q hq; exact absurd hq (List.not_mem_nil)) | refine List.forall_mem_cons.mpr ⟨?_, ?_⟩)) <;> (first | trivial | (refine Or.inl ?_; first | assumption | exact Nat.le_of_ble_eq_true rfl | exact Nat.lt_succ_self _ | (simp [ab_nx]; done) | (simp [ab_nx]; omega)))) ⟨by first | exact Nat.le_of_ble_eq_true rfl | (simp only [ab_rm]; omega), by first | exact Nat.le_of_ble_eq_true rfl | (simp only [ab_rm]; omega)⟩ (fun ad22 x22 => ?_)
  refine ab_widen (k := 3) (n := 147) (Nat.le_of_ble_eq_true rfl) (Nat.le_of_ble_eq_true rfl) ?_
  refine ab_dup X d_RD_init_25 rfl ?_
  refine ab_callIN (as := []) X (c_PT_init (N := ab_nx (ab_nx (ab_nx (ab_nl [1, 1]) 11) 12) 2) (ab_ur (ab_ur ab_Z 1 0 0 (some (11, 0))) 1 0 1 (some (12, 0))) 0 (by decide) (Nat.le_of_ble_eq_true rfl) rfl (h1.more (ab_nx_le _ 2)) (fun k => rfl)) lI_RD_21 d_RD_init_26 rfl rfl (by (repeat' (first | (intro q hq; exact absurd hq (List.not_mem_nil)) | refine List.forall_mem_cons.mpr ⟨?_, ?_⟩)) <;> (first | trivial | (refine Or.inl ?_; first | assumption | exact Nat.le_of_ble_eq_true rfl | exact Nat.lt_succ_self _ | (simp [ab_nx]; done) | (simp [ab_nx]; omega)))) (by (repeat' (first | (intro q hq; exact absurd hq (List.not_mem_nil)) | refine List.forall_mem_cons.mpr ⟨?_, ?_⟩)) <;> (first | trivial | (refine Or.inl ?_; first | assumption | exact Nat.le_of_ble_eq_true rfl | exact Nat.lt_succ_self _ | (simp [ab_nx]; done) | (simp [ab_nx]; omega)))) ⟨by first | exact Nat.le_of_ble_eq_true rfl | (simp only [ab_rm]; omega), by first | exact Nat.le_of_ble_eq_true rfl | (simp only [ab_rm]; omega)⟩ ⟨by first | exact Nat.le_of_ble_eq_true rfl | (simp only [ab_rm]; omega), by first | exact Nat.le_of_ble_eq_true rfl | (simp only [ab_rm]; omega)⟩ (Nat.le_of_ble_eq_true rfl) (fun ad26 u26 x26 h26 => ?_)
  obtain rfl := h26
  refine ab_widen (k := 22) (n := 457) (Nat.le_of_ble_eq_true rfl) (Nat.le_of_ble_eq_true rfl) ?_
  refine ab_Nr ab_NL_0 ?_
  refine ab_putFR X fF_RD_22 (by first | exact Or.inl ⟨_, rfl⟩ | exact Or.inr ⟨_, rfl⟩) hin d_RD_init_29 (Nat.le_of_ble_eq_true rfl) ?_
  refine ab_aload_n X 0 d_RD_init_32 rfl rfl ?_
  refine ab_iconst (v := 0) X d_RD_init_33 (by decide) ?_
  refine ab_putI X fp_RD_26 d_RD_init_34 (Nat.le_of_ble_eq_true rfl) rfl rfl ?_
  refine ab_u (ab_ui_same rfl) ?_
  refine ab_aload_n X 0 d_RD_init_37 rfl rfl ?_
  refine ab_iconst (v := 0) X d_RD_init_38 (by decide) ?_
  refine ab_putI X fp_RD_30 d_RD_init_39 (Nat.le_of_ble_eq_true rfl) rfl rfl ?_
  refine ab_u (ab_ui_same rfl) ?_
  refine ab_aload_n X 0 d_RD_init_42 rfl rfl ?_
  refine ab_iconst (v := (-1)) X d_RD_init_43 (by decide) ?_
  refine ab_putI X fp_RD_33 d_RD_init_44 (Nat.le_of_ble_eq_true rfl) rfl rfl ?_
  refine ab_aload_n X 0 d_RD_init_47 rfl rfl ?_
  refine ab_iconst (v := 0) X d_RD_init_48 (by decide) ?_
  refine ab_putI X fp_RD_36 d_RD_init_49 (Nat.le_of_ble_eq_true rfl) rfl rfl ?_
  refine ab_u (ab_ui_same rfl) ?_
  refine ab_aload_n X 0 d_RD_init_52 rfl rfl ?_
  refine ab_iconst (v := 0) X d_RD_init_53 (by decide) ?_
  refine ab_putI X fp_RD_39 d_RD_init_54 (Nat.le_of_ble_eq_true rfl) rfl rfl ?_
  refine ab_u (ab_ui_same rfl) ?_
  refine ab_iconst (v := 0) X d_RD_init_57 (by decide) ?_
  refine ab_istore_n1 X 0 d_RD_init_58 rfl (by decide) rfl rfl ?_
  exact loop 19 0 rfl ad26 (ab_ex.trans (ab_ex.trans (ab_ex.trans x7 (ab_nx_le _ 11) x15) (fun k => Nat.le_trans (ab_nx_le _ 11 k) (ab_nx_le _ 12 k)) x22) (fun k => Nat.le_trans (ab_nx_le _ 11 k) (Nat.le_trans (ab_nx_le _ 12 k) (ab_nx_le _ 2 k))) x26)

