/-! Constructors of the class's own kinds. -/
theorem ab_ui_same {u : ab_S} {c i k : Nat} {v : Int32} (h : u.1 c i k = v) : ab_ui u c i k v = u := by
  obtain ⟨f, g⟩ := u
  refine Prod.ext (funext fun c' => funext fun i' => funext fun k' => ?_) rfl
  show ab_up f c i k v c' i' k' = f c' i' k'
  by_cases hq : c' = c ∧ i' = i ∧ k' = k
  · obtain ⟨rfl, rfl, rfl⟩ := hq
    rw [ab_up_s]; exact h.symm
  · rw [ab_up_n _ _ hq]
theorem ab_ur_same {u : ab_S} {c i k : Nat} {v : Option (Nat × Nat)} (h : u.2.1 c i k = v) : ab_ur u c i k v = u := by
  obtain ⟨f, g, w⟩ := u
  refine Prod.ext rfl (Prod.ext (funext fun c' => funext fun i' => funext fun k' => ?_) rfl)
  show ab_up g c i k v c' i' k' = g c' i' k'
  by_cases hq : c' = c ∧ i' = i ∧ k' = k
  · obtain ⟨rfl, rfl, rfl⟩ := hq
    rw [ab_up_s]; exact h.symm
  · rw [ab_up_n _ _ hq]
theorem ab_nx_lt {N : Nat → Nat} {c c' i : Nat} (h : i < N c') : i < ab_nx N c c' := Nat.lt_of_lt_of_le h (ab_nx_le N c c')
theorem ab_ln_le (c i : Nat) : ab_ln c i < 65536 := by
  unfold ab_ln
  split
  · split <;> omega
  · split
    · exact Nat.lt_of_le_of_lt (ab_getD_le (b := 7200) (by decide) i) (by decide)
    · exact Nat.lt_of_le_of_lt (ab_getD_le (b := 7200) (by decide) c) (by decide)
theorem ab_ln8 (i : Nat) : ab_ln 8 i ≤ 40 := by
  unfold ab_ln
  rw [if_pos rfl]
  split <;> omega
abbrev b_RW_init : ByteArray := prog_7_method_1_code
def y_RW_init : MethodName := ⟨"PolicyForge$Row", "<init>", "(I)V"⟩
theorem d_RW_init_0 : decode b_RW_init 0 = .ok (.aload_n 0, 1) := by decide +kernel
theorem d_RW_init_1 : decode b_RW_init 1 = .ok (.invokespecial 3, 3) := by decide +kernel
theorem d_RW_init_4 : decode b_RW_init 4 = .ok (.aload_n 0, 1) := by decide +kernel
theorem d_RW_init_5 : decode b_RW_init 5 = .ok (.iconst 0, 1) := by decide +kernel
theorem d_RW_init_6 : decode b_RW_init 6 = .ok (.putfield 9, 3) := by decide +kernel
theorem d_RW_init_9 : decode b_RW_init 9 = .ok (.aload_n 0, 1) := by decide +kernel
theorem d_RW_init_10 : decode b_RW_init 10 = .ok (.iconst 0, 1) := by decide +kernel
theorem d_RW_init_11 : decode b_RW_init 11 = .ok (.putfield 15, 3) := by decide +kernel
theorem d_RW_init_14 : decode b_RW_init 14 = .ok (.aload_n 0, 1) := by decide +kernel
theorem d_RW_init_15 : decode b_RW_init 15 = .ok (.iconst 0, 1) := by decide +kernel
theorem d_RW_init_16 : decode b_RW_init 16 = .ok (.putfield 18, 3) := by decide +kernel
theorem d_RW_init_19 : decode b_RW_init 19 = .ok (.aload_n 0, 1) := by decide +kernel
theorem d_RW_init_20 : decode b_RW_init 20 = .ok (.iload_n 1, 1) := by decide +kernel
theorem d_RW_init_21 : decode b_RW_init 21 = .ok (.newarray .int, 2) := by decide +kernel
theorem d_RW_init_23 : decode b_RW_init 23 = .ok (.putfield 22, 3) := by decide +kernel
theorem d_RW_init_26 : decode b_RW_init 26 = .ok (.return_, 1) := by decide +kernel
theorem oi_RW_3 : ∀ w ∈ ([.methodLink "PolicyForge$Row" 3 objectInit, .instanceMethod objectInit, .code objectInit ⟨#[0xb1]⟩ 1 none] : List Cond), w ∈ ab_T := List.forall_mem_cons.mpr ⟨(ab_in 149 (by decide +kernel) (by decide +kernel)), List.forall_mem_cons.mpr ⟨(ab_in 120 (by decide +kernel) (by decide +kernel)), List.forall_mem_cons.mpr ⟨(ab_in 121 (by decide +kernel) (by decide +kernel)), fun _ h => absurd h List.not_mem_nil⟩⟩⟩
theorem fF_RW_22 : ab_fF "PolicyForge$Row" 22 4 0 1 (t_RW 0) := ⟨rfl, R_RW, T_RW, 4, t_RW, rfl, uw_RW, by decide, rfl, (ab_in 150 (by decide +kernel) (by decide +kernel)), t_RW_ok, n_RW, rfl, rfl, rfl⟩
set_option maxRecDepth 100000 in
set_option maxHeartbeats 4000000 in
theorem c_RW_init {l : Launch} {D : va_G} {ca : Nat → ClassId} {N : Nat → Nat} (u : ab_S) (r : Nat) (hr : r < N 4) (hG : ab_G N u) (h1 : u.1 4 r 1 = 0) (h2 : u.1 4 r 2 = 0) (h3 : u.1 4 r 3 = 0) : ab_CA l D ca y_RW_init b_RW_init 2 1 1 40 N u [ab_O 4 r, ab_I (nI (ab_ln 8 (N 8)))] (ab_nx N 8) (fun u' => u' = ab_ur u 4 r 0 (some (8, N 8))) := by
  refine ab_CA.of (by decide) rfl (Nat.le_of_ble_eq_true rfl) ?_
  intro p e s m args below meth c ad X hr0 hlk hin
  refine ab_aload_n X 0 d_RW_init_0 rfl rfl ?_
  refine ab_objInit X oi_RW_3 d_RW_init_1 ⟨by first | exact Nat.le_of_ble_eq_true rfl | (simp only [ab_rm]; omega), by first | exact Nat.le_of_ble_eq_true rfl | (simp only [ab_rm]; omega)⟩ (Nat.le_of_ble_eq_true rfl) ?_
  refine ab_aload_n X 0 d_RW_init_4 rfl rfl ?_
  refine ab_iconst (v := 0) X d_RW_init_5 (by decide) ?_
  refine ab_putI X fp_RW_9 d_RW_init_6 (by first | assumption | decide) rfl rfl ?_
  refine ab_u (ab_ui_same h1) ?_
  refine ab_aload_n X 0 d_RW_init_9 rfl rfl ?_
  refine ab_iconst (v := 0) X d_RW_init_10 (by decide) ?_
  refine ab_putI X fp_RW_15 d_RW_init_11 (by first | assumption | decide) rfl rfl ?_
  refine ab_u (ab_ui_same h2) ?_
  refine ab_aload_n X 0 d_RW_init_14 rfl rfl ?_
  refine ab_iconst (v := 0) X d_RW_init_15 (by decide) ?_
  refine ab_putI X fp_RW_18 d_RW_init_16 (by first | assumption | decide) (by decide +kernel) (by decide +kernel) ?_
  refine ab_u (ab_ui_same h3) ?_
  refine ab_aload_n X 0 d_RW_init_19 rfl rfl ?_
  refine ab_iload_n X 1 d_RW_init_20 rfl rfl ?_
  refine ab_newa (c' := 8) X rfl (ab_in 171 (by decide +kernel) (by decide +kernel)) (Or.inl ⟨rfl, Or.inl rfl⟩) (fun _ => rfl) d_RW_init_21 (rfl) (ab_ln_le _ _) (by decide) (hG) (by (repeat' (first | (intro q hq; exact absurd hq (List.not_mem_nil)) | refine List.forall_mem_cons.mpr ⟨?_, ?_⟩)) <;> (first | trivial | (refine Or.inl ?_; first | assumption | exact Nat.le_of_ble_eq_true rfl | exact Nat.lt_succ_self _ | (simp [ab_nx]; done) | (simp [ab_nx]; omega)))) (by (repeat' (first | (intro q hq; exact absurd hq (List.not_mem_nil)) | refine List.forall_mem_cons.mpr ⟨?_, ?_⟩)) <;> (first | trivial | (refine Or.inl ?_; first | assumption | exact Nat.le_of_ble_eq_true rfl | exact Nat.lt_succ_self _ | (simp [ab_nx]; done) | (simp [ab_nx]; omega)))) ⟨Nat.le_of_ble_eq_true rfl, by have := ab_ln8 (N 8); simp only [ab_rm]; omega⟩ (fun ad21 x21 => ?_)
  refine ab_widen (k := 1) (n := 40) (Nat.le_of_ble_eq_true rfl) (by have := ab_ln8 (N 8); omega) ?_
  refine ab_putFR X fF_RW_22 (by first | exact Or.inl ⟨_, rfl⟩ | exact Or.inr ⟨_, rfl⟩) hin d_RW_init_23 (ab_nx_lt hr) ?_
  exact ab_retA X hr0 hlk x21 d_RW_init_26 rfl
/-- the state behind new Form(d): f the form, t its array, r and r + 1 its rows, i and i + 1 their arrays -/
def ab_form (u : ab_S) (f t r i : Nat) (d : Int32) : ab_S :=
  ab_ur (ab_ur (ab_ui (ab_ur (ab_ur (ab_ur u 3 f 0 (some (9, t))) 4 r 0 (some (8, i))) 3 f 3 (some (4, r))) 3 f 1 d) 4 (r + 1) 0 (some (8, i + 1))) 3 f 2 (some (4, r + 1))
def ab_nF (N : Nat → Nat) : Nat → Nat := ab_nx (ab_nx (ab_nx (ab_nx (ab_nx N 9) 4) 8) 4) 8
abbrev b_FM_init : ByteArray := prog_3_method_1_code
def y_FM_init : MethodName := ⟨"PolicyForge$Form", "<init>", "(Z)V"⟩
theorem d_FM_init_0 : decode b_FM_init 0 = .ok (.aload_n 0, 1) := by decide +kernel
theorem d_FM_init_1 : decode b_FM_init 1 = .ok (.invokespecial 3, 3) := by decide +kernel
theorem d_FM_init_4 : decode b_FM_init 4 = .ok (.aload_n 0, 1) := by decide +kernel
theorem d_FM_init_5 : decode b_FM_init 5 = .ok (.iconst 4, 1) := by decide +kernel
theorem d_FM_init_6 : decode b_FM_init 6 = .ok (.anewarray 9, 3) := by decide +kernel
theorem d_FM_init_9 : decode b_FM_init 9 = .ok (.putfield 11, 3) := by decide +kernel
theorem d_FM_init_12 : decode b_FM_init 12 = .ok (.aload_n 0, 1) := by decide +kernel
theorem d_FM_init_13 : decode b_FM_init 13 = .ok (.new 15, 3) := by decide +kernel
theorem d_FM_init_16 : decode b_FM_init 16 = .ok (.dup, 1) := by decide +kernel
theorem d_FM_init_17 : decode b_FM_init 17 = .ok (.bipush 40, 2) := by decide +kernel
theorem d_FM_init_19 : decode b_FM_init 19 = .ok (.invokespecial 17, 3) := by decide +kernel
theorem d_FM_init_22 : decode b_FM_init 22 = .ok (.putfield 20, 3) := by decide +kernel
theorem d_FM_init_25 : decode b_FM_init 25 = .ok (.aload_n 0, 1) := by decide +kernel
theorem d_FM_init_26 : decode b_FM_init 26 = .ok (.iconst 0, 1) := by decide +kernel
theorem d_FM_init_27 : decode b_FM_init 27 = .ok (.putfield 24, 3) := by decide +kernel
theorem d_FM_init_30 : decode b_FM_init 30 = .ok (.aload_n 0, 1) := by decide +kernel
theorem d_FM_init_31 : decode b_FM_init 31 = .ok (.iconst 0, 1) := by decide +kernel
theorem d_FM_init_32 : decode b_FM_init 32 = .ok (.putfield 28, 3) := by decide +kernel
theorem d_FM_init_35 : decode b_FM_init 35 = .ok (.aload_n 0, 1) := by decide +kernel
theorem d_FM_init_36 : decode b_FM_init 36 = .ok (.iconst 0, 1) := by decide +kernel
theorem d_FM_init_37 : decode b_FM_init 37 = .ok (.putfield 31, 3) := by decide +kernel
theorem d_FM_init_40 : decode b_FM_init 40 = .ok (.aload_n 0, 1) := by decide +kernel
theorem d_FM_init_41 : decode b_FM_init 41 = .ok (.iconst 0, 1) := by decide +kernel
theorem d_FM_init_42 : decode b_FM_init 42 = .ok (.putfield 34, 3) := by decide +kernel
theorem d_FM_init_45 : decode b_FM_init 45 = .ok (.aload_n 0, 1) := by decide +kernel
theorem d_FM_init_46 : decode b_FM_init 46 = .ok (.iconst 0, 1) := by decide +kernel
theorem d_FM_init_47 : decode b_FM_init 47 = .ok (.putfield 37, 3) := by decide +kernel
theorem d_FM_init_50 : decode b_FM_init 50 = .ok (.aload_n 0, 1) := by decide +kernel
theorem d_FM_init_51 : decode b_FM_init 51 = .ok (.iconst 0, 1) := by decide +kernel
theorem d_FM_init_52 : decode b_FM_init 52 = .ok (.putfield 40, 3) := by decide +kernel
theorem d_FM_init_55 : decode b_FM_init 55 = .ok (.aload_n 0, 1) := by decide +kernel
theorem d_FM_init_56 : decode b_FM_init 56 = .ok (.iload_n 1, 1) := by decide +kernel
theorem d_FM_init_57 : decode b_FM_init 57 = .ok (.putfield 43, 3) := by decide +kernel
theorem d_FM_init_60 : decode b_FM_init 60 = .ok (.aload_n 0, 1) := by decide +kernel
theorem d_FM_init_61 : decode b_FM_init 61 = .ok (.new 15, 3) := by decide +kernel
theorem d_FM_init_64 : decode b_FM_init 64 = .ok (.dup, 1) := by decide +kernel
theorem d_FM_init_65 : decode b_FM_init 65 = .ok (.iload_n 1, 1) := by decide +kernel
theorem d_FM_init_66 : decode b_FM_init 66 = .ok (.ifCond .eq 8, 3) := by decide +kernel
theorem d_FM_init_69 : decode b_FM_init 69 = .ok (.bipush 40, 2) := by decide +kernel
theorem d_FM_init_71 : decode b_FM_init 71 = .ok (.goto 4, 3) := by decide +kernel
theorem d_FM_init_74 : decode b_FM_init 74 = .ok (.iconst 0, 1) := by decide +kernel
theorem d_FM_init_75 : decode b_FM_init 75 = .ok (.invokespecial 17, 3) := by decide +kernel
theorem d_FM_init_78 : decode b_FM_init 78 = .ok (.putfield 47, 3) := by decide +kernel
theorem d_FM_init_81 : decode b_FM_init 81 = .ok (.return_, 1) := by decide +kernel
theorem oi_FM_3 : ∀ w ∈ ([.methodLink "PolicyForge$Form" 3 objectInit, .instanceMethod objectInit, .code objectInit ⟨#[0xb1]⟩ 1 none] : List Cond), w ∈ ab_T := List.forall_mem_cons.mpr ⟨(ab_in 141 (by decide +kernel) (by decide +kernel)), List.forall_mem_cons.mpr ⟨(ab_in 120 (by decide +kernel) (by decide +kernel)), List.forall_mem_cons.mpr ⟨(ab_in 121 (by decide +kernel) (by decide +kernel)), fun _ h => absurd h List.not_mem_nil⟩⟩⟩
theorem uw_FM : ∀ w ∈ u_ws R_FM T_FM 10, w ∈ ab_T := fun w h => List.mem_filter.mpr ⟨by have h2 := h; revert w; decide +kernel, by revert w; decide +kernel⟩
theorem fF_FM_11 : ab_fF "PolicyForge$Form" 11 3 0 1 (t_FM 0) := ⟨rfl, R_FM, T_FM, 10, t_FM, rfl, uw_FM, by decide, rfl, (ab_in 172 (by decide +kernel) (by decide +kernel)), t_FM_ok, n_FM, rfl, rfl, rfl⟩
theorem nw_FM_15 : ab_nw "PolicyForge$Form" 15 4 4 := ⟨rfl, R_RW, T_RW, t_RW, rfl, uw_RW, t_RW_ok, List.forall_mem_cons.mpr ⟨(ab_in 144 (by decide +kernel) (by decide +kernel)), List.forall_mem_cons.mpr ⟨(ab_in 145 (by decide +kernel) (by decide +kernel)), List.forall_mem_cons.mpr ⟨(ab_in 96 (by decide +kernel) (by decide +kernel)), fun _ h => absurd h List.not_mem_nil⟩⟩⟩, rfl, by decide +kernel⟩
theorem lI_FM_17 : ab_lI "PolicyForge$Form" 17 y_RW_init b_RW_init 2 1 := ⟨List.forall_mem_cons.mpr ⟨(ab_in 146 (by decide +kernel) (by decide +kernel)), List.forall_mem_cons.mpr ⟨(ab_in 147 (by decide +kernel) (by decide +kernel)), List.forall_mem_cons.mpr ⟨(ab_in 96 (by decide +kernel) (by decide +kernel)), List.forall_mem_cons.mpr ⟨(ab_in 148 (by decide +kernel) (by decide +kernel)), fun _ h => absurd h List.not_mem_nil⟩⟩⟩⟩, ⟨rfl, by decide +kernel, by decide +kernel, by decide +kernel⟩, by decide⟩
theorem fF_FM_20 : ab_fF "PolicyForge$Form" 20 3 3 1 (.object "PolicyForge$Row") := ⟨rfl, R_FM, T_FM, 10, t_FM, rfl, uw_FM, by decide, rfl, (ab_in 176 (by decide +kernel) (by decide +kernel)), t_FM_ok, n_FM, rfl, rfl, rfl⟩
theorem fp_FM_24 : ab_fp "PolicyForge$Form" 24 3 4 0 .int := ⟨rfl, R_FM, T_FM, 10, t_FM, rfl, uw_FM, by decide, rfl, (ab_in 178 (by decide +kernel) (by decide +kernel)), t_FM_ok, n_FM, rfl, rfl⟩
theorem fp_FM_28 : ab_fp "PolicyForge$Form" 28 3 5 0 .int := ⟨rfl, R_FM, T_FM, 10, t_FM, rfl, uw_FM, by decide, rfl, (ab_in 181 (by decide +kernel) (by decide +kernel)), t_FM_ok, n_FM, rfl, rfl⟩
theorem fp_FM_31 : ab_fp "PolicyForge$Form" 31 3 6 0 .int := ⟨rfl, R_FM, T_FM, 10, t_FM, rfl, uw_FM, by decide, rfl, (ab_in 183 (by decide +kernel) (by decide +kernel)), t_FM_ok, n_FM, rfl, rfl⟩
theorem fp_FM_34 : ab_fp "PolicyForge$Form" 34 3 7 0 .int := ⟨rfl, R_FM, T_FM, 10, t_FM, rfl, uw_FM, by decide, rfl, (ab_in 185 (by decide +kernel) (by decide +kernel)), t_FM_ok, n_FM, rfl, rfl⟩
theorem fp_FM_37 : ab_fp "PolicyForge$Form" 37 3 8 0 .int := ⟨rfl, R_FM, T_FM, 10, t_FM, rfl, uw_FM, by decide, rfl, (ab_in 187 (by decide +kernel) (by decide +kernel)), t_FM_ok, n_FM, rfl, rfl⟩
theorem fp_FM_40 : ab_fp "PolicyForge$Form" 40 3 9 0 .int := ⟨rfl, R_FM, T_FM, 10, t_FM, rfl, uw_FM, by decide, rfl, (ab_in 189 (by decide +kernel) (by decide +kernel)), t_FM_ok, n_FM, rfl, rfl⟩
theorem fF_FM_43 : ab_fF "PolicyForge$Form" 43 3 1 0 .boolean := ⟨rfl, R_FM, T_FM, 10, t_FM, rfl, uw_FM, by decide, rfl, (ab_in 174 (by decide +kernel) (by decide +kernel)), t_FM_ok, n_FM, rfl, rfl, rfl⟩
theorem fF_FM_47 : ab_fF "PolicyForge$Form" 47 3 2 1 (.object "PolicyForge$Row") := ⟨rfl, R_FM, T_FM, 10, t_FM, rfl, uw_FM, by decide, rfl, (ab_in 175 (by decide +kernel) (by decide +kernel)), t_FM_ok, n_FM, rfl, rfl, rfl⟩
set_option maxRecDepth 100000 in
set_option maxHeartbeats 4000000 in
theorem c_FM_init {l : Launch} {D : va_G} {ca : Nat → ClassId} {N : Nat → Nat} (u : ab_S) (f : Nat) (d : Int32) (hf : f < N 3) (hG : ab_G N u) (h0 : ∀ k, u.1 3 f k = 0) (hd0 : d = 0 ∨ d = 1) (h40 : ab_ln 8 (N 8) = 40) (h41 : ab_ln 8 (N 8 + 1) = if d = 0 then 0 else 40) : ab_CA l D ca y_FM_init b_FM_init 2 2 5 92 N u [ab_O 3 f, ab_I d] (ab_nF N) (fun u' => u' = ab_form u f (N 9) (N 4) (N 8) d) := by
  refine ab_CA.of (by decide) rfl (Nat.le_of_ble_eq_true rfl) ?_
  intro p e s m args below meth c ad X hr0 hlk hin
  have hz : narrow .boolean (.int d) = .int d ∧ fits .boolean (.int d) = true := by rcases hd0 with rfl | rfl <;> exact ⟨by decide +kernel, by decide +kernel⟩
  refine ab_aload_n X 0 d_FM_init_0 rfl rfl ?_
  refine ab_objInit X oi_FM_3 d_FM_init_1 ⟨by first | exact Nat.le_of_ble_eq_true rfl | (simp only [ab_rm]; omega), by first | exact Nat.le_of_ble_eq_true rfl | (simp only [ab_rm]; omega)⟩ (Nat.le_of_ble_eq_true rfl) ?_
  refine ab_aload_n X 0 d_FM_init_4 rfl rfl ?_
  refine ab_iconst (v := 4) X d_FM_init_5 (by decide) ?_
  refine ab_newq (c' := 9) X rfl ⟨(ab_in 142 (by decide +kernel) (by decide +kernel)), (List.mem_filter.mpr ⟨List.mem_of_getElem? (i := 143) (by decide +kernel), by decide +kernel⟩)⟩ (fun _ => rfl) d_FM_init_6 (rfl) (ab_ln_le _ _) (by decide) (hG) (by (repeat' (first | (intro q hq; exact absurd hq (List.not_mem_nil)) | refine List.forall_mem_cons.mpr ⟨?_, ?_⟩)) <;> (first | trivial | (refine Or.inl ?_; first | assumption | exact Nat.le_of_ble_eq_true rfl | exact Nat.lt_succ_self _ | (simp [ab_nx]; done) | (simp [ab_nx]; omega)))) (by (repeat' (first | (intro q hq; exact absurd hq (List.not_mem_nil)) | refine List.forall_mem_cons.mpr ⟨?_, ?_⟩)) <;> (first | trivial | (refine Or.inl ?_; first | assumption | exact Nat.le_of_ble_eq_true rfl | exact Nat.lt_succ_self _ | (simp [ab_nx]; done) | (simp [ab_nx]; omega)))) ⟨by first | exact Nat.le_of_ble_eq_true rfl | (simp only [ab_rm]; omega), by first | exact Nat.le_of_ble_eq_true rfl | (simp only [ab_rm]; omega)⟩ (fun ad6 x6 => ?_)
  refine ab_widen (k := 1) (n := 4) (Nat.le_of_ble_eq_true rfl) (Nat.le_of_ble_eq_true rfl) ?_
  have hf1 : f < ab_nx N 9 3 := hf
  refine ab_putFR X fF_FM_11 (by first | exact Or.inl ⟨_, rfl⟩ | exact Or.inr ⟨_, rfl⟩) hin d_FM_init_9 hf1 ?_
  refine ab_aload_n X 0 d_FM_init_12 rfl rfl ?_
  have hG1 : ab_G (ab_nx N 9) (ab_ur u 3 f 0 (some (9, N 9))) := (hG.more (ab_nx_le N 9)).ur hf1 (Or.inl (Nat.lt_succ_self _))
  refine ab_new X nw_FM_15 d_FM_init_13 (by decide) (hG1) (by (repeat' (first | (intro q hq; exact absurd hq (List.not_mem_nil)) | refine List.forall_mem_cons.mpr ⟨?_, ?_⟩)) <;> (first | trivial | (refine Or.inl ?_; first | assumption | exact Nat.le_of_ble_eq_true rfl | exact Nat.lt_succ_self _ | (simp [ab_nx]; done) | (simp [ab_nx]; omega)))) (by (repeat' (first | (intro q hq; exact absurd hq (List.not_mem_nil)) | refine List.forall_mem_cons.mpr ⟨?_, ?_⟩)) <;> (first | trivial | (refine Or.inl ?_; first | assumption | exact Nat.le_of_ble_eq_true rfl | exact Nat.lt_succ_self _ | (simp [ab_nx]; done) | (simp [ab_nx]; omega)))) ⟨by first | exact Nat.le_of_ble_eq_true rfl | (simp only [ab_rm]; omega), by first | exact Nat.le_of_ble_eq_true rfl | (simp only [ab_rm]; omega)⟩ (fun ad13 x13 => ?_)
  refine ab_widen (k := 2) (n := 8) (Nat.le_of_ble_eq_true rfl) (Nat.le_of_ble_eq_true rfl) ?_
  refine ab_dup X d_FM_init_16 rfl ?_
  refine ab_bipush (v := 40) X d_FM_init_17 (by decide) ?_
  refine ab_top (v := nI (ab_ln 8 (N 8))) (by rw [h40]; rfl) ?_
  have hG2 : ab_G (ab_nx (ab_nx N 9) 4) (ab_ur u 3 f 0 (some (9, N 9))) := hG1.more (ab_nx_le _ 4)
  refine ab_callI (as := [ab_I (nI (ab_ln 8 (N 8)))]) X (c_RW_init (N := ab_nx (ab_nx N 9) 4) (ab_ur u 3 f 0 (some (9, N 9))) (N 4) (Nat.lt_succ_self _) hG2 (hG.1 4 (N 4) 1 (Nat.le_refl _)).1 (hG.1 4 (N 4) 2 (Nat.le_refl _)).1 (hG.1 4 (N 4) 3 (Nat.le_refl _)).1) lI_FM_17 d_FM_init_19 rfl rfl (by (repeat' (first | (intro q hq; exact absurd hq (List.not_mem_nil)) | refine List.forall_mem_cons.mpr ⟨?_, ?_⟩)) <;> (first | trivial | (refine Or.inl ?_; first | assumption | exact Nat.le_of_ble_eq_true rfl | exact Nat.lt_succ_self _ | (simp [ab_nx]; done) | (simp [ab_nx]; omega)))) (by (repeat' (first | (intro q hq; exact absurd hq (List.not_mem_nil)) | refine List.forall_mem_cons.mpr ⟨?_, ?_⟩)) <;> (first | trivial | (refine Or.inl ?_; first | assumption | exact Nat.le_of_ble_eq_true rfl | exact Nat.lt_succ_self _ | (simp [ab_nx]; done) | (simp [ab_nx]; omega)))) ⟨by first | exact Nat.le_of_ble_eq_true rfl | (simp only [ab_rm]; omega), by first | exact Nat.le_of_ble_eq_true rfl | (simp only [ab_rm]; omega)⟩ ⟨by first | exact Nat.le_of_ble_eq_true rfl | (simp only [ab_rm]; omega), by first | exact Nat.le_of_ble_eq_true rfl | (simp only [ab_rm]; omega)⟩ (Nat.le_of_ble_eq_true rfl) (fun ad19 u19 x19 h19 => ?_)
  obtain rfl := h19
  refine ab_widen (k := 3) (n := 48) (Nat.le_of_ble_eq_true rfl) (Nat.le_of_ble_eq_true rfl) ?_
  have hf2 : f < ab_nx (ab_nx (ab_nx N 9) 4) 8 3 := hf
  refine ab_putFR X fF_FM_20 (by first | exact Or.inl ⟨_, rfl⟩ | exact Or.inr ⟨_, rfl⟩) hin d_FM_init_22 hf2 ?_
  refine ab_aload_n X 0 d_FM_init_25 rfl rfl ?_
  refine ab_iconst (v := 0) X d_FM_init_26 (by decide) ?_
  refine ab_putI X fp_FM_24 d_FM_init_27 hf2 rfl rfl ?_
  refine ab_u (ab_ui_same (h0 4)) ?_
  refine ab_aload_n X 0 d_FM_init_30 rfl rfl ?_
  refine ab_iconst (v := 0) X d_FM_init_31 (by decide) ?_
  refine ab_putI X fp_FM_28 d_FM_init_32 hf2 rfl rfl ?_
  refine ab_u (ab_ui_same (h0 5)) ?_
  refine ab_aload_n X 0 d_FM_init_35 rfl rfl ?_
  refine ab_iconst (v := 0) X d_FM_init_36 (by decide) ?_
  refine ab_putI X fp_FM_31 d_FM_init_37 hf2 rfl rfl ?_
  refine ab_u (ab_ui_same (h0 6)) ?_
  refine ab_aload_n X 0 d_FM_init_40 rfl rfl ?_
  refine ab_iconst (v := 0) X d_FM_init_41 (by decide) ?_
  refine ab_putI X fp_FM_34 d_FM_init_42 hf2 rfl rfl ?_
  refine ab_u (ab_ui_same (h0 7)) ?_
  refine ab_aload_n X 0 d_FM_init_45 rfl rfl ?_
  refine ab_iconst (v := 0) X d_FM_init_46 (by decide) ?_
  refine ab_putI X fp_FM_37 d_FM_init_47 hf2 rfl rfl ?_
  refine ab_u (ab_ui_same (h0 8)) ?_
  refine ab_aload_n X 0 d_FM_init_50 rfl rfl ?_
  refine ab_iconst (v := 0) X d_FM_init_51 (by decide) ?_
  refine ab_putI X fp_FM_40 d_FM_init_52 hf2 rfl rfl ?_
  refine ab_u (ab_ui_same (h0 9)) ?_
  refine ab_aload_n X 0 d_FM_init_55 rfl rfl ?_
  refine ab_iload_n X 1 d_FM_init_56 rfl rfl ?_
  refine ab_putFI X fF_FM_43 hin d_FM_init_57 hf2 hz.1 hz.2 ?_
  refine ab_aload_n X 0 d_FM_init_60 rfl rfl ?_
  have hG3 : ab_G (ab_nx (ab_nx (ab_nx N 9) 4) 8) (ab_ui (ab_ur (ab_ur (ab_ur u 3 f 0 (some (9, N 9))) 4 (N 4) 0 (some (8, N 8))) 3 f 3 (some (4, N 4))) 3 f 1 d) := (((hG2.more (ab_nx_le _ 8)).ur (c := 4) (i := N 4) (k := 0) (r := some (8, N 8)) (Nat.lt_succ_self _) (Or.inl (Nat.lt_succ_self _))).ur (k := 3) (r := some (4, N 4)) hf2 (Or.inl (Nat.lt_succ_self _))).ui hf2 d
  refine ab_new X nw_FM_15 d_FM_init_61 (by decide) (hG3) (by (repeat' (first | (intro q hq; exact absurd hq (List.not_mem_nil)) | refine List.forall_mem_cons.mpr ⟨?_, ?_⟩)) <;> (first | trivial | (refine Or.inl ?_; first | assumption | exact Nat.le_of_ble_eq_true rfl | exact Nat.lt_succ_self _ | (simp [ab_nx]; done) | (simp [ab_nx]; omega)))) (by (repeat' (first | (intro q hq; exact absurd hq (List.not_mem_nil)) | refine List.forall_mem_cons.mpr ⟨?_, ?_⟩)) <;> (first | trivial | (refine Or.inl ?_; first | assumption | exact Nat.le_of_ble_eq_true rfl | exact Nat.lt_succ_self _ | (simp [ab_nx]; done) | (simp [ab_nx]; omega)))) ⟨by first | exact Nat.le_of_ble_eq_true rfl | (simp only [ab_rm]; omega), by first | exact Nat.le_of_ble_eq_true rfl | (simp only [ab_rm]; omega)⟩ (fun ad61 x61 => ?_)
  refine ab_widen (k := 4) (n := 52) (Nat.le_of_ble_eq_true rfl) (Nat.le_of_ble_eq_true rfl) ?_
  refine ab_dup X d_FM_init_64 rfl ?_
  refine ab_iload_n X 1 d_FM_init_65 rfl rfl ?_
  have hG4 : ab_G (ab_nx (ab_nx (ab_nx (ab_nx N 9) 4) 8) 4) (ab_ui (ab_ur (ab_ur (ab_ur u 3 f 0 (some (9, N 9))) 4 (N 4) 0 (some (8, N 8))) 3 f 3 (some (4, N 4))) 3 f 1 d) := hG3.more (ab_nx_le _ 4)
  have zr : ∀ k, (ab_ui (ab_ur (ab_ur (ab_ur u 3 f 0 (some (9, N 9))) 4 (N 4) 0 (some (8, N 8))) 3 f 3 (some (4, N 4))) 3 f 1 d).1 4 (N 4 + 1) k = 0 := fun k => (hG3.1 4 (N 4 + 1) k (Nat.le_refl _)).1
  have hcont : ∀ (adx : ab_Ad), ab_ex N ad adx → ab_J p l e (ab_rm 2 5 92) s m args below meth c (MQ below (ab_QA D ca ad N (ab_nF N) s.heap.size fun u' => u' = ab_form u f (N 9) (N 4) (N 8) d) args s 5 92 (ab_A ad N s.heap.size)) D ca (ab_A ad N s.heap.size) s.heap 2 4 52 adx (ab_nx (ab_nx (ab_nx (ab_nx N 9) 4) 8) 4) (ab_ui (ab_ur (ab_ur (ab_ur u 3 f 0 (some (9, N 9))) 4 (N 4) 0 (some (8, N 8))) 3 f 3 (some (4, N 4))) 3 f 1 d) 75 [(0, ab_O 3 f), (1, ab_I d)] [ab_I (nI (ab_ln 8 (N 8 + 1))), ab_O 4 (N 4 + 1), ab_O 4 (N 4 + 1), ab_O 3 f] := by
    intro adx hx
    refine ab_callI (as := [ab_I (nI (ab_ln 8 (N 8 + 1)))]) X (c_RW_init (N := ab_nx (ab_nx (ab_nx (ab_nx N 9) 4) 8) 4) (ab_ui (ab_ur (ab_ur (ab_ur u 3 f 0 (some (9, N 9))) 4 (N 4) 0 (some (8, N 8))) 3 f 3 (some (4, N 4))) 3 f 1 d) (N 4 + 1) (Nat.lt_succ_self _) hG4 (zr 1) (zr 2) (zr 3)) lI_FM_17 d_FM_init_75 rfl rfl (by (repeat' (first | (intro q hq; exact absurd hq (List.not_mem_nil)) | refine List.forall_mem_cons.mpr ⟨?_, ?_⟩)) <;> (first | trivial | (refine Or.inl ?_; first | assumption | exact Nat.le_of_ble_eq_true rfl | exact Nat.lt_succ_self _ | (simp [ab_nx]; done) | (simp [ab_nx]; omega)))) (by (repeat' (first | (intro q hq; exact absurd hq (List.not_mem_nil)) | refine List.forall_mem_cons.mpr ⟨?_, ?_⟩)) <;> (first | trivial | (refine Or.inl ?_; first | assumption | exact Nat.le_of_ble_eq_true rfl | exact Nat.lt_succ_self _ | (simp [ab_nx]; done) | (simp [ab_nx]; omega)))) ⟨by first | exact Nat.le_of_ble_eq_true rfl | (simp only [ab_rm]; omega), by first | exact Nat.le_of_ble_eq_true rfl | (simp only [ab_rm]; omega)⟩ ⟨by first | exact Nat.le_of_ble_eq_true rfl | (simp only [ab_rm]; omega), by first | exact Nat.le_of_ble_eq_true rfl | (simp only [ab_rm]; omega)⟩ (Nat.le_of_ble_eq_true rfl) (fun ad75 u75 x75 h75 => ?_)
    obtain rfl := h75
    refine ab_widen (k := 5) (n := 92) (Nat.le_of_ble_eq_true rfl) (Nat.le_of_ble_eq_true rfl) ?_
    have hf3 : f < ab_nF N 3 := hf
    refine ab_putFR X fF_FM_47 (by first | exact Or.inl ⟨_, rfl⟩ | exact Or.inr ⟨_, rfl⟩) hin d_FM_init_78 hf3 ?_
    exact ab_retA X hr0 hlk (ab_ex.trans hx (fun k => Nat.le_trans (ab_nx_le N 9 k) (Nat.le_trans (ab_nx_le _ 4 k) (Nat.le_trans (ab_nx_le _ 8 k) (ab_nx_le _ 4 k)))) x75) d_FM_init_81 rfl
  have hx : ab_ex N ad ad61 := ab_ex.trans (ab_ex.trans (ab_ex.trans x6 (ab_nx_le N 9) x13) (fun k => Nat.le_trans (ab_nx_le N 9 k) (ab_nx_le _ 4 k)) x19) (fun k => Nat.le_trans (ab_nx_le N 9 k) (Nat.le_trans (ab_nx_le _ 4 k) (ab_nx_le _ 8 k))) x61
  rcases hd0 with hd1 | hd1
  ·
    refine ab_if_eq X 74 d_FM_init_66 rfl (fun _ => ?_) (fun hb => absurd (hd1) hb)
    refine ab_iconst (v := 0) X d_FM_init_74 (by decide) ?_
    refine ab_top (v := nI (ab_ln 8 (N 8 + 1))) (by rw [h41, if_pos hd1]; rfl) ?_
    exact hcont ad61 hx
  ·
    refine ab_if_eq X 74 d_FM_init_66 rfl (fun hb => absurd hb ((by rw [hd1]; decide))) (fun _ => ?_)
    refine ab_bipush (v := 40) X d_FM_init_69 (by decide) ?_
    refine ab_goto X 75 d_FM_init_71 rfl ?_
    refine ab_top (v := nI (ab_ln 8 (N 8 + 1))) (by rw [h41, if_neg (by rw [hd1]; decide)]; rfl) ?_
    exact hcont ad61 hx
theorem ab_nF_le (N : Nat → Nat) (c : Nat) : N c ≤ ab_nF N c := Nat.le_trans (ab_nx_le N 9 c) (Nat.le_trans (ab_nx_le _ 4 c) (Nat.le_trans (ab_nx_le _ 8 c) (Nat.le_trans (ab_nx_le _ 4 c) (ab_nx_le _ 8 c))))
theorem ab_G_form {N : Nat → Nat} {u : ab_S} (hG : ab_G N u) {f : Nat} (hf : f < N 3) (d : Int32) : ab_G (ab_nF N) (ab_form u f (N 9) (N 4) (N 8) d) := by
  have h0 := hG.more (ab_nF_le N)
  have hf' : f < ab_nF N 3 := hf
  have h1 := h0.ur (k := 0) (r := some (9, N 9)) hf' (Or.inl (show N 9 < N 9 + 1 by omega))
  have h2 := h1.ur (c := 4) (i := N 4) (k := 0) (r := some (8, N 8)) (show N 4 < N 4 + 1 + 1 by omega) (Or.inl (show N 8 < N 8 + 1 + 1 by omega))
  have h3 := h2.ur (k := 3) (r := some (4, N 4)) hf' (Or.inl (show N 4 < N 4 + 1 + 1 by omega))
  have h4 := h3.ui (k := 1) hf' d
  have h5 := h4.ur (c := 4) (i := N 4 + 1) (k := 0) (r := some (8, N 8 + 1)) (show N 4 + 1 < N 4 + 1 + 1 by omega) (Or.inl (show N 8 + 1 < N 8 + 1 + 1 by omega))
  exact h5.ur (k := 2) (r := some (4, N 4 + 1)) hf' (Or.inl (show N 4 + 1 < N 4 + 1 + 1 by omega))
/-- the state behind new Part(): p the part, a its array, f, f + 1, f + 2 its forms -/
def ab_part (u : ab_S) (p a f t r i : Nat) : ab_S :=
  ab_ur (ab_form (ab_ur (ab_form (ab_ur (ab_form (ab_ur u 2 p 0 (some (10, a))) f t r i 0) 2 p 1 (some (3, f))) (f + 1) (t + 1) (r + 2) (i + 2) 1) 2 p 2 (some (3, f + 1))) (f + 2) (t + 2) (r + 4) (i + 4) 0) 2 p 3 (some (3, f + 2))
def ab_nP (N : Nat → Nat) : Nat → Nat := ab_nF (ab_nx (ab_nF (ab_nx (ab_nF (ab_nx (ab_nx N 10) 3)) 3)) 3)
theorem ab_nP_le (N : Nat → Nat) (c : Nat) : N c ≤ ab_nP N c := Nat.le_trans (ab_nx_le N 10 c) (Nat.le_trans (ab_nx_le _ 3 c) (Nat.le_trans (ab_nF_le _ c) (Nat.le_trans (ab_nx_le _ 3 c) (Nat.le_trans (ab_nF_le _ c) (Nat.le_trans (ab_nx_le _ 3 c) (ab_nF_le _ c))))))
theorem ab_form_1 (u : ab_S) (f t r i : Nat) (d : Int32) {c k : Nat} (j : Nat) (h : c ≠ 3) : (ab_form u f t r i d).1 c j k = u.1 c j k := by
  show ab_up u.1 3 f 1 d c j k = _
  exact ab_up_n _ _ fun q => h q.1
theorem ab_ln8e (p : Nat) (hp : p < 20) : ab_ln 8 (6 * p) = 40 ∧ ab_ln 8 (6 * p + 1) = 0 ∧ ab_ln 8 (6 * p + 2) = 40 ∧ ab_ln 8 (6 * p + 3) = 40 ∧ ab_ln 8 (6 * p + 4) = 40 ∧ ab_ln 8 (6 * p + 5) = 0 := by
  unfold ab_ln
  rw [if_pos rfl, if_pos rfl, if_pos rfl, if_pos rfl, if_pos rfl, if_pos rfl]
  refine ⟨if_neg (by omega), if_pos (by omega), if_neg (by omega), if_neg (by omega), if_neg (by omega), if_pos (by omega)⟩
abbrev b_PT_init : ByteArray := prog_5_method_1_code
def y_PT_init : MethodName := ⟨"PolicyForge$Part", "<init>", "()V"⟩
theorem d_PT_init_0 : decode b_PT_init 0 = .ok (.aload_n 0, 1) := by decide +kernel
theorem d_PT_init_1 : decode b_PT_init 1 = .ok (.invokespecial 3, 3) := by decide +kernel
theorem d_PT_init_4 : decode b_PT_init 4 = .ok (.aload_n 0, 1) := by decide +kernel
theorem d_PT_init_5 : decode b_PT_init 5 = .ok (.iconst 4, 1) := by decide +kernel
theorem d_PT_init_6 : decode b_PT_init 6 = .ok (.anewarray 9, 3) := by decide +kernel
theorem d_PT_init_9 : decode b_PT_init 9 = .ok (.putfield 11, 3) := by decide +kernel
theorem d_PT_init_12 : decode b_PT_init 12 = .ok (.aload_n 0, 1) := by decide +kernel
theorem d_PT_init_13 : decode b_PT_init 13 = .ok (.new 15, 3) := by decide +kernel
theorem d_PT_init_16 : decode b_PT_init 16 = .ok (.dup, 1) := by decide +kernel
theorem d_PT_init_17 : decode b_PT_init 17 = .ok (.iconst 0, 1) := by decide +kernel
theorem d_PT_init_18 : decode b_PT_init 18 = .ok (.invokespecial 17, 3) := by decide +kernel
theorem d_PT_init_21 : decode b_PT_init 21 = .ok (.putfield 20, 3) := by decide +kernel
theorem d_PT_init_24 : decode b_PT_init 24 = .ok (.aload_n 0, 1) := by decide +kernel
theorem d_PT_init_25 : decode b_PT_init 25 = .ok (.new 15, 3) := by decide +kernel
theorem d_PT_init_28 : decode b_PT_init 28 = .ok (.dup, 1) := by decide +kernel
theorem d_PT_init_29 : decode b_PT_init 29 = .ok (.iconst 1, 1) := by decide +kernel
theorem d_PT_init_30 : decode b_PT_init 30 = .ok (.invokespecial 17, 3) := by decide +kernel
theorem d_PT_init_33 : decode b_PT_init 33 = .ok (.putfield 24, 3) := by decide +kernel
theorem d_PT_init_36 : decode b_PT_init 36 = .ok (.aload_n 0, 1) := by decide +kernel
theorem d_PT_init_37 : decode b_PT_init 37 = .ok (.new 15, 3) := by decide +kernel
theorem d_PT_init_40 : decode b_PT_init 40 = .ok (.dup, 1) := by decide +kernel
theorem d_PT_init_41 : decode b_PT_init 41 = .ok (.iconst 0, 1) := by decide +kernel
theorem d_PT_init_42 : decode b_PT_init 42 = .ok (.invokespecial 17, 3) := by decide +kernel
theorem d_PT_init_45 : decode b_PT_init 45 = .ok (.putfield 27, 3) := by decide +kernel
theorem d_PT_init_48 : decode b_PT_init 48 = .ok (.aload_n 0, 1) := by decide +kernel
theorem d_PT_init_49 : decode b_PT_init 49 = .ok (.iconst 0, 1) := by decide +kernel
theorem d_PT_init_50 : decode b_PT_init 50 = .ok (.putfield 30, 3) := by decide +kernel
theorem d_PT_init_53 : decode b_PT_init 53 = .ok (.aload_n 0, 1) := by decide +kernel
theorem d_PT_init_54 : decode b_PT_init 54 = .ok (.iconst 0, 1) := by decide +kernel
theorem d_PT_init_55 : decode b_PT_init 55 = .ok (.putfield 34, 3) := by decide +kernel
theorem d_PT_init_58 : decode b_PT_init 58 = .ok (.aload_n 0, 1) := by decide +kernel
theorem d_PT_init_59 : decode b_PT_init 59 = .ok (.iconst 0, 1) := by decide +kernel
theorem d_PT_init_60 : decode b_PT_init 60 = .ok (.putfield 37, 3) := by decide +kernel
theorem d_PT_init_63 : decode b_PT_init 63 = .ok (.aload_n 0, 1) := by decide +kernel
theorem d_PT_init_64 : decode b_PT_init 64 = .ok (.iconst 0, 1) := by decide +kernel
theorem d_PT_init_65 : decode b_PT_init 65 = .ok (.putfield 40, 3) := by decide +kernel
theorem d_PT_init_68 : decode b_PT_init 68 = .ok (.return_, 1) := by decide +kernel
theorem oi_PT_3 : ∀ w ∈ ([.methodLink "PolicyForge$Part" 3 objectInit, .instanceMethod objectInit, .code objectInit ⟨#[0xb1]⟩ 1 none] : List Cond), w ∈ ab_T := List.forall_mem_cons.mpr ⟨(ab_in 134 (by decide +kernel) (by decide +kernel)), List.forall_mem_cons.mpr ⟨(ab_in 120 (by decide +kernel) (by decide +kernel)), List.forall_mem_cons.mpr ⟨(ab_in 121 (by decide +kernel) (by decide +kernel)), fun _ h => absurd h List.not_mem_nil⟩⟩⟩
theorem uw_PT : ∀ w ∈ u_ws R_PT T_PT 8, w ∈ ab_T := fun w h => List.mem_filter.mpr ⟨by have h2 := h; revert w; decide +kernel, by revert w; decide +kernel⟩
theorem fF_PT_11 : ab_fF "PolicyForge$Part" 11 2 0 1 (t_PT 0) := ⟨rfl, R_PT, T_PT, 8, t_PT, rfl, uw_PT, by decide, rfl, (ab_in 212 (by decide +kernel) (by decide +kernel)), t_PT_ok, n_PT, rfl, rfl, rfl⟩
theorem nw_PT_15 : ab_nw "PolicyForge$Part" 15 3 10 := ⟨rfl, R_FM, T_FM, t_FM, rfl, uw_FM, t_FM_ok, List.forall_mem_cons.mpr ⟨(ab_in 136 (by decide +kernel) (by decide +kernel)), List.forall_mem_cons.mpr ⟨(ab_in 137 (by decide +kernel) (by decide +kernel)), List.forall_mem_cons.mpr ⟨(ab_in 95 (by decide +kernel) (by decide +kernel)), fun _ h => absurd h List.not_mem_nil⟩⟩⟩, rfl, by decide +kernel⟩
theorem lI_PT_17 : ab_lI "PolicyForge$Part" 17 y_FM_init b_FM_init 2 1 := ⟨List.forall_mem_cons.mpr ⟨(ab_in 138 (by decide +kernel) (by decide +kernel)), List.forall_mem_cons.mpr ⟨(ab_in 139 (by decide +kernel) (by decide +kernel)), List.forall_mem_cons.mpr ⟨(ab_in 95 (by decide +kernel) (by decide +kernel)), List.forall_mem_cons.mpr ⟨(ab_in 140 (by decide +kernel) (by decide +kernel)), fun _ h => absurd h List.not_mem_nil⟩⟩⟩⟩, ⟨rfl, by decide +kernel, by decide +kernel, by decide +kernel⟩, by decide⟩
theorem fF_PT_20 : ab_fF "PolicyForge$Part" 20 2 1 1 (.object "PolicyForge$Form") := ⟨rfl, R_PT, T_PT, 8, t_PT, rfl, uw_PT, by decide, rfl, (ab_in 213 (by decide +kernel) (by decide +kernel)), t_PT_ok, n_PT, rfl, rfl, rfl⟩
theorem fF_PT_24 : ab_fF "PolicyForge$Part" 24 2 2 1 (.object "PolicyForge$Form") := ⟨rfl, R_PT, T_PT, 8, t_PT, rfl, uw_PT, by decide, rfl, (ab_in 215 (by decide +kernel) (by decide +kernel)), t_PT_ok, n_PT, rfl, rfl, rfl⟩
theorem fF_PT_27 : ab_fF "PolicyForge$Part" 27 2 3 1 (.object "PolicyForge$Form") := ⟨rfl, R_PT, T_PT, 8, t_PT, rfl, uw_PT, by decide, rfl, (ab_in 217 (by decide +kernel) (by decide +kernel)), t_PT_ok, n_PT, rfl, rfl, rfl⟩
theorem fp_PT_30 : ab_fp "PolicyForge$Part" 30 2 4 0 .int := ⟨rfl, R_PT, T_PT, 8, t_PT, rfl, uw_PT, by decide, rfl, (ab_in 219 (by decide +kernel) (by decide +kernel)), t_PT_ok, n_PT, rfl, rfl⟩
theorem fp_PT_34 : ab_fp "PolicyForge$Part" 34 2 5 0 .int := ⟨rfl, R_PT, T_PT, 8, t_PT, rfl, uw_PT, by decide, rfl, (ab_in 221 (by decide +kernel) (by decide +kernel)), t_PT_ok, n_PT, rfl, rfl⟩
theorem fp_PT_37 : ab_fp "PolicyForge$Part" 37 2 6 0 .int := ⟨rfl, R_PT, T_PT, 8, t_PT, rfl, uw_PT, by decide, rfl, (ab_in 223 (by decide +kernel) (by decide +kernel)), t_PT_ok, n_PT, rfl, rfl⟩
theorem fp_PT_40 : ab_fp "PolicyForge$Part" 40 2 7 0 .boolean := ⟨rfl, R_PT, T_PT, 8, t_PT, rfl, uw_PT, by decide, rfl, (ab_in 224 (by decide +kernel) (by decide +kernel)), t_PT_ok, n_PT, rfl, rfl⟩
set_option maxRecDepth 100000 in
set_option maxHeartbeats 8000000 in
theorem c_PT_init {l : Launch} {D : va_G} {ca : Nat → ClassId} {N : Nat → Nat} (u : ab_S) (p0 : Nat) (hp0 : p0 < 20) (hp : p0 < N 2) (h8 : N 8 = 6 * p0) (hG : ab_G N u) (h0 : ∀ k, u.1 2 p0 k = 0) : ab_CA l D ca y_PT_init b_PT_init 1 3 19 310 N u [ab_O 2 p0] (ab_nP N) (fun u' => u' = ab_part u p0 (N 10) (N 3) (N 9) (N 4) (N 8)) := by
  refine ab_CA.of (by decide) rfl (Nat.le_of_ble_eq_true rfl) ?_
  intro p e s m args below meth c ad X hr0 hlk hin
  obtain ⟨e0, e1, e2, e3, e4, e5⟩ := ab_ln8e p0 hp0
  rw [← h8] at e0 e1 e2 e3 e4 e5
  refine ab_aload_n X 0 d_PT_init_0 rfl rfl ?_
  refine ab_objInit X oi_PT_3 d_PT_init_1 ⟨by first | exact Nat.le_of_ble_eq_true rfl | (simp only [ab_rm]; omega), by first | exact Nat.le_of_ble_eq_true rfl | (simp only [ab_rm]; omega)⟩ (Nat.le_of_ble_eq_true rfl) ?_
  refine ab_aload_n X 0 d_PT_init_4 rfl rfl ?_
  refine ab_iconst (v := 4) X d_PT_init_5 (by decide) ?_
  refine ab_newq (c' := 10) X rfl ⟨(ab_in 135 (by decide +kernel) (by decide +kernel)), (List.mem_filter.mpr ⟨List.mem_of_getElem? (i := 129) (by decide +kernel), by decide +kernel⟩)⟩ (fun _ => rfl) d_PT_init_6 (rfl) (ab_ln_le _ _) (by decide) (hG) (by (repeat' (first | (intro q hq; exact absurd hq (List.not_mem_nil)) | refine List.forall_mem_cons.mpr ⟨?_, ?_⟩)) <;> (first | trivial | (refine Or.inl ?_; first | assumption | exact Nat.le_of_ble_eq_true rfl | exact Nat.lt_succ_self _ | (simp [ab_nx]; done) | (simp [ab_nx]; omega)))) (by (repeat' (first | (intro q hq; exact absurd hq (List.not_mem_nil)) | refine List.forall_mem_cons.mpr ⟨?_, ?_⟩)) <;> (first | trivial | (refine Or.inl ?_; first | assumption | exact Nat.le_of_ble_eq_true rfl | exact Nat.lt_succ_self _ | (simp [ab_nx]; done) | (simp [ab_nx]; omega)))) ⟨by first | exact Nat.le_of_ble_eq_true rfl | (simp only [ab_rm]; omega), by first | exact Nat.le_of_ble_eq_true rfl | (simp only [ab_rm]; omega)⟩ (fun ad6 x6 => ?_)
  refine ab_widen (k := 1) (n := 4) (Nat.le_of_ble_eq_true rfl) (Nat.le_of_ble_eq_true rfl) ?_
  refine ab_putFR X fF_PT_11 (by first | exact Or.inl ⟨_, rfl⟩ | exact Or.inr ⟨_, rfl⟩) hin d_PT_init_9 hp ?_
  refine ab_aload_n X 0 d_PT_init_12 rfl rfl ?_
  have hG1 : ab_G (ab_nx N 10) (ab_ur u 2 p0 0 (some (10, N 10))) := (hG.more (ab_nx_le N 10)).ur (c := 2) (i := p0) (k := 0) (r := some (10, N 10)) hp (Or.inl (Nat.lt_succ_self _))
  refine ab_new X nw_PT_15 d_PT_init_13 (by decide) (hG1) (by (repeat' (first | (intro q hq; exact absurd hq (List.not_mem_nil)) | refine List.forall_mem_cons.mpr ⟨?_, ?_⟩)) <;> (first | trivial | (refine Or.inl ?_; first | assumption | exact Nat.le_of_ble_eq_true rfl | exact Nat.lt_succ_self _ | (simp [ab_nx]; done) | (simp [ab_nx]; omega)))) (by (repeat' (first | (intro q hq; exact absurd hq (List.not_mem_nil)) | refine List.forall_mem_cons.mpr ⟨?_, ?_⟩)) <;> (first | trivial | (refine Or.inl ?_; first | assumption | exact Nat.le_of_ble_eq_true rfl | exact Nat.lt_succ_self _ | (simp [ab_nx]; done) | (simp [ab_nx]; omega)))) ⟨by first | exact Nat.le_of_ble_eq_true rfl | (simp only [ab_rm]; omega), by first | exact Nat.le_of_ble_eq_true rfl | (simp only [ab_rm]; omega)⟩ (fun ad13 x13 => ?_)
  refine ab_widen (k := 2) (n := 14) (Nat.le_of_ble_eq_true rfl) (Nat.le_of_ble_eq_true rfl) ?_
  refine ab_dup X d_PT_init_16 rfl ?_
  refine ab_iconst (v := 0) X d_PT_init_17 (by decide) ?_
  have hG2 := hG1.more (ab_nx_le _ 3)
  refine ab_callI (as := [ab_I 0]) X (c_FM_init (N := ab_nx (ab_nx N 10) 3) (ab_ur u 2 p0 0 (some (10, N 10))) (N 3) 0 (Nat.lt_succ_self _) hG2 (fun k => (hG1.1 3 (N 3) k (Nat.le_refl _)).1) (Or.inl rfl) e0 e1) lI_PT_17 d_PT_init_18 rfl rfl (by (repeat' (first | (intro q hq; exact absurd hq (List.not_mem_nil)) | refine List.forall_mem_cons.mpr ⟨?_, ?_⟩)) <;> (first | trivial | (refine Or.inl ?_; first | assumption | exact Nat.le_of_ble_eq_true rfl | exact Nat.lt_succ_self _ | (simp [ab_nx]; done) | (simp [ab_nx]; omega)))) (by (repeat' (first | (intro q hq; exact absurd hq (List.not_mem_nil)) | refine List.forall_mem_cons.mpr ⟨?_, ?_⟩)) <;> (first | trivial | (refine Or.inl ?_; first | assumption | exact Nat.le_of_ble_eq_true rfl | exact Nat.lt_succ_self _ | (simp [ab_nx]; done) | (simp [ab_nx]; omega)))) ⟨by first | exact Nat.le_of_ble_eq_true rfl | (simp only [ab_rm]; omega), by first | exact Nat.le_of_ble_eq_true rfl | (simp only [ab_rm]; omega)⟩ ⟨by first | exact Nat.le_of_ble_eq_true rfl | (simp only [ab_rm]; omega), by first | exact Nat.le_of_ble_eq_true rfl | (simp only [ab_rm]; omega)⟩ (Nat.le_of_ble_eq_true rfl) (fun ad18 u18 x18 h18 => ?_)
  obtain rfl := h18
  refine ab_widen (k := 7) (n := 106) (Nat.le_of_ble_eq_true rfl) (Nat.le_of_ble_eq_true rfl) ?_
  refine ab_putFR X fF_PT_20 (by first | exact Or.inl ⟨_, rfl⟩ | exact Or.inr ⟨_, rfl⟩) hin d_PT_init_21 hp ?_
  refine ab_aload_n X 0 d_PT_init_24 rfl rfl ?_
  have hG3 := (ab_G_form hG2 (f := N 3) (Nat.lt_succ_self _) 0).ur (c := 2) (i := p0) (k := 1) (r := some (3, N 3)) hp (Or.inl (Nat.lt_succ_self _))
  refine ab_new X nw_PT_15 d_PT_init_25 (by decide) (hG3) (by (repeat' (first | (intro q hq; exact absurd hq (List.not_mem_nil)) | refine List.forall_mem_cons.mpr ⟨?_, ?_⟩)) <;> (first | trivial | (refine Or.inl ?_; first | assumption | exact Nat.le_of_ble_eq_true rfl | exact Nat.lt_succ_self _ | (simp [ab_nx]; done) | (simp [ab_nx]; omega)))) (by (repeat' (first | (intro q hq; exact absurd hq (List.not_mem_nil)) | refine List.forall_mem_cons.mpr ⟨?_, ?_⟩)) <;> (first | trivial | (refine Or.inl ?_; first | assumption | exact Nat.le_of_ble_eq_true rfl | exact Nat.lt_succ_self _ | (simp [ab_nx]; done) | (simp [ab_nx]; omega)))) ⟨by first | exact Nat.le_of_ble_eq_true rfl | (simp only [ab_rm]; omega), by first | exact Nat.le_of_ble_eq_true rfl | (simp only [ab_rm]; omega)⟩ (fun ad25 x25 => ?_)
  refine ab_widen (k := 8) (n := 116) (Nat.le_of_ble_eq_true rfl) (Nat.le_of_ble_eq_true rfl) ?_
  refine ab_dup X d_PT_init_28 rfl ?_
  refine ab_iconst (v := 1) X d_PT_init_29 (by decide) ?_
  have hG4 := hG3.more (ab_nx_le _ 3)
  refine ab_callI (as := [ab_I 1]) X (c_FM_init (N := ab_nx (ab_nF (ab_nx (ab_nx N 10) 3)) 3) _ (N 3 + 1) 1 (Nat.lt_succ_self _) hG4 (fun k => (hG3.1 3 (N 3 + 1) k (Nat.le_refl _)).1) (Or.inr rfl) e2 e3) lI_PT_17 d_PT_init_30 rfl rfl (by (repeat' (first | (intro q hq; exact absurd hq (List.not_mem_nil)) | refine List.forall_mem_cons.mpr ⟨?_, ?_⟩)) <;> (first | trivial | (refine Or.inl ?_; first | assumption | exact Nat.le_of_ble_eq_true rfl | exact Nat.lt_succ_self _ | (simp [ab_nx]; done) | (simp [ab_nx]; omega)))) (by (repeat' (first | (intro q hq; exact absurd hq (List.not_mem_nil)) | refine List.forall_mem_cons.mpr ⟨?_, ?_⟩)) <;> (first | trivial | (refine Or.inl ?_; first | assumption | exact Nat.le_of_ble_eq_true rfl | exact Nat.lt_succ_self _ | (simp [ab_nx]; done) | (simp [ab_nx]; omega)))) ⟨by first | exact Nat.le_of_ble_eq_true rfl | (simp only [ab_rm]; omega), by first | exact Nat.le_of_ble_eq_true rfl | (simp only [ab_rm]; omega)⟩ ⟨by first | exact Nat.le_of_ble_eq_true rfl | (simp only [ab_rm]; omega), by first | exact Nat.le_of_ble_eq_true rfl | (simp only [ab_rm]; omega)⟩ (Nat.le_of_ble_eq_true rfl) (fun ad30 u30 x30 h30 => ?_)
  obtain rfl := h30
  refine ab_widen (k := 13) (n := 208) (Nat.le_of_ble_eq_true rfl) (Nat.le_of_ble_eq_true rfl) ?_
  refine ab_putFR X fF_PT_24 (by first | exact Or.inl ⟨_, rfl⟩ | exact Or.inr ⟨_, rfl⟩) hin d_PT_init_33 hp ?_
  refine ab_aload_n X 0 d_PT_init_36 rfl rfl ?_
  have hG5 := (ab_G_form hG4 (f := N 3 + 1) (Nat.lt_succ_self _) 1).ur (c := 2) (i := p0) (k := 2) (r := some (3, N 3 + 1)) hp (Or.inl (Nat.lt_succ_self _))
  refine ab_new X nw_PT_15 d_PT_init_37 (by decide) (hG5) (by (repeat' (first | (intro q hq; exact absurd hq (List.not_mem_nil)) | refine List.forall_mem_cons.mpr ⟨?_, ?_⟩)) <;> (first | trivial | (refine Or.inl ?_; first | assumption | exact Nat.le_of_ble_eq_true rfl | exact Nat.lt_succ_self _ | (simp [ab_nx]; done) | (simp [ab_nx]; omega)))) (by (repeat' (first | (intro q hq; exact absurd hq (List.not_mem_nil)) | refine List.forall_mem_cons.mpr ⟨?_, ?_⟩)) <;> (first | trivial | (refine Or.inl ?_; first | assumption | exact Nat.le_of_ble_eq_true rfl | exact Nat.lt_succ_self _ | (simp [ab_nx]; done) | (simp [ab_nx]; omega)))) ⟨by first | exact Nat.le_of_ble_eq_true rfl | (simp only [ab_rm]; omega), by first | exact Nat.le_of_ble_eq_true rfl | (simp only [ab_rm]; omega)⟩ (fun ad37 x37 => ?_)
  refine ab_widen (k := 14) (n := 218) (Nat.le_of_ble_eq_true rfl) (Nat.le_of_ble_eq_true rfl) ?_
  refine ab_dup X d_PT_init_40 rfl ?_
  refine ab_iconst (v := 0) X d_PT_init_41 (by decide) ?_
  have hG6 := hG5.more (ab_nx_le _ 3)
  refine ab_callI (as := [ab_I 0]) X (c_FM_init (N := ab_nx (ab_nF (ab_nx (ab_nF (ab_nx (ab_nx N 10) 3)) 3)) 3) _ (N 3 + 2) 0 (Nat.lt_succ_self _) hG6 (fun k => (hG5.1 3 (N 3 + 2) k (Nat.le_refl _)).1) (Or.inl rfl) e4 e5) lI_PT_17 d_PT_init_42 rfl rfl (by (repeat' (first | (intro q hq; exact absurd hq (List.not_mem_nil)) | refine List.forall_mem_cons.mpr ⟨?_, ?_⟩)) <;> (first | trivial | (refine Or.inl ?_; first | assumption | exact Nat.le_of_ble_eq_true rfl | exact Nat.lt_succ_self _ | (simp [ab_nx]; done) | (simp [ab_nx]; omega)))) (by (repeat' (first | (intro q hq; exact absurd hq (List.not_mem_nil)) | refine List.forall_mem_cons.mpr ⟨?_, ?_⟩)) <;> (first | trivial | (refine Or.inl ?_; first | assumption | exact Nat.le_of_ble_eq_true rfl | exact Nat.lt_succ_self _ | (simp [ab_nx]; done) | (simp [ab_nx]; omega)))) ⟨by first | exact Nat.le_of_ble_eq_true rfl | (simp only [ab_rm]; omega), by first | exact Nat.le_of_ble_eq_true rfl | (simp only [ab_rm]; omega)⟩ ⟨by first | exact Nat.le_of_ble_eq_true rfl | (simp only [ab_rm]; omega), by first | exact Nat.le_of_ble_eq_true rfl | (simp only [ab_rm]; omega)⟩ (Nat.le_of_ble_eq_true rfl) (fun ad42 u42 x42 h42 => ?_)
  obtain rfl := h42
  refine ab_widen (k := 19) (n := 310) (Nat.le_of_ble_eq_true rfl) (Nat.le_of_ble_eq_true rfl) ?_
  refine ab_putFR X fF_PT_27 (by first | exact Or.inl ⟨_, rfl⟩ | exact Or.inr ⟨_, rfl⟩) hin d_PT_init_45 hp ?_
  refine ab_aload_n X 0 d_PT_init_48 rfl rfl ?_
  refine ab_iconst (v := 0) X d_PT_init_49 (by decide) ?_
  refine ab_putI X fp_PT_30 d_PT_init_50 hp rfl rfl ?_
  refine ab_u (ab_ui_same (h0 4)) ?_
  refine ab_aload_n X 0 d_PT_init_53 rfl rfl ?_
  refine ab_iconst (v := 0) X d_PT_init_54 (by decide) ?_
  refine ab_putI X fp_PT_34 d_PT_init_55 hp rfl rfl ?_
  refine ab_u (ab_ui_same (h0 5)) ?_
  refine ab_aload_n X 0 d_PT_init_58 rfl rfl ?_
  refine ab_iconst (v := 0) X d_PT_init_59 (by decide) ?_
  refine ab_putI X fp_PT_37 d_PT_init_60 hp rfl rfl ?_
  refine ab_u (ab_ui_same (h0 6)) ?_
  refine ab_aload_n X 0 d_PT_init_63 rfl rfl ?_
  refine ab_iconst (v := 0) X d_PT_init_64 (by decide) ?_
  refine ab_putI X fp_PT_40 d_PT_init_65 hp (by decide +kernel) (by decide +kernel) ?_
  refine ab_u (ab_ui_same (h0 7)) ?_
  have y1 := ab_ex.trans x6 (ab_nx_le N 10) x13
  have y2 := ab_ex.trans y1 (fun k => Nat.le_trans (ab_nx_le N 10 k) (ab_nx_le _ 3 k)) x18
  have y3 := ab_ex.trans y2 (fun k => Nat.le_trans (ab_nx_le N 10 k) (Nat.le_trans (ab_nx_le _ 3 k) (ab_nF_le _ k))) x25
  have y4 := ab_ex.trans y3 (fun k => Nat.le_trans (ab_nx_le N 10 k) (Nat.le_trans (ab_nx_le _ 3 k) (Nat.le_trans (ab_nF_le _ k) (ab_nx_le _ 3 k)))) x30
  have y5 := ab_ex.trans y4 (fun k => Nat.le_trans (ab_nx_le N 10 k) (Nat.le_trans (ab_nx_le _ 3 k) (Nat.le_trans (ab_nF_le _ k) (Nat.le_trans (ab_nx_le _ 3 k) (ab_nF_le _ k))))) x37
  have y6 := ab_ex.trans y5 (fun k => Nat.le_trans (ab_nx_le N 10 k) (Nat.le_trans (ab_nx_le _ 3 k) (Nat.le_trans (ab_nF_le _ k) (Nat.le_trans (ab_nx_le _ 3 k) (Nat.le_trans (ab_nF_le _ k) (ab_nx_le _ 3 k)))))) x42
  exact ab_retA X hr0 hlk y6 d_PT_init_68 rfl
theorem ab_G_part {N : Nat → Nat} {u : ab_S} (hG : ab_G N u) {p0 : Nat} (hp : p0 < N 2) : ab_G (ab_nP N) (ab_part u p0 (N 10) (N 3) (N 9) (N 4) (N 8)) := by
  have hG1 : ab_G (ab_nx N 10) (ab_ur u 2 p0 0 (some (10, N 10))) := (hG.more (ab_nx_le N 10)).ur (c := 2) (i := p0) (k := 0) (r := some (10, N 10)) hp (Or.inl (Nat.lt_succ_self _))
  have hG2 := hG1.more (ab_nx_le _ 3)
  have hG3 := (ab_G_form hG2 (f := N 3) (Nat.lt_succ_self _) 0).ur (c := 2) (i := p0) (k := 1) (r := some (3, N 3)) hp (Or.inl (Nat.lt_succ_self _))
  have hG4 := hG3.more (ab_nx_le _ 3)
  have hG5 := (ab_G_form hG4 (f := N 3 + 1) (Nat.lt_succ_self _) 1).ur (c := 2) (i := p0) (k := 2) (r := some (3, N 3 + 1)) hp (Or.inl (Nat.lt_succ_self _))
  have hG6 := hG5.more (ab_nx_le _ 3)
  exact (ab_G_form hG6 (f := N 3 + 2) (Nat.lt_succ_self _) 0).ur (c := 2) (i := p0) (k := 3) (r := some (3, N 3 + 2)) hp (Or.inl (Nat.lt_succ_self _))

