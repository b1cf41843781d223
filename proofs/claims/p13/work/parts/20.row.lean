/-! Row: start, add, weightOf. -/
def ab_N (c : Nat) : Nat := ([1, 1, 20, 61, 124, 1, 1, 1, 124, 61, 20, 1, 1, 1, 1, 1, 1, 1, 21, 1, 1] : List Nat).getD c 0
theorem ab_getD_le {l : List Nat} {b : Nat} (h : ∀ x ∈ l, x ≤ b) (i : Nat) : l.getD i 0 ≤ b := by
  rw [List.getD_eq_getElem?_getD]
  cases hx : l[i]? with
  | none => simp
  | some x => simpa using h x (List.mem_of_getElem? hx)
theorem ab_ln_lt (c i : Nat) : ab_ln c i < 2 ^ 31 := by
  have : ab_ln c i ≤ 7200 := by
    unfold ab_ln
    split
    · split <;> omega
    · split
      · exact ab_getD_le (by decide) i
      · exact ab_getD_le (by decide) c
  omega
abbrev b_RW_start : ByteArray := prog_7_method_2_code
def y_RW_start : MethodName := ⟨"PolicyForge$Row", "start", "()V"⟩
theorem d_RW_start_0 : decode b_RW_start 0 = .ok (.aload_n 0, 1) := by decide +kernel
theorem d_RW_start_1 : decode b_RW_start 1 = .ok (.iconst 0, 1) := by decide +kernel
theorem d_RW_start_2 : decode b_RW_start 2 = .ok (.putfield 9, 3) := by decide +kernel
theorem d_RW_start_5 : decode b_RW_start 5 = .ok (.aload_n 0, 1) := by decide +kernel
theorem d_RW_start_6 : decode b_RW_start 6 = .ok (.iconst 0, 1) := by decide +kernel
theorem d_RW_start_7 : decode b_RW_start 7 = .ok (.putfield 15, 3) := by decide +kernel
theorem d_RW_start_10 : decode b_RW_start 10 = .ok (.aload_n 0, 1) := by decide +kernel
theorem d_RW_start_11 : decode b_RW_start 11 = .ok (.iconst 1, 1) := by decide +kernel
theorem d_RW_start_12 : decode b_RW_start 12 = .ok (.putfield 18, 3) := by decide +kernel
theorem d_RW_start_15 : decode b_RW_start 15 = .ok (.return_, 1) := by decide +kernel
theorem uw_RW : ∀ w ∈ u_ws R_RW T_RW 4, w ∈ ab_T := fun w h => List.mem_filter.mpr ⟨by have h2 := h; revert w; decide +kernel, by revert w; decide +kernel⟩
theorem fp_RW_9 : ab_fp "PolicyForge$Row" 9 4 1 0 .int := ⟨rfl, R_RW, T_RW, 4, t_RW, rfl, uw_RW, by decide, rfl, (ab_in 153 (by decide +kernel) (by decide +kernel)), t_RW_ok, n_RW, rfl, rfl⟩
theorem fp_RW_15 : ab_fp "PolicyForge$Row" 15 4 2 0 .int := ⟨rfl, R_RW, T_RW, 4, t_RW, rfl, uw_RW, by decide, rfl, (ab_in 156 (by decide +kernel) (by decide +kernel)), t_RW_ok, n_RW, rfl, rfl⟩
theorem fp_RW_18 : ab_fp "PolicyForge$Row" 18 4 3 0 .boolean := ⟨rfl, R_RW, T_RW, 4, t_RW, rfl, uw_RW, by decide, rfl, (ab_in 159 (by decide +kernel) (by decide +kernel)), t_RW_ok, n_RW, rfl, rfl⟩
set_option maxRecDepth 100000 in
set_option maxHeartbeats 4000000 in
theorem c_RW_start {l : Launch} {D : va_G} {ca : Nat → ClassId} {N : Nat → Nat} (u : ab_S) (r : Nat) (hr : r < N 4) : ab_C false l D ca y_RW_start b_RW_start 1 none 0 N u [ab_O 4 r] (fun u' v => u' = ab_ui (ab_ui (ab_ui u 4 r 1 0) 4 r 2 0) 4 r 3 1 ∧ v = none) := by
  refine ab_C.of (by decide) (Nat.le_of_ble_eq_true rfl) ?_
  intro p e s m args below meth c ad X hZ hr0 hlk
  refine ab_aload_n X 0 d_RW_start_0 rfl rfl ?_
  refine ab_iconst (v := 0) X d_RW_start_1 (by decide) ?_
  refine ab_putI X fp_RW_9 d_RW_start_2 (by first | assumption | decide) rfl rfl ?_
  refine ab_aload_n X 0 d_RW_start_5 rfl rfl ?_
  refine ab_iconst (v := 0) X d_RW_start_6 (by decide) ?_
  refine ab_putI X fp_RW_15 d_RW_start_7 (by first | assumption | decide) rfl rfl ?_
  refine ab_aload_n X 0 d_RW_start_10 rfl rfl ?_
  refine ab_iconst (v := 1) X d_RW_start_11 (by decide) ?_
  refine ab_putI X fp_RW_18 d_RW_start_12 (by first | assumption | decide) (by decide +kernel) (by decide +kernel) ?_
  exact ab_retv X hr0 hlk d_RW_start_15 ⟨rfl, rfl⟩
abbrev b_RW_weightOf : ByteArray := prog_7_method_8_code
def y_RW_weightOf : MethodName := ⟨"PolicyForge$Row", "weightOf", "(I)I"⟩
theorem d_RW_weightOf_0 : decode b_RW_weightOf 0 = .ok (.iload_n 0, 1) := by decide +kernel
theorem d_RW_weightOf_1 : decode b_RW_weightOf 1 = .ok (.bipush 20, 2) := by decide +kernel
theorem d_RW_weightOf_3 : decode b_RW_weightOf 3 = .ok (.if_icmp .lt 5, 3) := by decide +kernel
theorem d_RW_weightOf_6 : decode b_RW_weightOf 6 = .ok (.iconst 5, 1) := by decide +kernel
theorem d_RW_weightOf_7 : decode b_RW_weightOf 7 = .ok (.ireturn, 1) := by decide +kernel
theorem d_RW_weightOf_8 : decode b_RW_weightOf 8 = .ok (.iload_n 0, 1) := by decide +kernel
theorem d_RW_weightOf_9 : decode b_RW_weightOf 9 = .ok (.bipush 10, 2) := by decide +kernel
theorem d_RW_weightOf_11 : decode b_RW_weightOf 11 = .ok (.if_icmp .lt 8, 3) := by decide +kernel
theorem d_RW_weightOf_14 : decode b_RW_weightOf 14 = .ok (.bipush 9, 2) := by decide +kernel
theorem d_RW_weightOf_16 : decode b_RW_weightOf 16 = .ok (.goto 4, 3) := by decide +kernel
theorem d_RW_weightOf_19 : decode b_RW_weightOf 19 = .ok (.iconst 1, 1) := by decide +kernel
theorem d_RW_weightOf_20 : decode b_RW_weightOf 20 = .ok (.ireturn, 1) := by decide +kernel
set_option maxRecDepth 100000 in
set_option maxHeartbeats 4000000 in
theorem c_RW_weightOf {l : Launch} {D : va_G} {ca : Nat → ClassId} {N : Nat → Nat} (u : ab_S) (x : Int32) : ab_C false l D ca y_RW_weightOf b_RW_weightOf 1 (some .int) 0 N u [ab_I x] (fun u' v => u' = u ∧ v = some (ab_I (if 20 ≤ x then 5 else if 10 ≤ x then 9 else 1))) := by
  refine ab_C.of (by decide) (Nat.le_of_ble_eq_true rfl) ?_
  intro p e s m args below meth c ad X hZ hr0 hlk
  refine ab_iload_n X 0 d_RW_weightOf_0 rfl rfl ?_
  refine ab_bipush (v := 20) X d_RW_weightOf_1 (by decide) ?_
  refine ab_icmp_lt X 8 d_RW_weightOf_3 rfl (fun h3 => ?_) (fun h3 => ?_)
  ·
    refine ab_iload_n X 0 d_RW_weightOf_8 rfl rfl ?_
    refine ab_bipush (v := 10) X d_RW_weightOf_9 (by decide) ?_
    refine ab_icmp_lt X 19 d_RW_weightOf_11 rfl (fun h11 => ?_) (fun h11 => ?_)
    ·
      refine ab_iconst (v := 1) X d_RW_weightOf_19 (by decide) ?_
      exact ab_reti X hr0 hlk d_RW_weightOf_20 ⟨rfl, by rw [if_neg (Int32.not_le.mpr h3), if_neg (Int32.not_le.mpr h11)]⟩
    ·
      refine ab_bipush (v := 9) X d_RW_weightOf_14 (by decide) ?_
      refine ab_goto X 20 d_RW_weightOf_16 rfl ?_
      exact ab_reti X hr0 hlk d_RW_weightOf_20 ⟨rfl, by rw [if_neg (Int32.not_le.mpr h3), if_pos (Int32.not_lt.mp h11)]⟩
  ·
    refine ab_iconst (v := 5) X d_RW_weightOf_6 (by decide) ?_
    exact ab_reti X hr0 hlk d_RW_weightOf_7 ⟨rfl, by rw [if_pos (Int32.not_lt.mp h3)]⟩

