section SaMach
variable {l : Launch} {D : va_G} {ca : Nat → ClassId}
abbrev b_MA_push : ByteArray := prog_4_method_11_code
def y_MA_push : MethodName := ⟨"PolicyForge$Machine", "push", "(I)V"⟩
theorem d_MA_push_0 : decode b_MA_push 0 = .ok (.aload_n 0, 1) := by decide +kernel
theorem d_MA_push_1 : decode b_MA_push 1 = .ok (.getfield 18, 3) := by decide +kernel
theorem d_MA_push_4 : decode b_MA_push 4 = .ok (.aload_n 0, 1) := by decide +kernel
theorem d_MA_push_5 : decode b_MA_push 5 = .ok (.getfield 9, 3) := by decide +kernel
theorem d_MA_push_8 : decode b_MA_push 8 = .ok (.arraylength, 1) := by decide +kernel
theorem d_MA_push_9 : decode b_MA_push 9 = .ok (.if_icmp .ge 23, 3) := by decide +kernel
theorem d_MA_push_12 : decode b_MA_push 12 = .ok (.aload_n 0, 1) := by decide +kernel
theorem d_MA_push_13 : decode b_MA_push 13 = .ok (.getfield 9, 3) := by decide +kernel
theorem d_MA_push_16 : decode b_MA_push 16 = .ok (.aload_n 0, 1) := by decide +kernel
theorem d_MA_push_17 : decode b_MA_push 17 = .ok (.getfield 18, 3) := by decide +kernel
theorem d_MA_push_20 : decode b_MA_push 20 = .ok (.iload_n 1, 1) := by decide +kernel
theorem d_MA_push_21 : decode b_MA_push 21 = .ok (.iastore, 1) := by decide +kernel
theorem d_MA_push_22 : decode b_MA_push 22 = .ok (.aload_n 0, 1) := by decide +kernel
theorem d_MA_push_23 : decode b_MA_push 23 = .ok (.dup, 1) := by decide +kernel
theorem d_MA_push_24 : decode b_MA_push 24 = .ok (.getfield 18, 3) := by decide +kernel
theorem d_MA_push_27 : decode b_MA_push 27 = .ok (.iconst 1, 1) := by decide +kernel
theorem d_MA_push_28 : decode b_MA_push 28 = .ok (.iadd, 1) := by decide +kernel
theorem d_MA_push_29 : decode b_MA_push 29 = .ok (.putfield 18, 3) := by decide +kernel
theorem d_MA_push_32 : decode b_MA_push 32 = .ok (.return_, 1) := by decide +kernel
theorem fl_MA_18 : ab_fl "PolicyForge$Machine" 18 7 2 0 := ⟨rfl, R_MA, T_MA, 7, rfl, uw_MA, by decide, rfl, (ab_in 330 (by decide +kernel) (by decide +kernel))⟩
theorem fl_MA_9 : ab_fl "PolicyForge$Machine" 9 7 0 1 := ⟨rfl, R_MA, T_MA, 7, rfl, uw_MA, by decide, rfl, (ab_in 328 (by decide +kernel) (by decide +kernel))⟩
set_option maxRecDepth 100000 in
set_option maxHeartbeats 1000000 in
theorem s_MA_push (u : ab_S) (x : Int32) (h : CI u) : ab_C false l D ca y_MA_push b_MA_push 2 none 0 ab_nQ u [ab_O 7 0, ab_I x] (fun u' v => mQ u u' ∧ v = none) := by
  refine ab_C.of (by decide) (Nat.le_of_ble_eq_true rfl) ?_
  intro p e s m args below meth c ad X hZ hr0 hlk
  have P0 : mQ u u := mQ.rf h
  obtain ⟨⟨n, hn, en⟩, -, -⟩ := h.ma
  refine ab_aload_n X 0 d_MA_push_0 rfl rfl ?_
  refine ab_gI X fl_MA_18 d_MA_push_1 (by first | assumption | decide | (show _ < 124; omega) | (show _ < 61; omega) | (show _ < 20; omega)) (en) ?_
  refine ab_aload_n X 0 d_MA_push_4 rfl rfl ?_
  refine ab_gR X fl_MA_9 d_MA_push_5 (by first | assumption | decide | (show _ < 124; omega) | (show _ < 61; omega) | (show _ < 20; omega)) (P0.1.ma0) ?_
  refine ab_alen X ⟨by decide, _, fun _ => rfl⟩ d_MA_push_8 (by first | assumption | decide | (show _ < 124; omega) | (show _ < 61; omega) | (show _ < 20; omega)) (rfl) ?_
  refine ab_icmp_ge X 32 d_MA_push_9 rfl (fun h9 => ?_) (fun h9 => ?_)
  ·
    exact ab_retv X hr0 hlk d_MA_push_32 ⟨P0, rfl⟩
  ·
    have hn1 : n < 168 := nI_lt_of h9 (by omega)
    refine ab_aload_n X 0 d_MA_push_12 rfl rfl ?_
    refine ab_gR X fl_MA_9 d_MA_push_13 (by first | assumption | decide | (show _ < 124; omega) | (show _ < 61; omega) | (show _ < 20; omega)) (P0.1.ma0) ?_
    refine ab_aload_n X 0 d_MA_push_16 rfl rfl ?_
    refine ab_gI X fl_MA_18 d_MA_push_17 (by first | assumption | decide | (show _ < 124; omega) | (show _ < 61; omega) | (show _ < 20; omega)) (en) ?_
    refine ab_iload_n X 1 d_MA_push_20 rfl rfl ?_
    refine ab_iast X (n) ⟨rfl, rfl⟩ d_MA_push_21 (by first | assumption | decide | (show _ < 124; omega) | (show _ < 61; omega) | (show _ < 20; omega)) (rfl) (hn1) (ab_ln_lt _ _) ?_
    refine ab_gen (fun u21 e21 => ?_)
    have P21 : mQ u u21 := by rw [e21]; exact P0.ui rfl (by decide)
    refine ab_aload_n X 0 d_MA_push_22 rfl rfl ?_
    refine ab_dup X d_MA_push_23 rfl ?_
    refine ab_gI X fl_MA_18 d_MA_push_24 (by first | assumption | decide | (show _ < 124; omega) | (show _ < 61; omega) | (show _ < 20; omega)) ((show _ = nI n by rw [e21]; simpa [ab_up] using en)) ?_
    refine ab_iconst (v := 1) X d_MA_push_27 (by decide) ?_
    refine ab_iadd X d_MA_push_28 ?_
    refine ab_top (nI_1 _) ?_
    refine ab_putI X fp_MA_18 d_MA_push_29 (by first | assumption | decide | (show _ < 124; omega) | (show _ < 61; omega) | (show _ < 20; omega)) rfl rfl ?_
    refine ab_gen (fun u29 e29 => ?_)
    have P29 : mQ u u29 := by rw [e29]; exact P21.m2 (by omega)
    exact ab_retv X hr0 hlk d_MA_push_32 ⟨P29, rfl⟩
abbrev b_MA_pushAside : ByteArray := prog_4_method_14_code
def y_MA_pushAside : MethodName := ⟨"PolicyForge$Machine", "pushAside", "(I)V"⟩
theorem d_MA_pushAside_0 : decode b_MA_pushAside 0 = .ok (.aload_n 0, 1) := by decide +kernel
theorem d_MA_pushAside_1 : decode b_MA_pushAside 1 = .ok (.getfield 22, 3) := by decide +kernel
theorem d_MA_pushAside_4 : decode b_MA_pushAside 4 = .ok (.aload_n 0, 1) := by decide +kernel
theorem d_MA_pushAside_5 : decode b_MA_pushAside 5 = .ok (.getfield 15, 3) := by decide +kernel
theorem d_MA_pushAside_8 : decode b_MA_pushAside 8 = .ok (.arraylength, 1) := by decide +kernel
theorem d_MA_pushAside_9 : decode b_MA_pushAside 9 = .ok (.if_icmp .ge 23, 3) := by decide +kernel
theorem d_MA_pushAside_12 : decode b_MA_pushAside 12 = .ok (.aload_n 0, 1) := by decide +kernel
theorem d_MA_pushAside_13 : decode b_MA_pushAside 13 = .ok (.getfield 15, 3) := by decide +kernel
theorem d_MA_pushAside_16 : decode b_MA_pushAside 16 = .ok (.aload_n 0, 1) := by decide +kernel
theorem d_MA_pushAside_17 : decode b_MA_pushAside 17 = .ok (.getfield 22, 3) := by decide +kernel
theorem d_MA_pushAside_20 : decode b_MA_pushAside 20 = .ok (.iload_n 1, 1) := by decide +kernel
theorem d_MA_pushAside_21 : decode b_MA_pushAside 21 = .ok (.iastore, 1) := by decide +kernel
theorem d_MA_pushAside_22 : decode b_MA_pushAside 22 = .ok (.aload_n 0, 1) := by decide +kernel
theorem d_MA_pushAside_23 : decode b_MA_pushAside 23 = .ok (.dup, 1) := by decide +kernel
theorem d_MA_pushAside_24 : decode b_MA_pushAside 24 = .ok (.getfield 22, 3) := by decide +kernel
theorem d_MA_pushAside_27 : decode b_MA_pushAside 27 = .ok (.iconst 1, 1) := by decide +kernel
theorem d_MA_pushAside_28 : decode b_MA_pushAside 28 = .ok (.iadd, 1) := by decide +kernel
theorem d_MA_pushAside_29 : decode b_MA_pushAside 29 = .ok (.putfield 22, 3) := by decide +kernel
theorem d_MA_pushAside_32 : decode b_MA_pushAside 32 = .ok (.return_, 1) := by decide +kernel
theorem fl_MA_22 : ab_fl "PolicyForge$Machine" 22 7 3 0 := ⟨rfl, R_MA, T_MA, 7, rfl, uw_MA, by decide, rfl, (ab_in 331 (by decide +kernel) (by decide +kernel))⟩
theorem fl_MA_15 : ab_fl "PolicyForge$Machine" 15 7 1 1 := ⟨rfl, R_MA, T_MA, 7, rfl, uw_MA, by decide, rfl, (ab_in 329 (by decide +kernel) (by decide +kernel))⟩
set_option maxRecDepth 100000 in
set_option maxHeartbeats 1000000 in
theorem s_MA_pushAside (u : ab_S) (x : Int32) (h : CI u) : ab_C false l D ca y_MA_pushAside b_MA_pushAside 2 none 0 ab_nQ u [ab_O 7 0, ab_I x] (fun u' v => mQ u u' ∧ v = none) := by
  refine ab_C.of (by decide) (Nat.le_of_ble_eq_true rfl) ?_
  intro p e s m args below meth c ad X hZ hr0 hlk
  have P0 : mQ u u := mQ.rf h
  obtain ⟨-, ⟨n, hn, en⟩, -⟩ := h.ma
  refine ab_aload_n X 0 d_MA_pushAside_0 rfl rfl ?_
  refine ab_gI X fl_MA_22 d_MA_pushAside_1 (by first | assumption | decide | (show _ < 124; omega) | (show _ < 61; omega) | (show _ < 20; omega)) (en) ?_
  refine ab_aload_n X 0 d_MA_pushAside_4 rfl rfl ?_
  refine ab_gR X fl_MA_15 d_MA_pushAside_5 (by first | assumption | decide | (show _ < 124; omega) | (show _ < 61; omega) | (show _ < 20; omega)) (P0.1.ma1) ?_
  refine ab_alen X ⟨by decide, _, fun _ => rfl⟩ d_MA_pushAside_8 (by first | assumption | decide | (show _ < 124; omega) | (show _ < 61; omega) | (show _ < 20; omega)) (rfl) ?_
  refine ab_icmp_ge X 32 d_MA_pushAside_9 rfl (fun h9 => ?_) (fun h9 => ?_)
  ·
    exact ab_retv X hr0 hlk d_MA_pushAside_32 ⟨P0, rfl⟩
  ·
    have hn1 : n < 128 := nI_lt_of h9 (by omega)
    refine ab_aload_n X 0 d_MA_pushAside_12 rfl rfl ?_
    refine ab_gR X fl_MA_15 d_MA_pushAside_13 (by first | assumption | decide | (show _ < 124; omega) | (show _ < 61; omega) | (show _ < 20; omega)) (P0.1.ma1) ?_
    refine ab_aload_n X 0 d_MA_pushAside_16 rfl rfl ?_
    refine ab_gI X fl_MA_22 d_MA_pushAside_17 (by first | assumption | decide | (show _ < 124; omega) | (show _ < 61; omega) | (show _ < 20; omega)) (en) ?_
    refine ab_iload_n X 1 d_MA_pushAside_20 rfl rfl ?_
    refine ab_iast X (n) ⟨rfl, rfl⟩ d_MA_pushAside_21 (by first | assumption | decide | (show _ < 124; omega) | (show _ < 61; omega) | (show _ < 20; omega)) (rfl) (hn1) (ab_ln_lt _ _) ?_
    refine ab_gen (fun u21 e21 => ?_)
    have P21 : mQ u u21 := by rw [e21]; exact P0.ui rfl (by decide)
    refine ab_aload_n X 0 d_MA_pushAside_22 rfl rfl ?_
    refine ab_dup X d_MA_pushAside_23 rfl ?_
    refine ab_gI X fl_MA_22 d_MA_pushAside_24 (by first | assumption | decide | (show _ < 124; omega) | (show _ < 61; omega) | (show _ < 20; omega)) ((show _ = nI n by rw [e21]; simpa [ab_up] using en)) ?_
    refine ab_iconst (v := 1) X d_MA_pushAside_27 (by decide) ?_
    refine ab_iadd X d_MA_pushAside_28 ?_
    refine ab_top (nI_1 _) ?_
    refine ab_putI X fp_MA_22 d_MA_pushAside_29 (by first | assumption | decide | (show _ < 124; omega) | (show _ < 61; omega) | (show _ < 20; omega)) rfl rfl ?_
    refine ab_gen (fun u29 e29 => ?_)
    have P29 : mQ u u29 := by rw [e29]; exact P21.m3 (by omega)
    exact ab_retv X hr0 hlk d_MA_pushAside_32 ⟨P29, rfl⟩
theorem nI_m1 {n : Nat} (h : 0 < n) : nI n - 1 = nI (n - 1) := by
  obtain ⟨k, rfl⟩ : ∃ k, n = k + 1 := ⟨n - 1, by omega⟩
  rw [show k + 1 - 1 = k by omega, nI_succ]
  exact Int32.add_sub_cancel _ _
abbrev b_MA_take : ByteArray := prog_4_method_12_code
def y_MA_take : MethodName := ⟨"PolicyForge$Machine", "take", "()I"⟩
theorem d_MA_take_0 : decode b_MA_take 0 = .ok (.aload_n 0, 1) := by decide +kernel
theorem d_MA_take_1 : decode b_MA_take 1 = .ok (.getfield 18, 3) := by decide +kernel
theorem d_MA_take_4 : decode b_MA_take 4 = .ok (.ifCond .ne 10, 3) := by decide +kernel
theorem d_MA_take_7 : decode b_MA_take 7 = .ok (.aload_n 0, 1) := by decide +kernel
theorem d_MA_take_8 : decode b_MA_take 8 = .ok (.iconst 1, 1) := by decide +kernel
theorem d_MA_take_9 : decode b_MA_take 9 = .ok (.putfield 31, 3) := by decide +kernel
theorem d_MA_take_12 : decode b_MA_take 12 = .ok (.iconst 0, 1) := by decide +kernel
theorem d_MA_take_13 : decode b_MA_take 13 = .ok (.ireturn, 1) := by decide +kernel
theorem d_MA_take_14 : decode b_MA_take 14 = .ok (.aload_n 0, 1) := by decide +kernel
theorem d_MA_take_15 : decode b_MA_take 15 = .ok (.dup, 1) := by decide +kernel
theorem d_MA_take_16 : decode b_MA_take 16 = .ok (.getfield 18, 3) := by decide +kernel
theorem d_MA_take_19 : decode b_MA_take 19 = .ok (.iconst 1, 1) := by decide +kernel
theorem d_MA_take_20 : decode b_MA_take 20 = .ok (.isub, 1) := by decide +kernel
theorem d_MA_take_21 : decode b_MA_take 21 = .ok (.putfield 18, 3) := by decide +kernel
theorem d_MA_take_24 : decode b_MA_take 24 = .ok (.aload_n 0, 1) := by decide +kernel
theorem d_MA_take_25 : decode b_MA_take 25 = .ok (.getfield 9, 3) := by decide +kernel
theorem d_MA_take_28 : decode b_MA_take 28 = .ok (.aload_n 0, 1) := by decide +kernel
theorem d_MA_take_29 : decode b_MA_take 29 = .ok (.getfield 18, 3) := by decide +kernel
theorem d_MA_take_32 : decode b_MA_take 32 = .ok (.iaload, 1) := by decide +kernel
theorem d_MA_take_33 : decode b_MA_take 33 = .ok (.ireturn, 1) := by decide +kernel
set_option maxRecDepth 100000 in
set_option maxHeartbeats 1000000 in
theorem s_MA_take (u : ab_S) (h : CI u) : ab_C false l D ca y_MA_take b_MA_take 1 (some FieldType.int) 0 ab_nQ u [ab_O 7 0] (fun u' v => mQ u u' ∧ ∃ x : Int32, v = some (ab_I x)) := by
  refine ab_C.of (by decide) (Nat.le_of_ble_eq_true rfl) ?_
  intro p e s m args below meth c ad X hZ hr0 hlk
  have P0 : mQ u u := mQ.rf h
  obtain ⟨⟨n, hn, en⟩, -, -⟩ := h.ma
  refine ab_aload_n X 0 d_MA_take_0 rfl rfl ?_
  refine ab_gI X fl_MA_18 d_MA_take_1 (by first | assumption | decide | (show _ < 124; omega) | (show _ < 61; omega) | (show _ < 20; omega)) (en) ?_
  refine ab_if_ne X 14 d_MA_take_4 rfl (fun h4 => ?_) (fun h4 => ?_)
  ·
    have hn0 : 0 < n := Nat.pos_of_ne_zero (fun q => h4 (by rw [q]; rfl))
    refine ab_aload_n X 0 d_MA_take_14 rfl rfl ?_
    refine ab_dup X d_MA_take_15 rfl ?_
    refine ab_gI X fl_MA_18 d_MA_take_16 (by first | assumption | decide | (show _ < 124; omega) | (show _ < 61; omega) | (show _ < 20; omega)) (en) ?_
    refine ab_iconst (v := 1) X d_MA_take_19 (by decide) ?_
    refine ab_isub X d_MA_take_20 ?_
    refine ab_top (nI_m1 hn0) ?_
    refine ab_putI X fp_MA_18 d_MA_take_21 (by first | assumption | decide | (show _ < 124; omega) | (show _ < 61; omega) | (show _ < 20; omega)) rfl rfl ?_
    refine ab_gen (fun u21 e21 => ?_)
    have P21 : mQ u u21 := by rw [e21]; exact P0.m2 (by omega)
    refine ab_aload_n X 0 d_MA_take_24 rfl rfl ?_
    refine ab_gR X fl_MA_9 d_MA_take_25 (by first | assumption | decide | (show _ < 124; omega) | (show _ < 61; omega) | (show _ < 20; omega)) (P21.1.ma0) ?_
    refine ab_aload_n X 0 d_MA_take_28 rfl rfl ?_
    refine ab_gI X fl_MA_18 d_MA_take_29 (by first | assumption | decide | (show _ < 124; omega) | (show _ < 61; omega) | (show _ < 20; omega)) ((show _ = nI (n - 1) by rw [e21]; simp [ab_up])) ?_
    refine ab_iald X (n - 1) ⟨rfl, rfl⟩ d_MA_take_32 (by first | assumption | decide | (show _ < 124; omega) | (show _ < 61; omega) | (show _ < 20; omega)) (rfl) (show n - 1 < 168 by omega) (ab_ln_lt _ _) ?_
    exact ab_reti X hr0 hlk d_MA_take_33 ⟨P21, _, rfl⟩
  ·
    refine ab_aload_n X 0 d_MA_take_7 rfl rfl ?_
    refine ab_iconst (v := 1) X d_MA_take_8 (by decide) ?_
    refine ab_putI X fp_MA_31 d_MA_take_9 (by first | assumption | decide | (show _ < 124; omega) | (show _ < 61; omega) | (show _ < 20; omega)) rfl rfl ?_
    refine ab_gen (fun u9 e9 => ?_)
    have P9 : mQ u u9 := by rw [e9]; exact P0.ui rfl (by decide)
    refine ab_iconst (v := 0) X d_MA_take_12 (by decide) ?_
    exact ab_reti X hr0 hlk d_MA_take_13 ⟨P9, _, rfl⟩
abbrev b_MA_takeBack : ByteArray := prog_4_method_15_code
def y_MA_takeBack : MethodName := ⟨"PolicyForge$Machine", "takeBack", "()I"⟩
theorem d_MA_takeBack_0 : decode b_MA_takeBack 0 = .ok (.aload_n 0, 1) := by decide +kernel
theorem d_MA_takeBack_1 : decode b_MA_takeBack 1 = .ok (.getfield 22, 3) := by decide +kernel
theorem d_MA_takeBack_4 : decode b_MA_takeBack 4 = .ok (.ifCond .ne 10, 3) := by decide +kernel
theorem d_MA_takeBack_7 : decode b_MA_takeBack 7 = .ok (.aload_n 0, 1) := by decide +kernel
theorem d_MA_takeBack_8 : decode b_MA_takeBack 8 = .ok (.iconst 1, 1) := by decide +kernel
theorem d_MA_takeBack_9 : decode b_MA_takeBack 9 = .ok (.putfield 31, 3) := by decide +kernel
theorem d_MA_takeBack_12 : decode b_MA_takeBack 12 = .ok (.iconst 0, 1) := by decide +kernel
theorem d_MA_takeBack_13 : decode b_MA_takeBack 13 = .ok (.ireturn, 1) := by decide +kernel
theorem d_MA_takeBack_14 : decode b_MA_takeBack 14 = .ok (.aload_n 0, 1) := by decide +kernel
theorem d_MA_takeBack_15 : decode b_MA_takeBack 15 = .ok (.dup, 1) := by decide +kernel
theorem d_MA_takeBack_16 : decode b_MA_takeBack 16 = .ok (.getfield 22, 3) := by decide +kernel
theorem d_MA_takeBack_19 : decode b_MA_takeBack 19 = .ok (.iconst 1, 1) := by decide +kernel
theorem d_MA_takeBack_20 : decode b_MA_takeBack 20 = .ok (.isub, 1) := by decide +kernel
theorem d_MA_takeBack_21 : decode b_MA_takeBack 21 = .ok (.putfield 22, 3) := by decide +kernel
theorem d_MA_takeBack_24 : decode b_MA_takeBack 24 = .ok (.aload_n 0, 1) := by decide +kernel
theorem d_MA_takeBack_25 : decode b_MA_takeBack 25 = .ok (.getfield 15, 3) := by decide +kernel
theorem d_MA_takeBack_28 : decode b_MA_takeBack 28 = .ok (.aload_n 0, 1) := by decide +kernel
theorem d_MA_takeBack_29 : decode b_MA_takeBack 29 = .ok (.getfield 22, 3) := by decide +kernel
theorem d_MA_takeBack_32 : decode b_MA_takeBack 32 = .ok (.iaload, 1) := by decide +kernel
theorem d_MA_takeBack_33 : decode b_MA_takeBack 33 = .ok (.ireturn, 1) := by decide +kernel
set_option maxRecDepth 100000 in
set_option maxHeartbeats 1000000 in
theorem s_MA_takeBack (u : ab_S) (h : CI u) : ab_C false l D ca y_MA_takeBack b_MA_takeBack 1 (some FieldType.int) 0 ab_nQ u [ab_O 7 0] (fun u' v => mQ u u' ∧ ∃ x : Int32, v = some (ab_I x)) := by
  refine ab_C.of (by decide) (Nat.le_of_ble_eq_true rfl) ?_
  intro p e s m args below meth c ad X hZ hr0 hlk
  have P0 : mQ u u := mQ.rf h
  obtain ⟨-, ⟨n, hn, en⟩, -⟩ := h.ma
  refine ab_aload_n X 0 d_MA_takeBack_0 rfl rfl ?_
  refine ab_gI X fl_MA_22 d_MA_takeBack_1 (by first | assumption | decide | (show _ < 124; omega) | (show _ < 61; omega) | (show _ < 20; omega)) (en) ?_
  refine ab_if_ne X 14 d_MA_takeBack_4 rfl (fun h4 => ?_) (fun h4 => ?_)
  ·
    have hn0 : 0 < n := Nat.pos_of_ne_zero (fun q => h4 (by rw [q]; rfl))
    refine ab_aload_n X 0 d_MA_takeBack_14 rfl rfl ?_
    refine ab_dup X d_MA_takeBack_15 rfl ?_
    refine ab_gI X fl_MA_22 d_MA_takeBack_16 (by first | assumption | decide | (show _ < 124; omega) | (show _ < 61; omega) | (show _ < 20; omega)) (en) ?_
    refine ab_iconst (v := 1) X d_MA_takeBack_19 (by decide) ?_
    refine ab_isub X d_MA_takeBack_20 ?_
    refine ab_top (nI_m1 hn0) ?_
    refine ab_putI X fp_MA_22 d_MA_takeBack_21 (by first | assumption | decide | (show _ < 124; omega) | (show _ < 61; omega) | (show _ < 20; omega)) rfl rfl ?_
    refine ab_gen (fun u21 e21 => ?_)
    have P21 : mQ u u21 := by rw [e21]; exact P0.m3 (by omega)
    refine ab_aload_n X 0 d_MA_takeBack_24 rfl rfl ?_
    refine ab_gR X fl_MA_15 d_MA_takeBack_25 (by first | assumption | decide | (show _ < 124; omega) | (show _ < 61; omega) | (show _ < 20; omega)) (P21.1.ma1) ?_
    refine ab_aload_n X 0 d_MA_takeBack_28 rfl rfl ?_
    refine ab_gI X fl_MA_22 d_MA_takeBack_29 (by first | assumption | decide | (show _ < 124; omega) | (show _ < 61; omega) | (show _ < 20; omega)) ((show _ = nI (n - 1) by rw [e21]; simp [ab_up])) ?_
    refine ab_iald X (n - 1) ⟨rfl, rfl⟩ d_MA_takeBack_32 (by first | assumption | decide | (show _ < 124; omega) | (show _ < 61; omega) | (show _ < 20; omega)) (rfl) (show n - 1 < 128 by omega) (ab_ln_lt _ _) ?_
    exact ab_reti X hr0 hlk d_MA_takeBack_33 ⟨P21, _, rfl⟩
  ·
    refine ab_aload_n X 0 d_MA_takeBack_7 rfl rfl ?_
    refine ab_iconst (v := 1) X d_MA_takeBack_8 (by decide) ?_
    refine ab_putI X fp_MA_31 d_MA_takeBack_9 (by first | assumption | decide | (show _ < 124; omega) | (show _ < 61; omega) | (show _ < 20; omega)) rfl rfl ?_
    refine ab_gen (fun u9 e9 => ?_)
    have P9 : mQ u u9 := by rw [e9]; exact P0.ui rfl (by decide)
    refine ab_iconst (v := 0) X d_MA_takeBack_12 (by decide) ?_
    exact ab_reti X hr0 hlk d_MA_takeBack_13 ⟨P9, _, rfl⟩
abbrev b_MA_takeNumber : ByteArray := prog_4_method_13_code
def y_MA_takeNumber : MethodName := ⟨"PolicyForge$Machine", "takeNumber", "()I"⟩
theorem d_MA_takeNumber_0 : decode b_MA_takeNumber 0 = .ok (.aload_n 0, 1) := by decide +kernel
theorem d_MA_takeNumber_1 : decode b_MA_takeNumber 1 = .ok (.invokevirtual 64, 3) := by decide +kernel
theorem d_MA_takeNumber_4 : decode b_MA_takeNumber 4 = .ok (.istore_n 1, 1) := by decide +kernel
theorem d_MA_takeNumber_5 : decode b_MA_takeNumber 5 = .ok (.iload_n 1, 1) := by decide +kernel
theorem d_MA_takeNumber_6 : decode b_MA_takeNumber 6 = .ok (.bipush 10, 2) := by decide +kernel
theorem d_MA_takeNumber_8 : decode b_MA_takeNumber 8 = .ok (.if_icmp .lt 8, 3) := by decide +kernel
theorem d_MA_takeNumber_11 : decode b_MA_takeNumber 11 = .ok (.aload_n 0, 1) := by decide +kernel
theorem d_MA_takeNumber_12 : decode b_MA_takeNumber 12 = .ok (.iconst 1, 1) := by decide +kernel
theorem d_MA_takeNumber_13 : decode b_MA_takeNumber 13 = .ok (.putfield 31, 3) := by decide +kernel
theorem d_MA_takeNumber_16 : decode b_MA_takeNumber 16 = .ok (.iload_n 1, 1) := by decide +kernel
theorem d_MA_takeNumber_17 : decode b_MA_takeNumber 17 = .ok (.ireturn, 1) := by decide +kernel
theorem lk_MA_64 : ab_lk "PolicyForge$Machine" 64 y_MA_take b_MA_take 1 (some FieldType.int) 0 7 := ⟨⟨rfl, T_MA, 7, rfl⟩, List.forall_mem_cons.mpr ⟨(ab_in 884 (by decide +kernel) (by decide +kernel)), List.forall_mem_cons.mpr ⟨(ab_in 886 (by decide +kernel) (by decide +kernel)), List.forall_mem_cons.mpr ⟨(ab_in 37 (by decide +kernel) (by decide +kernel)), List.forall_mem_cons.mpr ⟨(ab_in 99 (by decide +kernel) (by decide +kernel)), List.forall_mem_cons.mpr ⟨(ab_in 887 (by decide +kernel) (by decide +kernel)), fun _ h => absurd h List.not_mem_nil⟩⟩⟩⟩⟩, ⟨by decide +kernel, by decide +kernel, by decide +kernel⟩, by decide⟩
set_option maxRecDepth 100000 in
set_option maxHeartbeats 1000000 in
theorem s_MA_takeNumber (u : ab_S) (h : CI u) : ab_C false l D ca y_MA_takeNumber b_MA_takeNumber 2 (some FieldType.int) 1 ab_nQ u [ab_O 7 0] (fun u' v => mQ u u' ∧ ∃ x : Int32, v = some (ab_I x)) := by
  refine ab_C.of (by decide) (Nat.le_of_ble_eq_true rfl) ?_
  intro p e s m args below meth c ad X hZ hr0 hlk
  have P0 : mQ u u := mQ.rf h
  refine ab_aload_n X 0 d_MA_takeNumber_0 rfl rfl ?_
  refine ab_callV (as := []) X (fun h => by cases h) (s_MA_take u h) lk_MA_64 d_MA_takeNumber_1 rfl rfl (by first | assumption | decide | (show _ < 124; omega) | (show _ < 61; omega) | (show _ < 20; omega)) ⟨by first | exact Nat.le_of_ble_eq_true rfl | (simp only [ab_rm]; omega), by first | exact Nat.le_of_ble_eq_true rfl | (simp only [ab_rm]; omega)⟩ ⟨by first | exact Nat.le_of_ble_eq_true rfl | (simp only [ab_rm]; omega), by first | exact Nat.le_of_ble_eq_true rfl | (simp only [ab_rm]; omega)⟩ (Nat.le_of_ble_eq_true rfl) (fun u1 r1 h1 => ?_)
  obtain ⟨q1, x1, rfl⟩ := h1
  have P1 := P0.trans q1 (by decide)
  refine ab_istore_n1 X 0 d_MA_takeNumber_4 rfl (by decide) rfl rfl ?_
  refine ab_iload_n X 0 d_MA_takeNumber_5 rfl rfl ?_
  refine ab_bipush (v := 10) X d_MA_takeNumber_6 (by decide) ?_
  refine ab_icmp_lt X 16 d_MA_takeNumber_8 rfl (fun h8 => ?_) (fun h8 => ?_)
  ·
    refine ab_iload_n X 0 d_MA_takeNumber_16 rfl rfl ?_
    exact ab_reti X hr0 hlk d_MA_takeNumber_17 ⟨P1, _, rfl⟩
  ·
    refine ab_aload_n X 1 d_MA_takeNumber_11 rfl rfl ?_
    refine ab_iconst (v := 1) X d_MA_takeNumber_12 (by decide) ?_
    refine ab_putI X fp_MA_31 d_MA_takeNumber_13 (by first | assumption | decide | (show _ < 124; omega) | (show _ < 61; omega) | (show _ < 20; omega)) rfl rfl ?_
    refine ab_gen (fun u13 e13 => ?_)
    have P13 : mQ u u13 := by rw [e13]; exact P1.ui rfl (by decide)
    refine ab_iload_n X 0 d_MA_takeNumber_16 rfl rfl ?_
    exact ab_reti X hr0 hlk d_MA_takeNumber_17 ⟨P13, _, rfl⟩
abbrev b_MA_joined : ByteArray := prog_4_method_8_code
def y_MA_joined : MethodName := ⟨"PolicyForge$Machine", "joined", "(III)I"⟩
theorem d_MA_joined_0 : decode b_MA_joined 0 = .ok (.iload_n 0, 1) := by decide +kernel
theorem d_MA_joined_1 : decode b_MA_joined 1 = .ok (.bipush 8, 2) := by decide +kernel
theorem d_MA_joined_3 : decode b_MA_joined 3 = .ok (.if_icmp .ne 7, 3) := by decide +kernel
theorem d_MA_joined_6 : decode b_MA_joined 6 = .ok (.iload_n 1, 1) := by decide +kernel
theorem d_MA_joined_7 : decode b_MA_joined 7 = .ok (.iload_n 2, 1) := by decide +kernel
theorem d_MA_joined_8 : decode b_MA_joined 8 = .ok (.iadd, 1) := by decide +kernel
theorem d_MA_joined_9 : decode b_MA_joined 9 = .ok (.ireturn, 1) := by decide +kernel
theorem d_MA_joined_10 : decode b_MA_joined 10 = .ok (.iload_n 1, 1) := by decide +kernel
theorem d_MA_joined_11 : decode b_MA_joined 11 = .ok (.ifCond .eq 11, 3) := by decide +kernel
theorem d_MA_joined_14 : decode b_MA_joined 14 = .ok (.iload_n 2, 1) := by decide +kernel
theorem d_MA_joined_15 : decode b_MA_joined 15 = .ok (.ifCond .eq 7, 3) := by decide +kernel
theorem d_MA_joined_18 : decode b_MA_joined 18 = .ok (.iconst 1, 1) := by decide +kernel
theorem d_MA_joined_19 : decode b_MA_joined 19 = .ok (.goto 4, 3) := by decide +kernel
theorem d_MA_joined_22 : decode b_MA_joined 22 = .ok (.iconst 0, 1) := by decide +kernel
theorem d_MA_joined_23 : decode b_MA_joined 23 = .ok (.istore_n 3, 1) := by decide +kernel
theorem d_MA_joined_24 : decode b_MA_joined 24 = .ok (.iload_n 1, 1) := by decide +kernel
theorem d_MA_joined_25 : decode b_MA_joined 25 = .ok (.ifCond .ne 7, 3) := by decide +kernel
theorem d_MA_joined_28 : decode b_MA_joined 28 = .ok (.iload_n 2, 1) := by decide +kernel
theorem d_MA_joined_29 : decode b_MA_joined 29 = .ok (.ifCond .eq 7, 3) := by decide +kernel
theorem d_MA_joined_32 : decode b_MA_joined 32 = .ok (.iconst 1, 1) := by decide +kernel
theorem d_MA_joined_33 : decode b_MA_joined 33 = .ok (.goto 4, 3) := by decide +kernel
theorem d_MA_joined_36 : decode b_MA_joined 36 = .ok (.iconst 0, 1) := by decide +kernel
theorem d_MA_joined_37 : decode b_MA_joined 37 = .ok (.istore 4, 2) := by decide +kernel
theorem d_MA_joined_39 : decode b_MA_joined 39 = .ok (.iload_n 0, 1) := by decide +kernel
theorem d_MA_joined_40 : decode b_MA_joined 40 = .ok (.bipush 6, 2) := by decide +kernel
theorem d_MA_joined_42 : decode b_MA_joined 42 = .ok (.if_icmp .ne 10, 3) := by decide +kernel
theorem d_MA_joined_45 : decode b_MA_joined 45 = .ok (.iload_n 3, 1) := by decide +kernel
theorem d_MA_joined_46 : decode b_MA_joined 46 = .ok (.ifCond .eq 15, 3) := by decide +kernel
theorem d_MA_joined_49 : decode b_MA_joined 49 = .ok (.goto 8, 3) := by decide +kernel
theorem d_MA_joined_52 : decode b_MA_joined 52 = .ok (.iload 4, 2) := by decide +kernel
theorem d_MA_joined_54 : decode b_MA_joined 54 = .ok (.ifCond .eq 7, 3) := by decide +kernel
theorem d_MA_joined_57 : decode b_MA_joined 57 = .ok (.iconst 1, 1) := by decide +kernel
theorem d_MA_joined_58 : decode b_MA_joined 58 = .ok (.goto 4, 3) := by decide +kernel
theorem d_MA_joined_61 : decode b_MA_joined 61 = .ok (.iconst 0, 1) := by decide +kernel
theorem d_MA_joined_62 : decode b_MA_joined 62 = .ok (.ireturn, 1) := by decide +kernel
set_option maxRecDepth 100000 in
set_option maxHeartbeats 1000000 in
theorem t_MA_joined (u : ab_S) (a b c' : Int32) (h : CI u) : ab_C false l D ca y_MA_joined b_MA_joined 5 (some FieldType.int) 0 ab_nQ u [ab_I a, ab_I b, ab_I c'] (fun u' v => u' = u ∧ ∃ x : Int32, v = some (ab_I x)) := by
  refine ab_C.of (by decide) (Nat.le_of_ble_eq_true rfl) ?_
  intro p e s m args below meth c ad X hZ hr0 hlk
  have P0 : mQ u u := mQ.rf h
  refine ab_iload_n X 0 d_MA_joined_0 rfl rfl ?_
  refine ab_bipush (v := 8) X d_MA_joined_1 (by decide) ?_
  refine ab_icmp_ne X 10 d_MA_joined_3 rfl (fun h3 => ?_) (fun h3 => ?_)
  ·
    refine ab_iload_n X 1 d_MA_joined_10 rfl rfl ?_
    refine ab_if_eq X 22 d_MA_joined_11 rfl (fun h11 => ?_) (fun h11 => ?_)
    ·
      refine ab_iconst (v := 0) X d_MA_joined_22 (by decide) ?_
      refine ab_istore_n3 X 0 1 2 d_MA_joined_23 rfl (by decide) rfl rfl rfl rfl rfl rfl ?_
      refine ab_iload_n X 2 d_MA_joined_24 rfl rfl ?_
      refine ab_if_ne X 32 d_MA_joined_25 rfl (fun h25 => ?_) (fun h25 => ?_)
      ·
        refine ab_iconst (v := 1) X d_MA_joined_32 (by decide) ?_
        refine ab_goto X 37 d_MA_joined_33 rfl ?_
        refine ab_istore4 X 0 1 2 3 d_MA_joined_37 (by decide) rfl rfl rfl rfl rfl rfl rfl rfl ?_
        refine ab_iload_n X 2 d_MA_joined_39 rfl rfl ?_
        refine ab_bipush (v := 6) X d_MA_joined_40 (by decide) ?_
        refine ab_icmp_ne X 52 d_MA_joined_42 rfl (fun h42 => ?_) (fun h42 => ?_)
        ·
          refine ab_iload X 0 d_MA_joined_52 rfl ?_
          refine ab_if_eq X 61 d_MA_joined_54 rfl (fun h54 => ?_) (fun h54 => ?_)
          ·
            refine ab_iconst (v := 0) X d_MA_joined_61 (by decide) ?_
            exact ab_reti X hr0 hlk d_MA_joined_62 ⟨rfl, _, rfl⟩
          ·
            refine ab_iconst (v := 1) X d_MA_joined_57 (by decide) ?_
            refine ab_goto X 62 d_MA_joined_58 rfl ?_
            exact ab_reti X hr0 hlk d_MA_joined_62 ⟨rfl, _, rfl⟩
        ·
          refine ab_iload_n X 1 d_MA_joined_45 rfl rfl ?_
          refine ab_if_eq X 61 d_MA_joined_46 rfl (fun h46 => ?_) (fun h46 => ?_)
          ·
            refine ab_iconst (v := 0) X d_MA_joined_61 (by decide) ?_
            exact ab_reti X hr0 hlk d_MA_joined_62 ⟨rfl, _, rfl⟩
          ·
            refine ab_goto X 57 d_MA_joined_49 rfl ?_
            refine ab_iconst (v := 1) X d_MA_joined_57 (by decide) ?_
            refine ab_goto X 62 d_MA_joined_58 rfl ?_
            exact ab_reti X hr0 hlk d_MA_joined_62 ⟨rfl, _, rfl⟩
      ·
        refine ab_iload_n X 3 d_MA_joined_28 rfl rfl ?_
        refine ab_if_eq X 36 d_MA_joined_29 rfl (fun h29 => ?_) (fun h29 => ?_)
        ·
          refine ab_iconst (v := 0) X d_MA_joined_36 (by decide) ?_
          refine ab_istore4 X 0 1 2 3 d_MA_joined_37 (by decide) rfl rfl rfl rfl rfl rfl rfl rfl ?_
          refine ab_iload_n X 2 d_MA_joined_39 rfl rfl ?_
          refine ab_bipush (v := 6) X d_MA_joined_40 (by decide) ?_
          refine ab_icmp_ne X 52 d_MA_joined_42 rfl (fun h42 => ?_) (fun h42 => ?_)
          ·
            refine ab_iload X 0 d_MA_joined_52 rfl ?_
            refine ab_if_eq X 61 d_MA_joined_54 rfl (fun h54 => ?_) (fun h54 => ?_)
            ·
              refine ab_iconst (v := 0) X d_MA_joined_61 (by decide) ?_
              exact ab_reti X hr0 hlk d_MA_joined_62 ⟨rfl, _, rfl⟩
            ·
              refine ab_iconst (v := 1) X d_MA_joined_57 (by decide) ?_
              refine ab_goto X 62 d_MA_joined_58 rfl ?_
              exact ab_reti X hr0 hlk d_MA_joined_62 ⟨rfl, _, rfl⟩
          ·
            refine ab_iload_n X 1 d_MA_joined_45 rfl rfl ?_
            refine ab_if_eq X 61 d_MA_joined_46 rfl (fun h46 => ?_) (fun h46 => ?_)
            ·
              refine ab_iconst (v := 0) X d_MA_joined_61 (by decide) ?_
              exact ab_reti X hr0 hlk d_MA_joined_62 ⟨rfl, _, rfl⟩
            ·
              refine ab_goto X 57 d_MA_joined_49 rfl ?_
              refine ab_iconst (v := 1) X d_MA_joined_57 (by decide) ?_
              refine ab_goto X 62 d_MA_joined_58 rfl ?_
              exact ab_reti X hr0 hlk d_MA_joined_62 ⟨rfl, _, rfl⟩
        ·
          refine ab_iconst (v := 1) X d_MA_joined_32 (by decide) ?_
          refine ab_goto X 37 d_MA_joined_33 rfl ?_
          refine ab_istore4 X 0 1 2 3 d_MA_joined_37 (by decide) rfl rfl rfl rfl rfl rfl rfl rfl ?_
          refine ab_iload_n X 2 d_MA_joined_39 rfl rfl ?_
          refine ab_bipush (v := 6) X d_MA_joined_40 (by decide) ?_
          refine ab_icmp_ne X 52 d_MA_joined_42 rfl (fun h42 => ?_) (fun h42 => ?_)
          ·
            refine ab_iload X 0 d_MA_joined_52 rfl ?_
            refine ab_if_eq X 61 d_MA_joined_54 rfl (fun h54 => ?_) (fun h54 => ?_)
            ·
              refine ab_iconst (v := 0) X d_MA_joined_61 (by decide) ?_
              exact ab_reti X hr0 hlk d_MA_joined_62 ⟨rfl, _, rfl⟩
            ·
              refine ab_iconst (v := 1) X d_MA_joined_57 (by decide) ?_
              refine ab_goto X 62 d_MA_joined_58 rfl ?_
              exact ab_reti X hr0 hlk d_MA_joined_62 ⟨rfl, _, rfl⟩
          ·
            refine ab_iload_n X 1 d_MA_joined_45 rfl rfl ?_
            refine ab_if_eq X 61 d_MA_joined_46 rfl (fun h46 => ?_) (fun h46 => ?_)
            ·
              refine ab_iconst (v := 0) X d_MA_joined_61 (by decide) ?_
              exact ab_reti X hr0 hlk d_MA_joined_62 ⟨rfl, _, rfl⟩
            ·
              refine ab_goto X 57 d_MA_joined_49 rfl ?_
              refine ab_iconst (v := 1) X d_MA_joined_57 (by decide) ?_
              refine ab_goto X 62 d_MA_joined_58 rfl ?_
              exact ab_reti X hr0 hlk d_MA_joined_62 ⟨rfl, _, rfl⟩
    ·
      refine ab_iload_n X 2 d_MA_joined_14 rfl rfl ?_
      refine ab_if_eq X 22 d_MA_joined_15 rfl (fun h15 => ?_) (fun h15 => ?_)
      ·
        refine ab_iconst (v := 0) X d_MA_joined_22 (by decide) ?_
        refine ab_istore_n3 X 0 1 2 d_MA_joined_23 rfl (by decide) rfl rfl rfl rfl rfl rfl ?_
        refine ab_iload_n X 2 d_MA_joined_24 rfl rfl ?_
        refine ab_if_ne X 32 d_MA_joined_25 rfl (fun h25 => ?_) (fun h25 => ?_)
        ·
          refine ab_iconst (v := 1) X d_MA_joined_32 (by decide) ?_
          refine ab_goto X 37 d_MA_joined_33 rfl ?_
          refine ab_istore4 X 0 1 2 3 d_MA_joined_37 (by decide) rfl rfl rfl rfl rfl rfl rfl rfl ?_
          refine ab_iload_n X 2 d_MA_joined_39 rfl rfl ?_
          refine ab_bipush (v := 6) X d_MA_joined_40 (by decide) ?_
          refine ab_icmp_ne X 52 d_MA_joined_42 rfl (fun h42 => ?_) (fun h42 => ?_)
          ·
            refine ab_iload X 0 d_MA_joined_52 rfl ?_
            refine ab_if_eq X 61 d_MA_joined_54 rfl (fun h54 => ?_) (fun h54 => ?_)
            ·
              refine ab_iconst (v := 0) X d_MA_joined_61 (by decide) ?_
              exact ab_reti X hr0 hlk d_MA_joined_62 ⟨rfl, _, rfl⟩
            ·
              refine ab_iconst (v := 1) X d_MA_joined_57 (by decide) ?_
              refine ab_goto X 62 d_MA_joined_58 rfl ?_
              exact ab_reti X hr0 hlk d_MA_joined_62 ⟨rfl, _, rfl⟩
          ·
            refine ab_iload_n X 1 d_MA_joined_45 rfl rfl ?_
            refine ab_if_eq X 61 d_MA_joined_46 rfl (fun h46 => ?_) (fun h46 => ?_)
            ·
              refine ab_iconst (v := 0) X d_MA_joined_61 (by decide) ?_
              exact ab_reti X hr0 hlk d_MA_joined_62 ⟨rfl, _, rfl⟩
            ·
              refine ab_goto X 57 d_MA_joined_49 rfl ?_
              refine ab_iconst (v := 1) X d_MA_joined_57 (by decide) ?_
              refine ab_goto X 62 d_MA_joined_58 rfl ?_
              exact ab_reti X hr0 hlk d_MA_joined_62 ⟨rfl, _, rfl⟩
        ·
          refine ab_iload_n X 3 d_MA_joined_28 rfl rfl ?_
          refine ab_if_eq X 36 d_MA_joined_29 rfl (fun h29 => ?_) (fun h29 => ?_)
          ·
            refine ab_iconst (v := 0) X d_MA_joined_36 (by decide) ?_
            refine ab_istore4 X 0 1 2 3 d_MA_joined_37 (by decide) rfl rfl rfl rfl rfl rfl rfl rfl ?_
            refine ab_iload_n X 2 d_MA_joined_39 rfl rfl ?_
            refine ab_bipush (v := 6) X d_MA_joined_40 (by decide) ?_
            refine ab_icmp_ne X 52 d_MA_joined_42 rfl (fun h42 => ?_) (fun h42 => ?_)
            ·
              refine ab_iload X 0 d_MA_joined_52 rfl ?_
              refine ab_if_eq X 61 d_MA_joined_54 rfl (fun h54 => ?_) (fun h54 => ?_)
              ·
                refine ab_iconst (v := 0) X d_MA_joined_61 (by decide) ?_
                exact ab_reti X hr0 hlk d_MA_joined_62 ⟨rfl, _, rfl⟩
              ·
                refine ab_iconst (v := 1) X d_MA_joined_57 (by decide) ?_
                refine ab_goto X 62 d_MA_joined_58 rfl ?_
                exact ab_reti X hr0 hlk d_MA_joined_62 ⟨rfl, _, rfl⟩
            ·
              refine ab_iload_n X 1 d_MA_joined_45 rfl rfl ?_
              refine ab_if_eq X 61 d_MA_joined_46 rfl (fun h46 => ?_) (fun h46 => ?_)
              ·
                refine ab_iconst (v := 0) X d_MA_joined_61 (by decide) ?_
                exact ab_reti X hr0 hlk d_MA_joined_62 ⟨rfl, _, rfl⟩
              ·
                refine ab_goto X 57 d_MA_joined_49 rfl ?_
                refine ab_iconst (v := 1) X d_MA_joined_57 (by decide) ?_
                refine ab_goto X 62 d_MA_joined_58 rfl ?_
                exact ab_reti X hr0 hlk d_MA_joined_62 ⟨rfl, _, rfl⟩
          ·
            refine ab_iconst (v := 1) X d_MA_joined_32 (by decide) ?_
            refine ab_goto X 37 d_MA_joined_33 rfl ?_
            refine ab_istore4 X 0 1 2 3 d_MA_joined_37 (by decide) rfl rfl rfl rfl rfl rfl rfl rfl ?_
            refine ab_iload_n X 2 d_MA_joined_39 rfl rfl ?_
            refine ab_bipush (v := 6) X d_MA_joined_40 (by decide) ?_
            refine ab_icmp_ne X 52 d_MA_joined_42 rfl (fun h42 => ?_) (fun h42 => ?_)
            ·
              refine ab_iload X 0 d_MA_joined_52 rfl ?_
              refine ab_if_eq X 61 d_MA_joined_54 rfl (fun h54 => ?_) (fun h54 => ?_)
              ·
                refine ab_iconst (v := 0) X d_MA_joined_61 (by decide) ?_
                exact ab_reti X hr0 hlk d_MA_joined_62 ⟨rfl, _, rfl⟩
              ·
                refine ab_iconst (v := 1) X d_MA_joined_57 (by decide) ?_
                refine ab_goto X 62 d_MA_joined_58 rfl ?_
                exact ab_reti X hr0 hlk d_MA_joined_62 ⟨rfl, _, rfl⟩
            ·
              refine ab_iload_n X 1 d_MA_joined_45 rfl rfl ?_
              refine ab_if_eq X 61 d_MA_joined_46 rfl (fun h46 => ?_) (fun h46 => ?_)
              ·
                refine ab_iconst (v := 0) X d_MA_joined_61 (by decide) ?_
                exact ab_reti X hr0 hlk d_MA_joined_62 ⟨rfl, _, rfl⟩
              ·
                refine ab_goto X 57 d_MA_joined_49 rfl ?_
                refine ab_iconst (v := 1) X d_MA_joined_57 (by decide) ?_
                refine ab_goto X 62 d_MA_joined_58 rfl ?_
                exact ab_reti X hr0 hlk d_MA_joined_62 ⟨rfl, _, rfl⟩
      ·
        refine ab_iconst (v := 1) X d_MA_joined_18 (by decide) ?_
        refine ab_goto X 23 d_MA_joined_19 rfl ?_
        refine ab_istore_n3 X 0 1 2 d_MA_joined_23 rfl (by decide) rfl rfl rfl rfl rfl rfl ?_
        refine ab_iload_n X 2 d_MA_joined_24 rfl rfl ?_
        refine ab_if_ne X 32 d_MA_joined_25 rfl (fun h25 => ?_) (fun h25 => ?_)
        ·
          refine ab_iconst (v := 1) X d_MA_joined_32 (by decide) ?_
          refine ab_goto X 37 d_MA_joined_33 rfl ?_
          refine ab_istore4 X 0 1 2 3 d_MA_joined_37 (by decide) rfl rfl rfl rfl rfl rfl rfl rfl ?_
          refine ab_iload_n X 2 d_MA_joined_39 rfl rfl ?_
          refine ab_bipush (v := 6) X d_MA_joined_40 (by decide) ?_
          refine ab_icmp_ne X 52 d_MA_joined_42 rfl (fun h42 => ?_) (fun h42 => ?_)
          ·
            refine ab_iload X 0 d_MA_joined_52 rfl ?_
            refine ab_if_eq X 61 d_MA_joined_54 rfl (fun h54 => ?_) (fun h54 => ?_)
            ·
              refine ab_iconst (v := 0) X d_MA_joined_61 (by decide) ?_
              exact ab_reti X hr0 hlk d_MA_joined_62 ⟨rfl, _, rfl⟩
            ·
              refine ab_iconst (v := 1) X d_MA_joined_57 (by decide) ?_
              refine ab_goto X 62 d_MA_joined_58 rfl ?_
              exact ab_reti X hr0 hlk d_MA_joined_62 ⟨rfl, _, rfl⟩
          ·
            refine ab_iload_n X 1 d_MA_joined_45 rfl rfl ?_
            refine ab_if_eq X 61 d_MA_joined_46 rfl (fun h46 => ?_) (fun h46 => ?_)
            ·
              refine ab_iconst (v := 0) X d_MA_joined_61 (by decide) ?_
              exact ab_reti X hr0 hlk d_MA_joined_62 ⟨rfl, _, rfl⟩
            ·
              refine ab_goto X 57 d_MA_joined_49 rfl ?_
              refine ab_iconst (v := 1) X d_MA_joined_57 (by decide) ?_
              refine ab_goto X 62 d_MA_joined_58 rfl ?_
              exact ab_reti X hr0 hlk d_MA_joined_62 ⟨rfl, _, rfl⟩
        ·
          refine ab_iload_n X 3 d_MA_joined_28 rfl rfl ?_
          refine ab_if_eq X 36 d_MA_joined_29 rfl (fun h29 => ?_) (fun h29 => ?_)
          ·
            refine ab_iconst (v := 0) X d_MA_joined_36 (by decide) ?_
            refine ab_istore4 X 0 1 2 3 d_MA_joined_37 (by decide) rfl rfl rfl rfl rfl rfl rfl rfl ?_
            refine ab_iload_n X 2 d_MA_joined_39 rfl rfl ?_
            refine ab_bipush (v := 6) X d_MA_joined_40 (by decide) ?_
            refine ab_icmp_ne X 52 d_MA_joined_42 rfl (fun h42 => ?_) (fun h42 => ?_)
            ·
              refine ab_iload X 0 d_MA_joined_52 rfl ?_
              refine ab_if_eq X 61 d_MA_joined_54 rfl (fun h54 => ?_) (fun h54 => ?_)
              ·
                refine ab_iconst (v := 0) X d_MA_joined_61 (by decide) ?_
                exact ab_reti X hr0 hlk d_MA_joined_62 ⟨rfl, _, rfl⟩
              ·
                refine ab_iconst (v := 1) X d_MA_joined_57 (by decide) ?_
                refine ab_goto X 62 d_MA_joined_58 rfl ?_
                exact ab_reti X hr0 hlk d_MA_joined_62 ⟨rfl, _, rfl⟩
            ·
              refine ab_iload_n X 1 d_MA_joined_45 rfl rfl ?_
              refine ab_if_eq X 61 d_MA_joined_46 rfl (fun h46 => ?_) (fun h46 => ?_)
              ·
                refine ab_iconst (v := 0) X d_MA_joined_61 (by decide) ?_
                exact ab_reti X hr0 hlk d_MA_joined_62 ⟨rfl, _, rfl⟩
              ·
                refine ab_goto X 57 d_MA_joined_49 rfl ?_
                refine ab_iconst (v := 1) X d_MA_joined_57 (by decide) ?_
                refine ab_goto X 62 d_MA_joined_58 rfl ?_
                exact ab_reti X hr0 hlk d_MA_joined_62 ⟨rfl, _, rfl⟩
          ·
            refine ab_iconst (v := 1) X d_MA_joined_32 (by decide) ?_
            refine ab_goto X 37 d_MA_joined_33 rfl ?_
            refine ab_istore4 X 0 1 2 3 d_MA_joined_37 (by decide) rfl rfl rfl rfl rfl rfl rfl rfl ?_
            refine ab_iload_n X 2 d_MA_joined_39 rfl rfl ?_
            refine ab_bipush (v := 6) X d_MA_joined_40 (by decide) ?_
            refine ab_icmp_ne X 52 d_MA_joined_42 rfl (fun h42 => ?_) (fun h42 => ?_)
            ·
              refine ab_iload X 0 d_MA_joined_52 rfl ?_
              refine ab_if_eq X 61 d_MA_joined_54 rfl (fun h54 => ?_) (fun h54 => ?_)
              ·
                refine ab_iconst (v := 0) X d_MA_joined_61 (by decide) ?_
                exact ab_reti X hr0 hlk d_MA_joined_62 ⟨rfl, _, rfl⟩
              ·
                refine ab_iconst (v := 1) X d_MA_joined_57 (by decide) ?_
                refine ab_goto X 62 d_MA_joined_58 rfl ?_
                exact ab_reti X hr0 hlk d_MA_joined_62 ⟨rfl, _, rfl⟩
            ·
              refine ab_iload_n X 1 d_MA_joined_45 rfl rfl ?_
              refine ab_if_eq X 61 d_MA_joined_46 rfl (fun h46 => ?_) (fun h46 => ?_)
              ·
                refine ab_iconst (v := 0) X d_MA_joined_61 (by decide) ?_
                exact ab_reti X hr0 hlk d_MA_joined_62 ⟨rfl, _, rfl⟩
              ·
                refine ab_goto X 57 d_MA_joined_49 rfl ?_
                refine ab_iconst (v := 1) X d_MA_joined_57 (by decide) ?_
                refine ab_goto X 62 d_MA_joined_58 rfl ?_
                exact ab_reti X hr0 hlk d_MA_joined_62 ⟨rfl, _, rfl⟩
  ·
    refine ab_iload_n X 1 d_MA_joined_6 rfl rfl ?_
    refine ab_iload_n X 2 d_MA_joined_7 rfl rfl ?_
    refine ab_iadd X d_MA_joined_8 ?_
    exact ab_reti X hr0 hlk d_MA_joined_9 ⟨rfl, _, rfl⟩
abbrev b_MA_repeatTop : ByteArray := prog_4_method_9_code
def y_MA_repeatTop : MethodName := ⟨"PolicyForge$Machine", "repeatTop", "()V"⟩
theorem d_MA_repeatTop_0 : decode b_MA_repeatTop 0 = .ok (.aload_n 0, 1) := by decide +kernel
theorem d_MA_repeatTop_1 : decode b_MA_repeatTop 1 = .ok (.invokevirtual 64, 3) := by decide +kernel
theorem d_MA_repeatTop_4 : decode b_MA_repeatTop 4 = .ok (.istore_n 1, 1) := by decide +kernel
theorem d_MA_repeatTop_5 : decode b_MA_repeatTop 5 = .ok (.aload_n 0, 1) := by decide +kernel
theorem d_MA_repeatTop_6 : decode b_MA_repeatTop 6 = .ok (.iload_n 1, 1) := by decide +kernel
theorem d_MA_repeatTop_7 : decode b_MA_repeatTop 7 = .ok (.invokevirtual 57, 3) := by decide +kernel
theorem d_MA_repeatTop_10 : decode b_MA_repeatTop 10 = .ok (.iload_n 1, 1) := by decide +kernel
theorem d_MA_repeatTop_11 : decode b_MA_repeatTop 11 = .ok (.ifCond .eq 8, 3) := by decide +kernel
theorem d_MA_repeatTop_14 : decode b_MA_repeatTop 14 = .ok (.aload_n 0, 1) := by decide +kernel
theorem d_MA_repeatTop_15 : decode b_MA_repeatTop 15 = .ok (.iload_n 1, 1) := by decide +kernel
theorem d_MA_repeatTop_16 : decode b_MA_repeatTop 16 = .ok (.invokevirtual 57, 3) := by decide +kernel
theorem d_MA_repeatTop_19 : decode b_MA_repeatTop 19 = .ok (.return_, 1) := by decide +kernel
theorem lk_MA_57 : ab_lk "PolicyForge$Machine" 57 y_MA_push b_MA_push 2 none 1 7 := ⟨⟨rfl, T_MA, 7, rfl⟩, List.forall_mem_cons.mpr ⟨(ab_in 872 (by decide +kernel) (by decide +kernel)), List.forall_mem_cons.mpr ⟨(ab_in 874 (by decide +kernel) (by decide +kernel)), List.forall_mem_cons.mpr ⟨(ab_in 34 (by decide +kernel) (by decide +kernel)), List.forall_mem_cons.mpr ⟨(ab_in 99 (by decide +kernel) (by decide +kernel)), List.forall_mem_cons.mpr ⟨(ab_in 875 (by decide +kernel) (by decide +kernel)), fun _ h => absurd h List.not_mem_nil⟩⟩⟩⟩⟩, ⟨by decide +kernel, by decide +kernel, by decide +kernel⟩, by decide⟩
set_option maxRecDepth 100000 in
set_option maxHeartbeats 1000000 in
theorem s_MA_repeatTop (u : ab_S) (h : CI u) : ab_C false l D ca y_MA_repeatTop b_MA_repeatTop 2 none 1 ab_nQ u [ab_O 7 0] (fun u' v => mQ u u' ∧ v = none) := by
  refine ab_C.of (by decide) (Nat.le_of_ble_eq_true rfl) ?_
  intro p e s m args below meth c ad X hZ hr0 hlk
  have P0 : mQ u u := mQ.rf h
  refine ab_aload_n X 0 d_MA_repeatTop_0 rfl rfl ?_
  refine ab_callV (as := []) X (fun h => by cases h) (s_MA_take u h) lk_MA_64 d_MA_repeatTop_1 rfl rfl (by first | assumption | decide | (show _ < 124; omega) | (show _ < 61; omega) | (show _ < 20; omega)) ⟨by first | exact Nat.le_of_ble_eq_true rfl | (simp only [ab_rm]; omega), by first | exact Nat.le_of_ble_eq_true rfl | (simp only [ab_rm]; omega)⟩ ⟨by first | exact Nat.le_of_ble_eq_true rfl | (simp only [ab_rm]; omega), by first | exact Nat.le_of_ble_eq_true rfl | (simp only [ab_rm]; omega)⟩ (Nat.le_of_ble_eq_true rfl) (fun u1 r1 h1 => ?_)
  obtain ⟨q1, x1, rfl⟩ := h1
  have P1 := P0.trans q1 (by decide)
  refine ab_istore_n1 X 0 d_MA_repeatTop_4 rfl (by decide) rfl rfl ?_
  refine ab_aload_n X 1 d_MA_repeatTop_5 rfl rfl ?_
  refine ab_iload_n X 0 d_MA_repeatTop_6 rfl rfl ?_
  refine ab_callV (as := [ab_I _]) X (fun h => by cases h) (s_MA_push u1 _ P1.1) lk_MA_57 d_MA_repeatTop_7 rfl rfl (by first | assumption | decide | (show _ < 124; omega) | (show _ < 61; omega) | (show _ < 20; omega)) ⟨by first | exact Nat.le_of_ble_eq_true rfl | (simp only [ab_rm]; omega), by first | exact Nat.le_of_ble_eq_true rfl | (simp only [ab_rm]; omega)⟩ ⟨by first | exact Nat.le_of_ble_eq_true rfl | (simp only [ab_rm]; omega), by first | exact Nat.le_of_ble_eq_true rfl | (simp only [ab_rm]; omega)⟩ (Nat.le_of_ble_eq_true rfl) (fun u7 r7 h7 => ?_)
  obtain ⟨q7, rfl⟩ := h7
  have P7 := P1.trans q7 (by decide)
  refine ab_iload_n X 0 d_MA_repeatTop_10 rfl rfl ?_
  refine ab_if_eq X 19 d_MA_repeatTop_11 rfl (fun h11 => ?_) (fun h11 => ?_)
  ·
    exact ab_retv X hr0 hlk d_MA_repeatTop_19 ⟨P7, rfl⟩
  ·
    refine ab_aload_n X 1 d_MA_repeatTop_14 rfl rfl ?_
    refine ab_iload_n X 0 d_MA_repeatTop_15 rfl rfl ?_
    refine ab_callV (as := [ab_I _]) X (fun h => by cases h) (s_MA_push u7 _ P7.1) lk_MA_57 d_MA_repeatTop_16 rfl rfl (by first | assumption | decide | (show _ < 124; omega) | (show _ < 61; omega) | (show _ < 20; omega)) ⟨by first | exact Nat.le_of_ble_eq_true rfl | (simp only [ab_rm]; omega), by first | exact Nat.le_of_ble_eq_true rfl | (simp only [ab_rm]; omega)⟩ ⟨by first | exact Nat.le_of_ble_eq_true rfl | (simp only [ab_rm]; omega), by first | exact Nat.le_of_ble_eq_true rfl | (simp only [ab_rm]; omega)⟩ (Nat.le_of_ble_eq_true rfl) (fun u16 r16 h16 => ?_)
    obtain ⟨q16, rfl⟩ := h16
    have P16 := P7.trans q16 (by decide)
    exact ab_retv X hr0 hlk d_MA_repeatTop_19 ⟨P16, rfl⟩
abbrev b_MA_tryKey : ByteArray := prog_4_method_6_code
def y_MA_tryKey : MethodName := ⟨"PolicyForge$Machine", "tryKey", "(I)V"⟩
theorem d_MA_tryKey_0 : decode b_MA_tryKey 0 = .ok (.aload_n 0, 1) := by decide +kernel
theorem d_MA_tryKey_1 : decode b_MA_tryKey 1 = .ok (.invokevirtual 64, 3) := by decide +kernel
theorem d_MA_tryKey_4 : decode b_MA_tryKey 4 = .ok (.istore_n 2, 1) := by decide +kernel
theorem d_MA_tryKey_5 : decode b_MA_tryKey 5 = .ok (.iload_n 2, 1) := by decide +kernel
theorem d_MA_tryKey_6 : decode b_MA_tryKey 6 = .ok (.bipush 10, 2) := by decide +kernel
theorem d_MA_tryKey_8 : decode b_MA_tryKey 8 = .ok (.iload_n 1, 1) := by decide +kernel
theorem d_MA_tryKey_9 : decode b_MA_tryKey 9 = .ok (.iadd, 1) := by decide +kernel
theorem d_MA_tryKey_10 : decode b_MA_tryKey 10 = .ok (.if_icmp .eq 12, 3) := by decide +kernel
theorem d_MA_tryKey_13 : decode b_MA_tryKey 13 = .ok (.iload_n 2, 1) := by decide +kernel
theorem d_MA_tryKey_14 : decode b_MA_tryKey 14 = .ok (.ifCond .eq 8, 3) := by decide +kernel
theorem d_MA_tryKey_17 : decode b_MA_tryKey 17 = .ok (.aload_n 0, 1) := by decide +kernel
theorem d_MA_tryKey_18 : decode b_MA_tryKey 18 = .ok (.iconst 1, 1) := by decide +kernel
theorem d_MA_tryKey_19 : decode b_MA_tryKey 19 = .ok (.putfield 31, 3) := by decide +kernel
theorem d_MA_tryKey_22 : decode b_MA_tryKey 22 = .ok (.aload_n 0, 1) := by decide +kernel
theorem d_MA_tryKey_23 : decode b_MA_tryKey 23 = .ok (.iload_n 2, 1) := by decide +kernel
theorem d_MA_tryKey_24 : decode b_MA_tryKey 24 = .ok (.ifCond .ne 7, 3) := by decide +kernel
theorem d_MA_tryKey_27 : decode b_MA_tryKey 27 = .ok (.iconst 0, 1) := by decide +kernel
theorem d_MA_tryKey_28 : decode b_MA_tryKey 28 = .ok (.goto 4, 3) := by decide +kernel
theorem d_MA_tryKey_31 : decode b_MA_tryKey 31 = .ok (.iconst 1, 1) := by decide +kernel
theorem d_MA_tryKey_32 : decode b_MA_tryKey 32 = .ok (.invokevirtual 57, 3) := by decide +kernel
theorem d_MA_tryKey_35 : decode b_MA_tryKey 35 = .ok (.return_, 1) := by decide +kernel
set_option maxRecDepth 100000 in
set_option maxHeartbeats 1000000 in
theorem s_MA_tryKey (u : ab_S) (a : Int32) (h : CI u) : ab_C false l D ca y_MA_tryKey b_MA_tryKey 3 none 1 ab_nQ u [ab_O 7 0, ab_I a] (fun u' v => mQ u u' ∧ v = none) := by
  refine ab_C.of (by decide) (Nat.le_of_ble_eq_true rfl) ?_
  intro p e s m args below meth c ad X hZ hr0 hlk
  have P0 : mQ u u := mQ.rf h
  refine ab_aload_n X 0 d_MA_tryKey_0 rfl rfl ?_
  refine ab_callV (as := []) X (fun h => by cases h) (s_MA_take u h) lk_MA_64 d_MA_tryKey_1 rfl rfl (by first | assumption | decide | (show _ < 124; omega) | (show _ < 61; omega) | (show _ < 20; omega)) ⟨by first | exact Nat.le_of_ble_eq_true rfl | (simp only [ab_rm]; omega), by first | exact Nat.le_of_ble_eq_true rfl | (simp only [ab_rm]; omega)⟩ ⟨by first | exact Nat.le_of_ble_eq_true rfl | (simp only [ab_rm]; omega), by first | exact Nat.le_of_ble_eq_true rfl | (simp only [ab_rm]; omega)⟩ (Nat.le_of_ble_eq_true rfl) (fun u1 r1 h1 => ?_)
  obtain ⟨q1, x1, rfl⟩ := h1
  have P1 := P0.trans q1 (by decide)
  refine ab_istore_n2 X 0 1 d_MA_tryKey_4 rfl (by decide) rfl rfl rfl rfl ?_
  refine ab_iload_n X 0 d_MA_tryKey_5 rfl rfl ?_
  refine ab_bipush (v := 10) X d_MA_tryKey_6 (by decide) ?_
  refine ab_iload_n X 2 d_MA_tryKey_8 rfl rfl ?_
  refine ab_iadd X d_MA_tryKey_9 ?_
  refine ab_icmp_eq X 22 d_MA_tryKey_10 rfl (fun h10 => ?_) (fun h10 => ?_)
  ·
    refine ab_aload_n X 1 d_MA_tryKey_22 rfl rfl ?_
    refine ab_iload_n X 0 d_MA_tryKey_23 rfl rfl ?_
    refine ab_if_ne X 31 d_MA_tryKey_24 rfl (fun h24 => ?_) (fun h24 => ?_)
    ·
      refine ab_iconst (v := 1) X d_MA_tryKey_31 (by decide) ?_
      refine ab_callV (as := [ab_I _]) X (fun h => by cases h) (s_MA_push u1 _ P1.1) lk_MA_57 d_MA_tryKey_32 rfl rfl (by first | assumption | decide | (show _ < 124; omega) | (show _ < 61; omega) | (show _ < 20; omega)) ⟨by first | exact Nat.le_of_ble_eq_true rfl | (simp only [ab_rm]; omega), by first | exact Nat.le_of_ble_eq_true rfl | (simp only [ab_rm]; omega)⟩ ⟨by first | exact Nat.le_of_ble_eq_true rfl | (simp only [ab_rm]; omega), by first | exact Nat.le_of_ble_eq_true rfl | (simp only [ab_rm]; omega)⟩ (Nat.le_of_ble_eq_true rfl) (fun u32 r32 h32 => ?_)
      obtain ⟨q32, rfl⟩ := h32
      have P32 := P1.trans q32 (by decide)
      exact ab_retv X hr0 hlk d_MA_tryKey_35 ⟨P32, rfl⟩
    ·
      refine ab_iconst (v := 0) X d_MA_tryKey_27 (by decide) ?_
      refine ab_goto X 32 d_MA_tryKey_28 rfl ?_
      refine ab_callV (as := [ab_I _]) X (fun h => by cases h) (s_MA_push u1 _ P1.1) lk_MA_57 d_MA_tryKey_32 rfl rfl (by first | assumption | decide | (show _ < 124; omega) | (show _ < 61; omega) | (show _ < 20; omega)) ⟨by first | exact Nat.le_of_ble_eq_true rfl | (simp only [ab_rm]; omega), by first | exact Nat.le_of_ble_eq_true rfl | (simp only [ab_rm]; omega)⟩ ⟨by first | exact Nat.le_of_ble_eq_true rfl | (simp only [ab_rm]; omega), by first | exact Nat.le_of_ble_eq_true rfl | (simp only [ab_rm]; omega)⟩ (Nat.le_of_ble_eq_true rfl) (fun u32 r32 h32 => ?_)
      obtain ⟨q32, rfl⟩ := h32
      have P32 := P1.trans q32 (by decide)
      exact ab_retv X hr0 hlk d_MA_tryKey_35 ⟨P32, rfl⟩
  ·
    refine ab_iload_n X 0 d_MA_tryKey_13 rfl rfl ?_
    refine ab_if_eq X 22 d_MA_tryKey_14 rfl (fun h14 => ?_) (fun h14 => ?_)
    ·
      refine ab_aload_n X 1 d_MA_tryKey_22 rfl rfl ?_
      refine ab_iload_n X 0 d_MA_tryKey_23 rfl rfl ?_
      refine ab_if_ne X 31 d_MA_tryKey_24 rfl (fun h24 => ?_) (fun h24 => ?_)
      ·
        refine ab_iconst (v := 1) X d_MA_tryKey_31 (by decide) ?_
        refine ab_callV (as := [ab_I _]) X (fun h => by cases h) (s_MA_push u1 _ P1.1) lk_MA_57 d_MA_tryKey_32 rfl rfl (by first | assumption | decide | (show _ < 124; omega) | (show _ < 61; omega) | (show _ < 20; omega)) ⟨by first | exact Nat.le_of_ble_eq_true rfl | (simp only [ab_rm]; omega), by first | exact Nat.le_of_ble_eq_true rfl | (simp only [ab_rm]; omega)⟩ ⟨by first | exact Nat.le_of_ble_eq_true rfl | (simp only [ab_rm]; omega), by first | exact Nat.le_of_ble_eq_true rfl | (simp only [ab_rm]; omega)⟩ (Nat.le_of_ble_eq_true rfl) (fun u32 r32 h32 => ?_)
        obtain ⟨q32, rfl⟩ := h32
        have P32 := P1.trans q32 (by decide)
        exact ab_retv X hr0 hlk d_MA_tryKey_35 ⟨P32, rfl⟩
      ·
        refine ab_iconst (v := 0) X d_MA_tryKey_27 (by decide) ?_
        refine ab_goto X 32 d_MA_tryKey_28 rfl ?_
        refine ab_callV (as := [ab_I _]) X (fun h => by cases h) (s_MA_push u1 _ P1.1) lk_MA_57 d_MA_tryKey_32 rfl rfl (by first | assumption | decide | (show _ < 124; omega) | (show _ < 61; omega) | (show _ < 20; omega)) ⟨by first | exact Nat.le_of_ble_eq_true rfl | (simp only [ab_rm]; omega), by first | exact Nat.le_of_ble_eq_true rfl | (simp only [ab_rm]; omega)⟩ ⟨by first | exact Nat.le_of_ble_eq_true rfl | (simp only [ab_rm]; omega), by first | exact Nat.le_of_ble_eq_true rfl | (simp only [ab_rm]; omega)⟩ (Nat.le_of_ble_eq_true rfl) (fun u32 r32 h32 => ?_)
        obtain ⟨q32, rfl⟩ := h32
        have P32 := P1.trans q32 (by decide)
        exact ab_retv X hr0 hlk d_MA_tryKey_35 ⟨P32, rfl⟩
    ·
      refine ab_aload_n X 1 d_MA_tryKey_17 rfl rfl ?_
      refine ab_iconst (v := 1) X d_MA_tryKey_18 (by decide) ?_
      refine ab_putI X fp_MA_31 d_MA_tryKey_19 (by first | assumption | decide | (show _ < 124; omega) | (show _ < 61; omega) | (show _ < 20; omega)) rfl rfl ?_
      refine ab_gen (fun u19 e19 => ?_)
      have P19 : mQ u u19 := by rw [e19]; exact P1.ui rfl (by decide)
      refine ab_aload_n X 1 d_MA_tryKey_22 rfl rfl ?_
      refine ab_iload_n X 0 d_MA_tryKey_23 rfl rfl ?_
      refine ab_if_ne X 31 d_MA_tryKey_24 rfl (fun h24 => ?_) (fun h24 => ?_)
      ·
        refine ab_iconst (v := 1) X d_MA_tryKey_31 (by decide) ?_
        refine ab_callV (as := [ab_I _]) X (fun h => by cases h) (s_MA_push u19 _ P19.1) lk_MA_57 d_MA_tryKey_32 rfl rfl (by first | assumption | decide | (show _ < 124; omega) | (show _ < 61; omega) | (show _ < 20; omega)) ⟨by first | exact Nat.le_of_ble_eq_true rfl | (simp only [ab_rm]; omega), by first | exact Nat.le_of_ble_eq_true rfl | (simp only [ab_rm]; omega)⟩ ⟨by first | exact Nat.le_of_ble_eq_true rfl | (simp only [ab_rm]; omega), by first | exact Nat.le_of_ble_eq_true rfl | (simp only [ab_rm]; omega)⟩ (Nat.le_of_ble_eq_true rfl) (fun u32 r32 h32 => ?_)
        obtain ⟨q32, rfl⟩ := h32
        have P32 := P19.trans q32 (by decide)
        exact ab_retv X hr0 hlk d_MA_tryKey_35 ⟨P32, rfl⟩
      ·
        refine ab_iconst (v := 0) X d_MA_tryKey_27 (by decide) ?_
        refine ab_goto X 32 d_MA_tryKey_28 rfl ?_
        refine ab_callV (as := [ab_I _]) X (fun h => by cases h) (s_MA_push u19 _ P19.1) lk_MA_57 d_MA_tryKey_32 rfl rfl (by first | assumption | decide | (show _ < 124; omega) | (show _ < 61; omega) | (show _ < 20; omega)) ⟨by first | exact Nat.le_of_ble_eq_true rfl | (simp only [ab_rm]; omega), by first | exact Nat.le_of_ble_eq_true rfl | (simp only [ab_rm]; omega)⟩ ⟨by first | exact Nat.le_of_ble_eq_true rfl | (simp only [ab_rm]; omega), by first | exact Nat.le_of_ble_eq_true rfl | (simp only [ab_rm]; omega)⟩ (Nat.le_of_ble_eq_true rfl) (fun u32 r32 h32 => ?_)
        obtain ⟨q32, rfl⟩ := h32
        have P32 := P19.trans q32 (by decide)
        exact ab_retv X hr0 hlk d_MA_tryKey_35 ⟨P32, rfl⟩
abbrev b_MA_findBehind : ByteArray := prog_4_method_10_code
def y_MA_findBehind : MethodName := ⟨"PolicyForge$Machine", "findBehind", "(ILPolicyForge$Script;)I"⟩
theorem d_MA_findBehind_0 : decode b_MA_findBehind 0 = .ok (.iconst 0, 1) := by decide +kernel
theorem d_MA_findBehind_1 : decode b_MA_findBehind 1 = .ok (.istore_n 3, 1) := by decide +kernel
theorem d_MA_findBehind_2 : decode b_MA_findBehind 2 = .ok (.aload_n 0, 1) := by decide +kernel
theorem d_MA_findBehind_3 : decode b_MA_findBehind 3 = .ok (.getfield 25, 3) := by decide +kernel
theorem d_MA_findBehind_6 : decode b_MA_findBehind 6 = .ok (.iconst 1, 1) := by decide +kernel
theorem d_MA_findBehind_7 : decode b_MA_findBehind 7 = .ok (.iadd, 1) := by decide +kernel
theorem d_MA_findBehind_8 : decode b_MA_findBehind 8 = .ok (.istore 4, 2) := by decide +kernel
theorem d_MA_findBehind_10 : decode b_MA_findBehind 10 = .ok (.iload 4, 2) := by decide +kernel
theorem d_MA_findBehind_12 : decode b_MA_findBehind 12 = .ok (.aload_n 2, 1) := by decide +kernel
theorem d_MA_findBehind_13 : decode b_MA_findBehind 13 = .ok (.getfield 39, 3) := by decide +kernel
theorem d_MA_findBehind_16 : decode b_MA_findBehind 16 = .ok (.if_icmp .ge 65, 3) := by decide +kernel
theorem d_MA_findBehind_19 : decode b_MA_findBehind 19 = .ok (.aload_n 2, 1) := by decide +kernel
theorem d_MA_findBehind_20 : decode b_MA_findBehind 20 = .ok (.getfield 44, 3) := by decide +kernel
theorem d_MA_findBehind_23 : decode b_MA_findBehind 23 = .ok (.iload 4, 2) := by decide +kernel
theorem d_MA_findBehind_25 : decode b_MA_findBehind 25 = .ok (.iaload, 1) := by decide +kernel
theorem d_MA_findBehind_26 : decode b_MA_findBehind 26 = .ok (.sipush 1000, 3) := by decide +kernel
theorem d_MA_findBehind_29 : decode b_MA_findBehind 29 = .ok (.idiv, 1) := by decide +kernel
theorem d_MA_findBehind_30 : decode b_MA_findBehind 30 = .ok (.istore 5, 2) := by decide +kernel
theorem d_MA_findBehind_32 : decode b_MA_findBehind 32 = .ok (.iload_n 3, 1) := by decide +kernel
theorem d_MA_findBehind_33 : decode b_MA_findBehind 33 = .ok (.ifCond .ne 12, 3) := by decide +kernel
theorem d_MA_findBehind_36 : decode b_MA_findBehind 36 = .ok (.iload 5, 2) := by decide +kernel
theorem d_MA_findBehind_38 : decode b_MA_findBehind 38 = .ok (.iload_n 1, 1) := by decide +kernel
theorem d_MA_findBehind_39 : decode b_MA_findBehind 39 = .ok (.if_icmp .ne 6, 3) := by decide +kernel
theorem d_MA_findBehind_42 : decode b_MA_findBehind 42 = .ok (.iload 4, 2) := by decide +kernel
theorem d_MA_findBehind_44 : decode b_MA_findBehind 44 = .ok (.ireturn, 1) := by decide +kernel
theorem d_MA_findBehind_45 : decode b_MA_findBehind 45 = .ok (.iload 5, 2) := by decide +kernel
theorem d_MA_findBehind_47 : decode b_MA_findBehind 47 = .ok (.bipush 12, 2) := by decide +kernel
theorem d_MA_findBehind_49 : decode b_MA_findBehind 49 = .ok (.if_icmp .eq 10, 3) := by decide +kernel
theorem d_MA_findBehind_52 : decode b_MA_findBehind 52 = .ok (.iload 5, 2) := by decide +kernel
theorem d_MA_findBehind_54 : decode b_MA_findBehind 54 = .ok (.bipush 15, 2) := by decide +kernel
theorem d_MA_findBehind_56 : decode b_MA_findBehind 56 = .ok (.if_icmp .ne 9, 3) := by decide +kernel
theorem d_MA_findBehind_59 : decode b_MA_findBehind 59 = .ok (.iinc 3 1, 3) := by decide +kernel
theorem d_MA_findBehind_62 : decode b_MA_findBehind 62 = .ok (.goto 13, 3) := by decide +kernel
theorem d_MA_findBehind_65 : decode b_MA_findBehind 65 = .ok (.iload 5, 2) := by decide +kernel
theorem d_MA_findBehind_67 : decode b_MA_findBehind 67 = .ok (.bipush 14, 2) := by decide +kernel
theorem d_MA_findBehind_69 : decode b_MA_findBehind 69 = .ok (.if_icmp .ne 6, 3) := by decide +kernel
theorem d_MA_findBehind_72 : decode b_MA_findBehind 72 = .ok (.iinc 3 (-1), 3) := by decide +kernel
theorem d_MA_findBehind_75 : decode b_MA_findBehind 75 = .ok (.iinc 4 1, 3) := by decide +kernel
theorem d_MA_findBehind_78 : decode b_MA_findBehind 78 = .ok (.goto (-68), 3) := by decide +kernel
theorem d_MA_findBehind_81 : decode b_MA_findBehind 81 = .ok (.aload_n 0, 1) := by decide +kernel
theorem d_MA_findBehind_82 : decode b_MA_findBehind 82 = .ok (.getfield 25, 3) := by decide +kernel
theorem d_MA_findBehind_85 : decode b_MA_findBehind 85 = .ok (.ireturn, 1) := by decide +kernel
theorem fl_MA_25 : ab_fl "PolicyForge$Machine" 25 7 4 0 := ⟨rfl, R_MA, T_MA, 7, rfl, uw_MA, by decide, rfl, (ab_in 332 (by decide +kernel) (by decide +kernel))⟩
theorem fl_MA_39 : ab_fl "PolicyForge$Machine" 39 5 2 0 := ⟨rfl, R_SC, T_SC, 4, rfl, uw_SC, by decide, rfl, (ab_in 290 (by decide +kernel) (by decide +kernel))⟩
theorem fl_MA_44 : ab_fl "PolicyForge$Machine" 44 5 0 1 := ⟨rfl, R_SC, T_SC, 4, rfl, uw_SC, by decide, rfl, (ab_in 285 (by decide +kernel) (by decide +kernel))⟩
set_option maxRecDepth 100000 in
set_option maxHeartbeats 1000000 in
theorem t_MA_findBehind (u : ab_S) (a : Int32) (t : Nat) (h : CI u) (ht : t < 128) (et : u.1 7 0 4 = nI t) : ab_C false l D ca y_MA_findBehind b_MA_findBehind 6 (some FieldType.int) 0 ab_nQ u [ab_O 7 0, ab_I a, ab_O 5 0] (fun u' v => u' = u ∧ ∃ n, n < 128 ∧ v = some (ab_I (nI n))) := by
  refine ab_C.of (by decide) (Nat.le_of_ble_eq_true rfl) ?_
  intro p e s m args below meth c ad X hZ hr0 hlk
  have P0 : mQ u u := mQ.rf h
  obtain ⟨⟨n, hn, en⟩, -⟩ := h.scr
  have loop : ∀ (k j : Nat) (y : Int32), k + j = 129 → ab_J p l e (ab_rm 0 0 0) s m args below meth c (MQ below (ab_Q D ca ad ab_nQ s.heap.size (fun u' v => u' = u ∧ ∃ n, n < 128 ∧ v = some (ab_I (nI n)))) args s 0 0 (ab_A ad ab_nQ s.heap.size)) D ca (ab_A ad ab_nQ s.heap.size) s.heap 6 0 0 ad ab_nQ u 10 [(4, ab_I (nI j)), (3, ab_I y), (0, ab_O 7 0), (1, ab_I a), (2, ab_O 5 0)] [] := by
    intro k
    induction k with
    | zero =>
      intro j y hj
      refine ab_iload X 0 d_MA_findBehind_10 rfl ?_
      refine ab_aload_n X 4 d_MA_findBehind_12 rfl rfl ?_
      refine ab_gI X fl_MA_39 d_MA_findBehind_13 (by first | assumption | decide | (show _ < 124; omega) | (show _ < 61; omega) | (show _ < 20; omega)) (en) ?_
      refine ab_icmp_ge X 81 d_MA_findBehind_16 rfl (fun _ => ?_) (fun hb => absurd ((nI_le (by omega) (by omega))) hb)
      refine ab_aload_n X 2 d_MA_findBehind_81 rfl rfl ?_
      refine ab_gI X fl_MA_25 d_MA_findBehind_82 (by first | assumption | decide | (show _ < 124; omega) | (show _ < 61; omega) | (show _ < 20; omega)) (et) ?_
      exact ab_reti X hr0 hlk d_MA_findBehind_85 ⟨rfl, t, ht, rfl⟩
    | succ k ih =>
      intro j y hj
      refine ab_iload X 0 d_MA_findBehind_10 rfl ?_
      refine ab_aload_n X 4 d_MA_findBehind_12 rfl rfl ?_
      refine ab_gI X fl_MA_39 d_MA_findBehind_13 (by first | assumption | decide | (show _ < 124; omega) | (show _ < 61; omega) | (show _ < 20; omega)) (en) ?_
      refine ab_icmp_ge X 81 d_MA_findBehind_16 rfl (fun h16 => ?_) (fun h16 => ?_)
      ·
        refine ab_aload_n X 2 d_MA_findBehind_81 rfl rfl ?_
        refine ab_gI X fl_MA_25 d_MA_findBehind_82 (by first | assumption | decide | (show _ < 124; omega) | (show _ < 61; omega) | (show _ < 20; omega)) (et) ?_
        exact ab_reti X hr0 hlk d_MA_findBehind_85 ⟨rfl, t, ht, rfl⟩
      ·
        have hjn := nI_lt_of h16 (by omega)
        refine ab_aload_n X 4 d_MA_findBehind_19 rfl rfl ?_
        refine ab_gR X fl_MA_44 d_MA_findBehind_20 (by first | assumption | decide | (show _ < 124; omega) | (show _ < 61; omega) | (show _ < 20; omega)) (P0.1.sc0) ?_
        refine ab_iload X 0 d_MA_findBehind_23 rfl ?_
        refine ab_iald X (j) ⟨rfl, rfl⟩ d_MA_findBehind_25 (by first | assumption | decide | (show _ < 124; omega) | (show _ < 61; omega) | (show _ < 20; omega)) (rfl) (show j < 128 by omega) (ab_ln_lt _ _) ?_
        refine ab_sipush (v := 1000) X d_MA_findBehind_26 (by decide) ?_
        refine ab_idiv X d_MA_findBehind_29 (by decide) ?_
        refine ab_istore5 X 0 1 2 3 4 d_MA_findBehind_30 (by decide) rfl rfl rfl rfl rfl rfl rfl rfl rfl rfl ?_
        refine ab_iload_n X 2 d_MA_findBehind_32 rfl rfl ?_
        refine ab_if_ne X 45 d_MA_findBehind_33 rfl (fun h33 => ?_) (fun h33 => ?_)
        ·
          refine ab_iload X 0 d_MA_findBehind_45 rfl ?_
          refine ab_bipush (v := 12) X d_MA_findBehind_47 (by decide) ?_
          refine ab_icmp_eq X 59 d_MA_findBehind_49 rfl (fun h49 => ?_) (fun h49 => ?_)
          ·
            refine ab_iinc5 X 2 0 1 3 4 5 d_MA_findBehind_59 rfl (by decide) rfl rfl rfl rfl rfl rfl rfl rfl rfl rfl ?_
            refine ab_goto X 75 d_MA_findBehind_62 rfl ?_
            refine ab_iinc5 X 2 0 1 3 4 5 d_MA_findBehind_75 rfl (by decide) rfl rfl rfl rfl rfl rfl rfl rfl rfl rfl ?_
            refine ab_goto X 10 d_MA_findBehind_78 rfl ?_
            refine ab_lv (List.forall_mem_cons.mpr ⟨List.mem_of_getElem? (i := 0) rfl, List.forall_mem_cons.mpr ⟨List.mem_of_getElem? (i := 1) rfl, List.forall_mem_cons.mpr ⟨List.mem_of_getElem? (i := 3) rfl, List.forall_mem_cons.mpr ⟨List.mem_of_getElem? (i := 4) rfl, List.forall_mem_cons.mpr ⟨List.mem_of_getElem? (i := 5) rfl, fun _ h => absurd h List.not_mem_nil⟩⟩⟩⟩⟩) ?_
            rw [show nI j + Int32.ofInt 1 = nI (j + 1) from nI_1 j]
            exact ih (j + 1) _ (by omega)
          ·
            refine ab_iload X 0 d_MA_findBehind_52 rfl ?_
            refine ab_bipush (v := 15) X d_MA_findBehind_54 (by decide) ?_
            refine ab_icmp_ne X 65 d_MA_findBehind_56 rfl (fun h56 => ?_) (fun h56 => ?_)
            ·
              refine ab_iload X 0 d_MA_findBehind_65 rfl ?_
              refine ab_bipush (v := 14) X d_MA_findBehind_67 (by decide) ?_
              refine ab_icmp_ne X 75 d_MA_findBehind_69 rfl (fun h69 => ?_) (fun h69 => ?_)
              ·
                refine ab_iinc5 X 1 0 2 3 4 5 d_MA_findBehind_75 rfl (by decide) rfl rfl rfl rfl rfl rfl rfl rfl rfl rfl ?_
                refine ab_goto X 10 d_MA_findBehind_78 rfl ?_
                refine ab_lv (List.forall_mem_cons.mpr ⟨List.mem_of_getElem? (i := 0) rfl, List.forall_mem_cons.mpr ⟨List.mem_of_getElem? (i := 2) rfl, List.forall_mem_cons.mpr ⟨List.mem_of_getElem? (i := 3) rfl, List.forall_mem_cons.mpr ⟨List.mem_of_getElem? (i := 4) rfl, List.forall_mem_cons.mpr ⟨List.mem_of_getElem? (i := 5) rfl, fun _ h => absurd h List.not_mem_nil⟩⟩⟩⟩⟩) ?_
                rw [show nI j + Int32.ofInt 1 = nI (j + 1) from nI_1 j]
                exact ih (j + 1) _ (by omega)
              ·
                refine ab_iinc5 X 2 0 1 3 4 5 d_MA_findBehind_72 rfl (by decide) rfl rfl rfl rfl rfl rfl rfl rfl rfl rfl ?_
                refine ab_iinc5 X 2 0 1 3 4 5 d_MA_findBehind_75 rfl (by decide) rfl rfl rfl rfl rfl rfl rfl rfl rfl rfl ?_
                refine ab_goto X 10 d_MA_findBehind_78 rfl ?_
                refine ab_lv (List.forall_mem_cons.mpr ⟨List.mem_of_getElem? (i := 0) rfl, List.forall_mem_cons.mpr ⟨List.mem_of_getElem? (i := 1) rfl, List.forall_mem_cons.mpr ⟨List.mem_of_getElem? (i := 3) rfl, List.forall_mem_cons.mpr ⟨List.mem_of_getElem? (i := 4) rfl, List.forall_mem_cons.mpr ⟨List.mem_of_getElem? (i := 5) rfl, fun _ h => absurd h List.not_mem_nil⟩⟩⟩⟩⟩) ?_
                rw [show nI j + Int32.ofInt 1 = nI (j + 1) from nI_1 j]
                exact ih (j + 1) _ (by omega)
            ·
              refine ab_iinc5 X 2 0 1 3 4 5 d_MA_findBehind_59 rfl (by decide) rfl rfl rfl rfl rfl rfl rfl rfl rfl rfl ?_
              refine ab_goto X 75 d_MA_findBehind_62 rfl ?_
              refine ab_iinc5 X 2 0 1 3 4 5 d_MA_findBehind_75 rfl (by decide) rfl rfl rfl rfl rfl rfl rfl rfl rfl rfl ?_
              refine ab_goto X 10 d_MA_findBehind_78 rfl ?_
              refine ab_lv (List.forall_mem_cons.mpr ⟨List.mem_of_getElem? (i := 0) rfl, List.forall_mem_cons.mpr ⟨List.mem_of_getElem? (i := 1) rfl, List.forall_mem_cons.mpr ⟨List.mem_of_getElem? (i := 3) rfl, List.forall_mem_cons.mpr ⟨List.mem_of_getElem? (i := 4) rfl, List.forall_mem_cons.mpr ⟨List.mem_of_getElem? (i := 5) rfl, fun _ h => absurd h List.not_mem_nil⟩⟩⟩⟩⟩) ?_
              rw [show nI j + Int32.ofInt 1 = nI (j + 1) from nI_1 j]
              exact ih (j + 1) _ (by omega)
        ·
          refine ab_iload X 0 d_MA_findBehind_36 rfl ?_
          refine ab_iload_n X 4 d_MA_findBehind_38 rfl rfl ?_
          refine ab_icmp_ne X 45 d_MA_findBehind_39 rfl (fun h39 => ?_) (fun h39 => ?_)
          ·
            refine ab_iload X 0 d_MA_findBehind_45 rfl ?_
            refine ab_bipush (v := 12) X d_MA_findBehind_47 (by decide) ?_
            refine ab_icmp_eq X 59 d_MA_findBehind_49 rfl (fun h49 => ?_) (fun h49 => ?_)
            ·
              refine ab_iinc5 X 2 0 1 3 4 5 d_MA_findBehind_59 rfl (by decide) rfl rfl rfl rfl rfl rfl rfl rfl rfl rfl ?_
              refine ab_goto X 75 d_MA_findBehind_62 rfl ?_
              refine ab_iinc5 X 2 0 1 3 4 5 d_MA_findBehind_75 rfl (by decide) rfl rfl rfl rfl rfl rfl rfl rfl rfl rfl ?_
              refine ab_goto X 10 d_MA_findBehind_78 rfl ?_
              refine ab_lv (List.forall_mem_cons.mpr ⟨List.mem_of_getElem? (i := 0) rfl, List.forall_mem_cons.mpr ⟨List.mem_of_getElem? (i := 1) rfl, List.forall_mem_cons.mpr ⟨List.mem_of_getElem? (i := 3) rfl, List.forall_mem_cons.mpr ⟨List.mem_of_getElem? (i := 4) rfl, List.forall_mem_cons.mpr ⟨List.mem_of_getElem? (i := 5) rfl, fun _ h => absurd h List.not_mem_nil⟩⟩⟩⟩⟩) ?_
              rw [show nI j + Int32.ofInt 1 = nI (j + 1) from nI_1 j]
              exact ih (j + 1) _ (by omega)
            ·
              refine ab_iload X 0 d_MA_findBehind_52 rfl ?_
              refine ab_bipush (v := 15) X d_MA_findBehind_54 (by decide) ?_
              refine ab_icmp_ne X 65 d_MA_findBehind_56 rfl (fun h56 => ?_) (fun h56 => ?_)
              ·
                refine ab_iload X 0 d_MA_findBehind_65 rfl ?_
                refine ab_bipush (v := 14) X d_MA_findBehind_67 (by decide) ?_
                refine ab_icmp_ne X 75 d_MA_findBehind_69 rfl (fun h69 => ?_) (fun h69 => ?_)
                ·
                  refine ab_iinc5 X 1 0 2 3 4 5 d_MA_findBehind_75 rfl (by decide) rfl rfl rfl rfl rfl rfl rfl rfl rfl rfl ?_
                  refine ab_goto X 10 d_MA_findBehind_78 rfl ?_
                  refine ab_lv (List.forall_mem_cons.mpr ⟨List.mem_of_getElem? (i := 0) rfl, List.forall_mem_cons.mpr ⟨List.mem_of_getElem? (i := 2) rfl, List.forall_mem_cons.mpr ⟨List.mem_of_getElem? (i := 3) rfl, List.forall_mem_cons.mpr ⟨List.mem_of_getElem? (i := 4) rfl, List.forall_mem_cons.mpr ⟨List.mem_of_getElem? (i := 5) rfl, fun _ h => absurd h List.not_mem_nil⟩⟩⟩⟩⟩) ?_
                  rw [show nI j + Int32.ofInt 1 = nI (j + 1) from nI_1 j]
                  exact ih (j + 1) _ (by omega)
                ·
                  refine ab_iinc5 X 2 0 1 3 4 5 d_MA_findBehind_72 rfl (by decide) rfl rfl rfl rfl rfl rfl rfl rfl rfl rfl ?_
                  refine ab_iinc5 X 2 0 1 3 4 5 d_MA_findBehind_75 rfl (by decide) rfl rfl rfl rfl rfl rfl rfl rfl rfl rfl ?_
                  refine ab_goto X 10 d_MA_findBehind_78 rfl ?_
                  refine ab_lv (List.forall_mem_cons.mpr ⟨List.mem_of_getElem? (i := 0) rfl, List.forall_mem_cons.mpr ⟨List.mem_of_getElem? (i := 1) rfl, List.forall_mem_cons.mpr ⟨List.mem_of_getElem? (i := 3) rfl, List.forall_mem_cons.mpr ⟨List.mem_of_getElem? (i := 4) rfl, List.forall_mem_cons.mpr ⟨List.mem_of_getElem? (i := 5) rfl, fun _ h => absurd h List.not_mem_nil⟩⟩⟩⟩⟩) ?_
                  rw [show nI j + Int32.ofInt 1 = nI (j + 1) from nI_1 j]
                  exact ih (j + 1) _ (by omega)
              ·
                refine ab_iinc5 X 2 0 1 3 4 5 d_MA_findBehind_59 rfl (by decide) rfl rfl rfl rfl rfl rfl rfl rfl rfl rfl ?_
                refine ab_goto X 75 d_MA_findBehind_62 rfl ?_
                refine ab_iinc5 X 2 0 1 3 4 5 d_MA_findBehind_75 rfl (by decide) rfl rfl rfl rfl rfl rfl rfl rfl rfl rfl ?_
                refine ab_goto X 10 d_MA_findBehind_78 rfl ?_
                refine ab_lv (List.forall_mem_cons.mpr ⟨List.mem_of_getElem? (i := 0) rfl, List.forall_mem_cons.mpr ⟨List.mem_of_getElem? (i := 1) rfl, List.forall_mem_cons.mpr ⟨List.mem_of_getElem? (i := 3) rfl, List.forall_mem_cons.mpr ⟨List.mem_of_getElem? (i := 4) rfl, List.forall_mem_cons.mpr ⟨List.mem_of_getElem? (i := 5) rfl, fun _ h => absurd h List.not_mem_nil⟩⟩⟩⟩⟩) ?_
                rw [show nI j + Int32.ofInt 1 = nI (j + 1) from nI_1 j]
                exact ih (j + 1) _ (by omega)
          ·
            refine ab_iload X 1 d_MA_findBehind_42 rfl ?_
            exact ab_reti X hr0 hlk d_MA_findBehind_44 ⟨rfl, j, by omega, rfl⟩
  refine ab_iconst (v := 0) X d_MA_findBehind_0 (by decide) ?_
  refine ab_istore_n3 X 0 1 2 d_MA_findBehind_1 rfl (by decide) rfl rfl rfl rfl rfl rfl ?_
  refine ab_aload_n X 1 d_MA_findBehind_2 rfl rfl ?_
  refine ab_gI X fl_MA_25 d_MA_findBehind_3 (by first | assumption | decide | (show _ < 124; omega) | (show _ < 61; omega) | (show _ < 20; omega)) (et) ?_
  refine ab_iconst (v := 1) X d_MA_findBehind_6 (by decide) ?_
  refine ab_iadd X d_MA_findBehind_7 ?_
  refine ab_top (nI_1 _) ?_
  refine ab_istore4 X 0 1 2 3 d_MA_findBehind_8 (by decide) rfl rfl rfl rfl rfl rfl rfl rfl ?_
  exact loop (128 - t) (t + 1) _ (by omega)
abbrev b_MA_tryIf : ByteArray := prog_4_method_7_code
def y_MA_tryIf : MethodName := ⟨"PolicyForge$Machine", "tryIf", "(LPolicyForge$Script;)V"⟩
theorem d_MA_tryIf_0 : decode b_MA_tryIf 0 = .ok (.aload_n 0, 1) := by decide +kernel
theorem d_MA_tryIf_1 : decode b_MA_tryIf 1 = .ok (.invokevirtual 64, 3) := by decide +kernel
theorem d_MA_tryIf_4 : decode b_MA_tryIf 4 = .ok (.istore_n 2, 1) := by decide +kernel
theorem d_MA_tryIf_5 : decode b_MA_tryIf 5 = .ok (.iload_n 2, 1) := by decide +kernel
theorem d_MA_tryIf_6 : decode b_MA_tryIf 6 = .ok (.iconst 1, 1) := by decide +kernel
theorem d_MA_tryIf_7 : decode b_MA_tryIf 7 = .ok (.if_icmp .eq 15, 3) := by decide +kernel
theorem d_MA_tryIf_10 : decode b_MA_tryIf 10 = .ok (.iload_n 2, 1) := by decide +kernel
theorem d_MA_tryIf_11 : decode b_MA_tryIf 11 = .ok (.ifCond .eq 11, 3) := by decide +kernel
theorem d_MA_tryIf_14 : decode b_MA_tryIf 14 = .ok (.aload_n 0, 1) := by decide +kernel
theorem d_MA_tryIf_15 : decode b_MA_tryIf 15 = .ok (.iconst 1, 1) := by decide +kernel
theorem d_MA_tryIf_16 : decode b_MA_tryIf 16 = .ok (.putfield 31, 3) := by decide +kernel
theorem d_MA_tryIf_19 : decode b_MA_tryIf 19 = .ok (.goto 25, 3) := by decide +kernel
theorem d_MA_tryIf_22 : decode b_MA_tryIf 22 = .ok (.iload_n 2, 1) := by decide +kernel
theorem d_MA_tryIf_23 : decode b_MA_tryIf 23 = .ok (.ifCond .ne 21, 3) := by decide +kernel
theorem d_MA_tryIf_26 : decode b_MA_tryIf 26 = .ok (.aload_n 0, 1) := by decide +kernel
theorem d_MA_tryIf_27 : decode b_MA_tryIf 27 = .ok (.getfield 31, 3) := by decide +kernel
theorem d_MA_tryIf_30 : decode b_MA_tryIf 30 = .ok (.ifCond .ne 14, 3) := by decide +kernel
theorem d_MA_tryIf_33 : decode b_MA_tryIf 33 = .ok (.aload_n 0, 1) := by decide +kernel
theorem d_MA_tryIf_34 : decode b_MA_tryIf 34 = .ok (.aload_n 0, 1) := by decide +kernel
theorem d_MA_tryIf_35 : decode b_MA_tryIf 35 = .ok (.bipush 13, 2) := by decide +kernel
theorem d_MA_tryIf_37 : decode b_MA_tryIf 37 = .ok (.aload_n 1, 1) := by decide +kernel
theorem d_MA_tryIf_38 : decode b_MA_tryIf 38 = .ok (.invokevirtual 98, 3) := by decide +kernel
theorem d_MA_tryIf_41 : decode b_MA_tryIf 41 = .ok (.putfield 25, 3) := by decide +kernel
theorem d_MA_tryIf_44 : decode b_MA_tryIf 44 = .ok (.return_, 1) := by decide +kernel
theorem fl_MA_31 : ab_fl "PolicyForge$Machine" 31 7 6 0 := ⟨rfl, R_MA, T_MA, 7, rfl, uw_MA, by decide, rfl, (ab_in 335 (by decide +kernel) (by decide +kernel))⟩
theorem lk_MA_98 : ab_lk "PolicyForge$Machine" 98 y_MA_findBehind b_MA_findBehind 6 (some FieldType.int) 2 7 := ⟨⟨rfl, T_MA, 7, rfl⟩, List.forall_mem_cons.mpr ⟨(ab_in 916 (by decide +kernel) (by decide +kernel)), List.forall_mem_cons.mpr ⟨(ab_in 918 (by decide +kernel) (by decide +kernel)), List.forall_mem_cons.mpr ⟨(ab_in 44 (by decide +kernel) (by decide +kernel)), List.forall_mem_cons.mpr ⟨(ab_in 99 (by decide +kernel) (by decide +kernel)), List.forall_mem_cons.mpr ⟨(ab_in 919 (by decide +kernel) (by decide +kernel)), fun _ h => absurd h List.not_mem_nil⟩⟩⟩⟩⟩, ⟨by decide +kernel, by decide +kernel, by decide +kernel⟩, by decide⟩
set_option maxRecDepth 100000 in
set_option maxHeartbeats 1000000 in
theorem s_MA_tryIf (u : ab_S) (h : CI u) (hat : ∃ n, n < 128 ∧ u.1 7 0 4 = nI n) : ab_C false l D ca y_MA_tryIf b_MA_tryIf 3 none 1 ab_nQ u [ab_O 7 0, ab_O 5 0] (fun u' v => mQ u u' ∧ v = none) := by
  refine ab_C.of (by decide) (Nat.le_of_ble_eq_true rfl) ?_
  intro p e s m args below meth c ad X hZ hr0 hlk
  have P0 : mQ u u := mQ.rf h
  refine ab_aload_n X 0 d_MA_tryIf_0 rfl rfl ?_
  refine ab_callV (as := []) X (fun h => by cases h) (s_MA_take u h) lk_MA_64 d_MA_tryIf_1 rfl rfl (by first | assumption | decide | (show _ < 124; omega) | (show _ < 61; omega) | (show _ < 20; omega)) ⟨by first | exact Nat.le_of_ble_eq_true rfl | (simp only [ab_rm]; omega), by first | exact Nat.le_of_ble_eq_true rfl | (simp only [ab_rm]; omega)⟩ ⟨by first | exact Nat.le_of_ble_eq_true rfl | (simp only [ab_rm]; omega), by first | exact Nat.le_of_ble_eq_true rfl | (simp only [ab_rm]; omega)⟩ (Nat.le_of_ble_eq_true rfl) (fun u1 r1 h1 => ?_)
  obtain ⟨q1, x1, rfl⟩ := h1
  have P1 := P0.trans q1 (by decide)
  refine ab_istore_n2 X 0 1 d_MA_tryIf_4 rfl (by decide) rfl rfl rfl rfl ?_
  refine ab_iload_n X 0 d_MA_tryIf_5 rfl rfl ?_
  refine ab_iconst (v := 1) X d_MA_tryIf_6 (by decide) ?_
  refine ab_icmp_eq X 22 d_MA_tryIf_7 rfl (fun h7 => ?_) (fun h7 => ?_)
  ·
    refine ab_iload_n X 0 d_MA_tryIf_22 rfl rfl ?_
    refine ab_if_ne X 44 d_MA_tryIf_23 rfl (fun h23 => ?_) (fun h23 => ?_)
    ·
      exact ab_retv X hr0 hlk d_MA_tryIf_44 ⟨P1, rfl⟩
    ·
      refine ab_aload_n X 1 d_MA_tryIf_26 rfl rfl ?_
      refine ab_gI X fl_MA_31 d_MA_tryIf_27 (by first | assumption | decide | (show _ < 124; omega) | (show _ < 61; omega) | (show _ < 20; omega)) (rfl) ?_
      refine ab_if_ne X 44 d_MA_tryIf_30 rfl (fun h30 => ?_) (fun h30 => ?_)
      ·
        exact ab_retv X hr0 hlk d_MA_tryIf_44 ⟨P1, rfl⟩
      ·
        obtain ⟨t, ht, et⟩ := P1.2.2.2 hat
        refine ab_aload_n X 1 d_MA_tryIf_33 rfl rfl ?_
        refine ab_aload_n X 1 d_MA_tryIf_34 rfl rfl ?_
        refine ab_bipush (v := 13) X d_MA_tryIf_35 (by decide) ?_
        refine ab_aload_n X 2 d_MA_tryIf_37 rfl rfl ?_
        refine ab_callV (as := [ab_I 13, ab_O 5 0]) X (fun h => by cases h) (t_MA_findBehind u1 13 t P1.1 ht et) lk_MA_98 d_MA_tryIf_38 rfl rfl (by first | assumption | decide | (show _ < 124; omega) | (show _ < 61; omega) | (show _ < 20; omega)) ⟨by first | exact Nat.le_of_ble_eq_true rfl | (simp only [ab_rm]; omega), by first | exact Nat.le_of_ble_eq_true rfl | (simp only [ab_rm]; omega)⟩ ⟨by first | exact Nat.le_of_ble_eq_true rfl | (simp only [ab_rm]; omega), by first | exact Nat.le_of_ble_eq_true rfl | (simp only [ab_rm]; omega)⟩ (Nat.le_of_ble_eq_true rfl) (fun u38 r38 h38 => ?_)
        obtain ⟨e38, n38, hn38, rfl⟩ := h38
        subst u38
        refine ab_putI X fp_MA_25 d_MA_tryIf_41 (by first | assumption | decide | (show _ < 124; omega) | (show _ < 61; omega) | (show _ < 20; omega)) rfl rfl ?_
        refine ab_gen (fun u41 e41 => ?_)
        have P41 : mQ u u41 := by rw [e41]; exact P1.m4 hn38
        exact ab_retv X hr0 hlk d_MA_tryIf_44 ⟨P41, rfl⟩
  ·
    refine ab_iload_n X 0 d_MA_tryIf_10 rfl rfl ?_
    refine ab_if_eq X 22 d_MA_tryIf_11 rfl (fun h11 => ?_) (fun h11 => ?_)
    ·
      refine ab_iload_n X 0 d_MA_tryIf_22 rfl rfl ?_
      refine ab_if_ne X 44 d_MA_tryIf_23 rfl (fun h23 => ?_) (fun h23 => ?_)
      ·
        exact ab_retv X hr0 hlk d_MA_tryIf_44 ⟨P1, rfl⟩
      ·
        refine ab_aload_n X 1 d_MA_tryIf_26 rfl rfl ?_
        refine ab_gI X fl_MA_31 d_MA_tryIf_27 (by first | assumption | decide | (show _ < 124; omega) | (show _ < 61; omega) | (show _ < 20; omega)) (rfl) ?_
        refine ab_if_ne X 44 d_MA_tryIf_30 rfl (fun h30 => ?_) (fun h30 => ?_)
        ·
          exact ab_retv X hr0 hlk d_MA_tryIf_44 ⟨P1, rfl⟩
        ·
          obtain ⟨t, ht, et⟩ := P1.2.2.2 hat
          refine ab_aload_n X 1 d_MA_tryIf_33 rfl rfl ?_
          refine ab_aload_n X 1 d_MA_tryIf_34 rfl rfl ?_
          refine ab_bipush (v := 13) X d_MA_tryIf_35 (by decide) ?_
          refine ab_aload_n X 2 d_MA_tryIf_37 rfl rfl ?_
          refine ab_callV (as := [ab_I 13, ab_O 5 0]) X (fun h => by cases h) (t_MA_findBehind u1 13 t P1.1 ht et) lk_MA_98 d_MA_tryIf_38 rfl rfl (by first | assumption | decide | (show _ < 124; omega) | (show _ < 61; omega) | (show _ < 20; omega)) ⟨by first | exact Nat.le_of_ble_eq_true rfl | (simp only [ab_rm]; omega), by first | exact Nat.le_of_ble_eq_true rfl | (simp only [ab_rm]; omega)⟩ ⟨by first | exact Nat.le_of_ble_eq_true rfl | (simp only [ab_rm]; omega), by first | exact Nat.le_of_ble_eq_true rfl | (simp only [ab_rm]; omega)⟩ (Nat.le_of_ble_eq_true rfl) (fun u38 r38 h38 => ?_)
          obtain ⟨e38, n38, hn38, rfl⟩ := h38
          subst u38
          refine ab_putI X fp_MA_25 d_MA_tryIf_41 (by first | assumption | decide | (show _ < 124; omega) | (show _ < 61; omega) | (show _ < 20; omega)) rfl rfl ?_
          refine ab_gen (fun u41 e41 => ?_)
          have P41 : mQ u u41 := by rw [e41]; exact P1.m4 hn38
          exact ab_retv X hr0 hlk d_MA_tryIf_44 ⟨P41, rfl⟩
    ·
      refine ab_aload_n X 1 d_MA_tryIf_14 rfl rfl ?_
      refine ab_iconst (v := 1) X d_MA_tryIf_15 (by decide) ?_
      refine ab_putI X fp_MA_31 d_MA_tryIf_16 (by first | assumption | decide | (show _ < 124; omega) | (show _ < 61; omega) | (show _ < 20; omega)) rfl rfl ?_
      refine ab_gen (fun u16 e16 => ?_)
      have P16 : mQ u u16 := by rw [e16]; exact P1.ui rfl (by decide)
      refine ab_goto X 44 d_MA_tryIf_19 rfl ?_
      exact ab_retv X hr0 hlk d_MA_tryIf_44 ⟨P16, rfl⟩
abbrev b_MA_stepAround : ByteArray := prog_4_method_5_code
def y_MA_stepAround : MethodName := ⟨"PolicyForge$Machine", "stepAround", "(ILPolicyForge$Script;)V"⟩
theorem d_MA_stepAround_0 : decode b_MA_stepAround 0 = .ok (.iload_n 1, 1) := by decide +kernel
theorem d_MA_stepAround_1 : decode b_MA_stepAround 1 = .ok (.tableswitch 115 10 16 #[43, 54, 72, 80, 115, 94, 65], 43) := by decide +kernel
theorem d_MA_stepAround_44 : decode b_MA_stepAround 44 = .ok (.aload_n 0, 1) := by decide +kernel
theorem d_MA_stepAround_45 : decode b_MA_stepAround 45 = .ok (.aload_n 0, 1) := by decide +kernel
theorem d_MA_stepAround_46 : decode b_MA_stepAround 46 = .ok (.invokevirtual 64, 3) := by decide +kernel
theorem d_MA_stepAround_49 : decode b_MA_stepAround 49 = .ok (.invokevirtual 85, 3) := by decide +kernel
theorem d_MA_stepAround_52 : decode b_MA_stepAround 52 = .ok (.goto 64, 3) := by decide +kernel
theorem d_MA_stepAround_55 : decode b_MA_stepAround 55 = .ok (.aload_n 0, 1) := by decide +kernel
theorem d_MA_stepAround_56 : decode b_MA_stepAround 56 = .ok (.aload_n 0, 1) := by decide +kernel
theorem d_MA_stepAround_57 : decode b_MA_stepAround 57 = .ok (.invokevirtual 88, 3) := by decide +kernel
theorem d_MA_stepAround_60 : decode b_MA_stepAround 60 = .ok (.invokevirtual 57, 3) := by decide +kernel
theorem d_MA_stepAround_63 : decode b_MA_stepAround 63 = .ok (.goto 53, 3) := by decide +kernel
theorem d_MA_stepAround_66 : decode b_MA_stepAround 66 = .ok (.aload_n 0, 1) := by decide +kernel
theorem d_MA_stepAround_67 : decode b_MA_stepAround 67 = .ok (.invokevirtual 91, 3) := by decide +kernel
theorem d_MA_stepAround_70 : decode b_MA_stepAround 70 = .ok (.goto 46, 3) := by decide +kernel
theorem d_MA_stepAround_73 : decode b_MA_stepAround 73 = .ok (.aload_n 0, 1) := by decide +kernel
theorem d_MA_stepAround_74 : decode b_MA_stepAround 74 = .ok (.aload_n 2, 1) := by decide +kernel
theorem d_MA_stepAround_75 : decode b_MA_stepAround 75 = .ok (.invokevirtual 94, 3) := by decide +kernel
theorem d_MA_stepAround_78 : decode b_MA_stepAround 78 = .ok (.goto 38, 3) := by decide +kernel
theorem d_MA_stepAround_81 : decode b_MA_stepAround 81 = .ok (.aload_n 0, 1) := by decide +kernel
theorem d_MA_stepAround_82 : decode b_MA_stepAround 82 = .ok (.aload_n 0, 1) := by decide +kernel
theorem d_MA_stepAround_83 : decode b_MA_stepAround 83 = .ok (.bipush 14, 2) := by decide +kernel
theorem d_MA_stepAround_85 : decode b_MA_stepAround 85 = .ok (.aload_n 2, 1) := by decide +kernel
theorem d_MA_stepAround_86 : decode b_MA_stepAround 86 = .ok (.invokevirtual 98, 3) := by decide +kernel
theorem d_MA_stepAround_89 : decode b_MA_stepAround 89 = .ok (.putfield 25, 3) := by decide +kernel
theorem d_MA_stepAround_92 : decode b_MA_stepAround 92 = .ok (.goto 24, 3) := by decide +kernel
theorem d_MA_stepAround_95 : decode b_MA_stepAround 95 = .ok (.aload_n 0, 1) := by decide +kernel
theorem d_MA_stepAround_96 : decode b_MA_stepAround 96 = .ok (.invokevirtual 74, 3) := by decide +kernel
theorem d_MA_stepAround_99 : decode b_MA_stepAround 99 = .ok (.ifCond .eq 17, 3) := by decide +kernel
theorem d_MA_stepAround_102 : decode b_MA_stepAround 102 = .ok (.aload_n 0, 1) := by decide +kernel
theorem d_MA_stepAround_103 : decode b_MA_stepAround 103 = .ok (.aload_n 0, 1) := by decide +kernel
theorem d_MA_stepAround_104 : decode b_MA_stepAround 104 = .ok (.bipush 14, 2) := by decide +kernel
theorem d_MA_stepAround_106 : decode b_MA_stepAround 106 = .ok (.aload_n 2, 1) := by decide +kernel
theorem d_MA_stepAround_107 : decode b_MA_stepAround 107 = .ok (.invokevirtual 98, 3) := by decide +kernel
theorem d_MA_stepAround_110 : decode b_MA_stepAround 110 = .ok (.putfield 25, 3) := by decide +kernel
theorem d_MA_stepAround_113 : decode b_MA_stepAround 113 = .ok (.goto 3, 3) := by decide +kernel
theorem d_MA_stepAround_116 : decode b_MA_stepAround 116 = .ok (.return_, 1) := by decide +kernel
theorem lk_MA_85 : ab_lk "PolicyForge$Machine" 85 y_MA_pushAside b_MA_pushAside 2 none 1 7 := ⟨⟨rfl, T_MA, 7, rfl⟩, List.forall_mem_cons.mpr ⟨(ab_in 900 (by decide +kernel) (by decide +kernel)), List.forall_mem_cons.mpr ⟨(ab_in 902 (by decide +kernel) (by decide +kernel)), List.forall_mem_cons.mpr ⟨(ab_in 40 (by decide +kernel) (by decide +kernel)), List.forall_mem_cons.mpr ⟨(ab_in 99 (by decide +kernel) (by decide +kernel)), List.forall_mem_cons.mpr ⟨(ab_in 903 (by decide +kernel) (by decide +kernel)), fun _ h => absurd h List.not_mem_nil⟩⟩⟩⟩⟩, ⟨by decide +kernel, by decide +kernel, by decide +kernel⟩, by decide⟩
theorem lk_MA_88 : ab_lk "PolicyForge$Machine" 88 y_MA_takeBack b_MA_takeBack 1 (some FieldType.int) 0 7 := ⟨⟨rfl, T_MA, 7, rfl⟩, List.forall_mem_cons.mpr ⟨(ab_in 904 (by decide +kernel) (by decide +kernel)), List.forall_mem_cons.mpr ⟨(ab_in 906 (by decide +kernel) (by decide +kernel)), List.forall_mem_cons.mpr ⟨(ab_in 41 (by decide +kernel) (by decide +kernel)), List.forall_mem_cons.mpr ⟨(ab_in 99 (by decide +kernel) (by decide +kernel)), List.forall_mem_cons.mpr ⟨(ab_in 907 (by decide +kernel) (by decide +kernel)), fun _ h => absurd h List.not_mem_nil⟩⟩⟩⟩⟩, ⟨by decide +kernel, by decide +kernel, by decide +kernel⟩, by decide⟩
theorem lk_MA_91 : ab_lk "PolicyForge$Machine" 91 y_MA_repeatTop b_MA_repeatTop 2 none 0 7 := ⟨⟨rfl, T_MA, 7, rfl⟩, List.forall_mem_cons.mpr ⟨(ab_in 908 (by decide +kernel) (by decide +kernel)), List.forall_mem_cons.mpr ⟨(ab_in 910 (by decide +kernel) (by decide +kernel)), List.forall_mem_cons.mpr ⟨(ab_in 42 (by decide +kernel) (by decide +kernel)), List.forall_mem_cons.mpr ⟨(ab_in 99 (by decide +kernel) (by decide +kernel)), List.forall_mem_cons.mpr ⟨(ab_in 911 (by decide +kernel) (by decide +kernel)), fun _ h => absurd h List.not_mem_nil⟩⟩⟩⟩⟩, ⟨by decide +kernel, by decide +kernel, by decide +kernel⟩, by decide⟩
theorem lk_MA_94 : ab_lk "PolicyForge$Machine" 94 y_MA_tryIf b_MA_tryIf 3 none 1 7 := ⟨⟨rfl, T_MA, 7, rfl⟩, List.forall_mem_cons.mpr ⟨(ab_in 912 (by decide +kernel) (by decide +kernel)), List.forall_mem_cons.mpr ⟨(ab_in 914 (by decide +kernel) (by decide +kernel)), List.forall_mem_cons.mpr ⟨(ab_in 43 (by decide +kernel) (by decide +kernel)), List.forall_mem_cons.mpr ⟨(ab_in 99 (by decide +kernel) (by decide +kernel)), List.forall_mem_cons.mpr ⟨(ab_in 915 (by decide +kernel) (by decide +kernel)), fun _ h => absurd h List.not_mem_nil⟩⟩⟩⟩⟩, ⟨by decide +kernel, by decide +kernel, by decide +kernel⟩, by decide⟩
theorem lk_MA_74 : ab_lk "PolicyForge$Machine" 74 y_MA_takeNumber b_MA_takeNumber 2 (some FieldType.int) 0 7 := ⟨⟨rfl, T_MA, 7, rfl⟩, List.forall_mem_cons.mpr ⟨(ab_in 889 (by decide +kernel) (by decide +kernel)), List.forall_mem_cons.mpr ⟨(ab_in 891 (by decide +kernel) (by decide +kernel)), List.forall_mem_cons.mpr ⟨(ab_in 38 (by decide +kernel) (by decide +kernel)), List.forall_mem_cons.mpr ⟨(ab_in 99 (by decide +kernel) (by decide +kernel)), List.forall_mem_cons.mpr ⟨(ab_in 892 (by decide +kernel) (by decide +kernel)), fun _ h => absurd h List.not_mem_nil⟩⟩⟩⟩⟩, ⟨by decide +kernel, by decide +kernel, by decide +kernel⟩, by decide⟩
set_option maxRecDepth 100000 in
set_option maxHeartbeats 1000000 in
theorem s_MA_stepAround (u : ab_S) (a : Int32) (h : CI u) (hat : ∃ n, n < 128 ∧ u.1 7 0 4 = nI n) : ab_C false l D ca y_MA_stepAround b_MA_stepAround 3 none 2 ab_nQ u [ab_O 7 0, ab_I a, ab_O 5 0] (fun u' v => mQ u u' ∧ v = none) := by
  refine ab_C.of (by decide) (Nat.le_of_ble_eq_true rfl) ?_
  intro p e s m args below meth c ad X hZ hr0 hlk
  have P0 : mQ u u := mQ.rf h
  refine ab_iload_n X 1 d_MA_stepAround_0 rfl rfl ?_
  refine ab_tsw X [(10, 44), (11, 55), (12, 73), (13, 81), (15, 95), (16, 66)] 116 d_MA_stepAround_1 (by decide +kernel) rfl (List.forall_mem_cons.mpr ⟨fun h1_10 => ?_, List.forall_mem_cons.mpr ⟨fun h1_11 => ?_, List.forall_mem_cons.mpr ⟨fun h1_12 => ?_, List.forall_mem_cons.mpr ⟨fun h1_13 => ?_, List.forall_mem_cons.mpr ⟨fun h1_15 => ?_, List.forall_mem_cons.mpr ⟨fun h1_16 => ?_, fun _ h => absurd h List.not_mem_nil⟩⟩⟩⟩⟩⟩) (fun h1 => ?_)
  ·
    refine ab_aload_n X 0 d_MA_stepAround_44 rfl rfl ?_
    refine ab_aload_n X 0 d_MA_stepAround_45 rfl rfl ?_
    refine ab_callV (as := []) X (fun h => by cases h) (s_MA_take u h) lk_MA_64 d_MA_stepAround_46 rfl rfl (by first | assumption | decide | (show _ < 124; omega) | (show _ < 61; omega) | (show _ < 20; omega)) ⟨by first | exact Nat.le_of_ble_eq_true rfl | (simp only [ab_rm]; omega), by first | exact Nat.le_of_ble_eq_true rfl | (simp only [ab_rm]; omega)⟩ ⟨by first | exact Nat.le_of_ble_eq_true rfl | (simp only [ab_rm]; omega), by first | exact Nat.le_of_ble_eq_true rfl | (simp only [ab_rm]; omega)⟩ (Nat.le_of_ble_eq_true rfl) (fun u46 r46 h46 => ?_)
    obtain ⟨q46, x46, rfl⟩ := h46
    have P46 := P0.trans q46 (by decide)
    refine ab_callV (as := [ab_I _]) X (fun h => by cases h) (s_MA_pushAside u46 _ P46.1) lk_MA_85 d_MA_stepAround_49 rfl rfl (by first | assumption | decide | (show _ < 124; omega) | (show _ < 61; omega) | (show _ < 20; omega)) ⟨by first | exact Nat.le_of_ble_eq_true rfl | (simp only [ab_rm]; omega), by first | exact Nat.le_of_ble_eq_true rfl | (simp only [ab_rm]; omega)⟩ ⟨by first | exact Nat.le_of_ble_eq_true rfl | (simp only [ab_rm]; omega), by first | exact Nat.le_of_ble_eq_true rfl | (simp only [ab_rm]; omega)⟩ (Nat.le_of_ble_eq_true rfl) (fun u49 r49 h49 => ?_)
    obtain ⟨q49, rfl⟩ := h49
    have P49 := P46.trans q49 (by decide)
    refine ab_goto X 116 d_MA_stepAround_52 rfl ?_
    exact ab_retv X hr0 hlk d_MA_stepAround_116 ⟨P49, rfl⟩
  ·
    refine ab_aload_n X 0 d_MA_stepAround_55 rfl rfl ?_
    refine ab_aload_n X 0 d_MA_stepAround_56 rfl rfl ?_
    refine ab_callV (as := []) X (fun h => by cases h) (s_MA_takeBack u h) lk_MA_88 d_MA_stepAround_57 rfl rfl (by first | assumption | decide | (show _ < 124; omega) | (show _ < 61; omega) | (show _ < 20; omega)) ⟨by first | exact Nat.le_of_ble_eq_true rfl | (simp only [ab_rm]; omega), by first | exact Nat.le_of_ble_eq_true rfl | (simp only [ab_rm]; omega)⟩ ⟨by first | exact Nat.le_of_ble_eq_true rfl | (simp only [ab_rm]; omega), by first | exact Nat.le_of_ble_eq_true rfl | (simp only [ab_rm]; omega)⟩ (Nat.le_of_ble_eq_true rfl) (fun u57 r57 h57 => ?_)
    obtain ⟨q57, x57, rfl⟩ := h57
    have P57 := P0.trans q57 (by decide)
    refine ab_callV (as := [ab_I _]) X (fun h => by cases h) (s_MA_push u57 _ P57.1) lk_MA_57 d_MA_stepAround_60 rfl rfl (by first | assumption | decide | (show _ < 124; omega) | (show _ < 61; omega) | (show _ < 20; omega)) ⟨by first | exact Nat.le_of_ble_eq_true rfl | (simp only [ab_rm]; omega), by first | exact Nat.le_of_ble_eq_true rfl | (simp only [ab_rm]; omega)⟩ ⟨by first | exact Nat.le_of_ble_eq_true rfl | (simp only [ab_rm]; omega), by first | exact Nat.le_of_ble_eq_true rfl | (simp only [ab_rm]; omega)⟩ (Nat.le_of_ble_eq_true rfl) (fun u60 r60 h60 => ?_)
    obtain ⟨q60, rfl⟩ := h60
    have P60 := P57.trans q60 (by decide)
    refine ab_goto X 116 d_MA_stepAround_63 rfl ?_
    exact ab_retv X hr0 hlk d_MA_stepAround_116 ⟨P60, rfl⟩
  ·
    refine ab_aload_n X 0 d_MA_stepAround_73 rfl rfl ?_
    refine ab_aload_n X 2 d_MA_stepAround_74 rfl rfl ?_
    refine ab_callV (as := [ab_O 5 0]) X (fun h => by cases h) (s_MA_tryIf u h hat) lk_MA_94 d_MA_stepAround_75 rfl rfl (by first | assumption | decide | (show _ < 124; omega) | (show _ < 61; omega) | (show _ < 20; omega)) ⟨by first | exact Nat.le_of_ble_eq_true rfl | (simp only [ab_rm]; omega), by first | exact Nat.le_of_ble_eq_true rfl | (simp only [ab_rm]; omega)⟩ ⟨by first | exact Nat.le_of_ble_eq_true rfl | (simp only [ab_rm]; omega), by first | exact Nat.le_of_ble_eq_true rfl | (simp only [ab_rm]; omega)⟩ (Nat.le_of_ble_eq_true rfl) (fun u75 r75 h75 => ?_)
    obtain ⟨q75, rfl⟩ := h75
    have P75 := P0.trans q75 (by decide)
    refine ab_goto X 116 d_MA_stepAround_78 rfl ?_
    exact ab_retv X hr0 hlk d_MA_stepAround_116 ⟨P75, rfl⟩
  ·
    obtain ⟨t, ht, et⟩ := P0.2.2.2 hat
    refine ab_aload_n X 0 d_MA_stepAround_81 rfl rfl ?_
    refine ab_aload_n X 0 d_MA_stepAround_82 rfl rfl ?_
    refine ab_bipush (v := 14) X d_MA_stepAround_83 (by decide) ?_
    refine ab_aload_n X 2 d_MA_stepAround_85 rfl rfl ?_
    refine ab_callV (as := [ab_I 14, ab_O 5 0]) X (fun h => by cases h) (t_MA_findBehind u 14 t P0.1 ht et) lk_MA_98 d_MA_stepAround_86 rfl rfl (by first | assumption | decide | (show _ < 124; omega) | (show _ < 61; omega) | (show _ < 20; omega)) ⟨by first | exact Nat.le_of_ble_eq_true rfl | (simp only [ab_rm]; omega), by first | exact Nat.le_of_ble_eq_true rfl | (simp only [ab_rm]; omega)⟩ ⟨by first | exact Nat.le_of_ble_eq_true rfl | (simp only [ab_rm]; omega), by first | exact Nat.le_of_ble_eq_true rfl | (simp only [ab_rm]; omega)⟩ (Nat.le_of_ble_eq_true rfl) (fun u86 r86 h86 => ?_)
    obtain ⟨e86, n86, hn86, rfl⟩ := h86
    subst u86
    refine ab_putI X fp_MA_25 d_MA_stepAround_89 (by first | assumption | decide | (show _ < 124; omega) | (show _ < 61; omega) | (show _ < 20; omega)) rfl rfl ?_
    refine ab_gen (fun u89 e89 => ?_)
    have P89 : mQ u u89 := by rw [e89]; exact P0.m4 hn86
    refine ab_goto X 116 d_MA_stepAround_92 rfl ?_
    exact ab_retv X hr0 hlk d_MA_stepAround_116 ⟨P89, rfl⟩
  ·
    refine ab_aload_n X 0 d_MA_stepAround_95 rfl rfl ?_
    refine ab_callV (as := []) X (fun h => by cases h) (s_MA_takeNumber u h) lk_MA_74 d_MA_stepAround_96 rfl rfl (by first | assumption | decide | (show _ < 124; omega) | (show _ < 61; omega) | (show _ < 20; omega)) ⟨by first | exact Nat.le_of_ble_eq_true rfl | (simp only [ab_rm]; omega), by first | exact Nat.le_of_ble_eq_true rfl | (simp only [ab_rm]; omega)⟩ ⟨by first | exact Nat.le_of_ble_eq_true rfl | (simp only [ab_rm]; omega), by first | exact Nat.le_of_ble_eq_true rfl | (simp only [ab_rm]; omega)⟩ (Nat.le_of_ble_eq_true rfl) (fun u96 r96 h96 => ?_)
    obtain ⟨q96, x96, rfl⟩ := h96
    have P96 := P0.trans q96 (by decide)
    refine ab_if_eq X 116 d_MA_stepAround_99 rfl (fun h99 => ?_) (fun h99 => ?_)
    ·
      exact ab_retv X hr0 hlk d_MA_stepAround_116 ⟨P96, rfl⟩
    ·
      obtain ⟨t, ht, et⟩ := P96.2.2.2 hat
      refine ab_aload_n X 0 d_MA_stepAround_102 rfl rfl ?_
      refine ab_aload_n X 0 d_MA_stepAround_103 rfl rfl ?_
      refine ab_bipush (v := 14) X d_MA_stepAround_104 (by decide) ?_
      refine ab_aload_n X 2 d_MA_stepAround_106 rfl rfl ?_
      refine ab_callV (as := [ab_I 14, ab_O 5 0]) X (fun h => by cases h) (t_MA_findBehind u96 14 t P96.1 ht et) lk_MA_98 d_MA_stepAround_107 rfl rfl (by first | assumption | decide | (show _ < 124; omega) | (show _ < 61; omega) | (show _ < 20; omega)) ⟨by first | exact Nat.le_of_ble_eq_true rfl | (simp only [ab_rm]; omega), by first | exact Nat.le_of_ble_eq_true rfl | (simp only [ab_rm]; omega)⟩ ⟨by first | exact Nat.le_of_ble_eq_true rfl | (simp only [ab_rm]; omega), by first | exact Nat.le_of_ble_eq_true rfl | (simp only [ab_rm]; omega)⟩ (Nat.le_of_ble_eq_true rfl) (fun u107 r107 h107 => ?_)
      obtain ⟨e107, n107, hn107, rfl⟩ := h107
      subst u107
      refine ab_putI X fp_MA_25 d_MA_stepAround_110 (by first | assumption | decide | (show _ < 124; omega) | (show _ < 61; omega) | (show _ < 20; omega)) rfl rfl ?_
      refine ab_gen (fun u110 e110 => ?_)
      have P110 : mQ u u110 := by rw [e110]; exact P96.m4 hn107
      refine ab_goto X 116 d_MA_stepAround_113 rfl ?_
      exact ab_retv X hr0 hlk d_MA_stepAround_116 ⟨P110, rfl⟩
  ·
    refine ab_aload_n X 0 d_MA_stepAround_66 rfl rfl ?_
    refine ab_callV (as := []) X (fun h => by cases h) (s_MA_repeatTop u h) lk_MA_91 d_MA_stepAround_67 rfl rfl (by first | assumption | decide | (show _ < 124; omega) | (show _ < 61; omega) | (show _ < 20; omega)) ⟨by first | exact Nat.le_of_ble_eq_true rfl | (simp only [ab_rm]; omega), by first | exact Nat.le_of_ble_eq_true rfl | (simp only [ab_rm]; omega)⟩ ⟨by first | exact Nat.le_of_ble_eq_true rfl | (simp only [ab_rm]; omega), by first | exact Nat.le_of_ble_eq_true rfl | (simp only [ab_rm]; omega)⟩ (Nat.le_of_ble_eq_true rfl) (fun u67 r67 h67 => ?_)
    obtain ⟨q67, rfl⟩ := h67
    have P67 := P0.trans q67 (by decide)
    refine ab_goto X 116 d_MA_stepAround_70 rfl ?_
    exact ab_retv X hr0 hlk d_MA_stepAround_116 ⟨P67, rfl⟩
  ·
    exact ab_retv X hr0 hlk d_MA_stepAround_116 ⟨P0, rfl⟩
abbrev b_MA_step : ByteArray := prog_4_method_4_code
def y_MA_step : MethodName := ⟨"PolicyForge$Machine", "step", "(IILPolicyForge$Script;LPolicyForge$Facts;)V"⟩
theorem d_MA_step_0 : decode b_MA_step 0 = .ok (.iload_n 1, 1) := by decide +kernel
theorem d_MA_step_1 : decode b_MA_step 1 = .ok (.tableswitch 203 1 17 #[83, 91, 114, 114, 141, 156, 156, 156, 175, 203, 203, 203, 203, 203, 203, 203, 195], 83) := by decide +kernel
theorem d_MA_step_84 : decode b_MA_step 84 = .ok (.aload_n 0, 1) := by decide +kernel
theorem d_MA_step_85 : decode b_MA_step 85 = .ok (.iload_n 2, 1) := by decide +kernel
theorem d_MA_step_86 : decode b_MA_step 86 = .ok (.invokevirtual 61, 3) := by decide +kernel
theorem d_MA_step_89 : decode b_MA_step 89 = .ok (.goto 121, 3) := by decide +kernel
theorem d_MA_step_92 : decode b_MA_step 92 = .ok (.aload_n 0, 1) := by decide +kernel
theorem d_MA_step_93 : decode b_MA_step 93 = .ok (.aload_n 0, 1) := by decide +kernel
theorem d_MA_step_94 : decode b_MA_step 94 = .ok (.invokevirtual 64, 3) := by decide +kernel
theorem d_MA_step_97 : decode b_MA_step 97 = .ok (.bipush 20, 2) := by decide +kernel
theorem d_MA_step_99 : decode b_MA_step 99 = .ok (.iload_n 2, 1) := by decide +kernel
theorem d_MA_step_100 : decode b_MA_step 100 = .ok (.iadd, 1) := by decide +kernel
theorem d_MA_step_101 : decode b_MA_step 101 = .ok (.if_icmp .ne 7, 3) := by decide +kernel
theorem d_MA_step_104 : decode b_MA_step 104 = .ok (.iconst 1, 1) := by decide +kernel
theorem d_MA_step_105 : decode b_MA_step 105 = .ok (.goto 4, 3) := by decide +kernel
theorem d_MA_step_108 : decode b_MA_step 108 = .ok (.iconst 0, 1) := by decide +kernel
theorem d_MA_step_109 : decode b_MA_step 109 = .ok (.invokevirtual 57, 3) := by decide +kernel
theorem d_MA_step_112 : decode b_MA_step 112 = .ok (.goto 98, 3) := by decide +kernel
theorem d_MA_step_115 : decode b_MA_step 115 = .ok (.aload_n 0, 1) := by decide +kernel
theorem d_MA_step_116 : decode b_MA_step 116 = .ok (.aload 4, 2) := by decide +kernel
theorem d_MA_step_118 : decode b_MA_step 118 = .ok (.iload_n 1, 1) := by decide +kernel
theorem d_MA_step_119 : decode b_MA_step 119 = .ok (.iload_n 2, 1) := by decide +kernel
theorem d_MA_step_120 : decode b_MA_step 120 = .ok (.invokevirtual 68, 3) := by decide +kernel
theorem d_MA_step_123 : decode b_MA_step 123 = .ok (.ifCond .ne 7, 3) := by decide +kernel
theorem d_MA_step_126 : decode b_MA_step 126 = .ok (.iconst 1, 1) := by decide +kernel
theorem d_MA_step_127 : decode b_MA_step 127 = .ok (.goto 4, 3) := by decide +kernel
theorem d_MA_step_130 : decode b_MA_step 130 = .ok (.iconst 0, 1) := by decide +kernel
theorem d_MA_step_131 : decode b_MA_step 131 = .ok (.putfield 31, 3) := by decide +kernel
theorem d_MA_step_134 : decode b_MA_step 134 = .ok (.aload_n 0, 1) := by decide +kernel
theorem d_MA_step_135 : decode b_MA_step 135 = .ok (.iconst 1, 1) := by decide +kernel
theorem d_MA_step_136 : decode b_MA_step 136 = .ok (.invokevirtual 57, 3) := by decide +kernel
theorem d_MA_step_139 : decode b_MA_step 139 = .ok (.goto 71, 3) := by decide +kernel
theorem d_MA_step_142 : decode b_MA_step 142 = .ok (.aload_n 0, 1) := by decide +kernel
theorem d_MA_step_143 : decode b_MA_step 143 = .ok (.invokevirtual 74, 3) := by decide +kernel
theorem d_MA_step_146 : decode b_MA_step 146 = .ok (.ifCond .ne 64, 3) := by decide +kernel
theorem d_MA_step_149 : decode b_MA_step 149 = .ok (.aload_n 0, 1) := by decide +kernel
theorem d_MA_step_150 : decode b_MA_step 150 = .ok (.iconst 1, 1) := by decide +kernel
theorem d_MA_step_151 : decode b_MA_step 151 = .ok (.putfield 31, 3) := by decide +kernel
theorem d_MA_step_154 : decode b_MA_step 154 = .ok (.goto 56, 3) := by decide +kernel
theorem d_MA_step_157 : decode b_MA_step 157 = .ok (.aload_n 0, 1) := by decide +kernel
theorem d_MA_step_158 : decode b_MA_step 158 = .ok (.iload_n 1, 1) := by decide +kernel
theorem d_MA_step_159 : decode b_MA_step 159 = .ok (.aload_n 0, 1) := by decide +kernel
theorem d_MA_step_160 : decode b_MA_step 160 = .ok (.invokevirtual 74, 3) := by decide +kernel
theorem d_MA_step_163 : decode b_MA_step 163 = .ok (.aload_n 0, 1) := by decide +kernel
theorem d_MA_step_164 : decode b_MA_step 164 = .ok (.invokevirtual 74, 3) := by decide +kernel
theorem d_MA_step_167 : decode b_MA_step 167 = .ok (.invokestatic 77, 3) := by decide +kernel
theorem d_MA_step_170 : decode b_MA_step 170 = .ok (.invokevirtual 57, 3) := by decide +kernel
theorem d_MA_step_173 : decode b_MA_step 173 = .ok (.goto 37, 3) := by decide +kernel
theorem d_MA_step_176 : decode b_MA_step 176 = .ok (.aload_n 0, 1) := by decide +kernel
theorem d_MA_step_177 : decode b_MA_step 177 = .ok (.aload_n 0, 1) := by decide +kernel
theorem d_MA_step_178 : decode b_MA_step 178 = .ok (.invokevirtual 74, 3) := by decide +kernel
theorem d_MA_step_181 : decode b_MA_step 181 = .ok (.iload_n 2, 1) := by decide +kernel
theorem d_MA_step_182 : decode b_MA_step 182 = .ok (.if_icmp .ne 7, 3) := by decide +kernel
theorem d_MA_step_185 : decode b_MA_step 185 = .ok (.iconst 1, 1) := by decide +kernel
theorem d_MA_step_186 : decode b_MA_step 186 = .ok (.goto 4, 3) := by decide +kernel
theorem d_MA_step_189 : decode b_MA_step 189 = .ok (.iconst 0, 1) := by decide +kernel
theorem d_MA_step_190 : decode b_MA_step 190 = .ok (.invokevirtual 57, 3) := by decide +kernel
theorem d_MA_step_193 : decode b_MA_step 193 = .ok (.goto 17, 3) := by decide +kernel
theorem d_MA_step_196 : decode b_MA_step 196 = .ok (.aload_n 0, 1) := by decide +kernel
theorem d_MA_step_197 : decode b_MA_step 197 = .ok (.iconst 0, 1) := by decide +kernel
theorem d_MA_step_198 : decode b_MA_step 198 = .ok (.invokevirtual 57, 3) := by decide +kernel
theorem d_MA_step_201 : decode b_MA_step 201 = .ok (.goto 9, 3) := by decide +kernel
theorem d_MA_step_204 : decode b_MA_step 204 = .ok (.aload_n 0, 1) := by decide +kernel
theorem d_MA_step_205 : decode b_MA_step 205 = .ok (.iload_n 1, 1) := by decide +kernel
theorem d_MA_step_206 : decode b_MA_step 206 = .ok (.aload_n 3, 1) := by decide +kernel
theorem d_MA_step_207 : decode b_MA_step 207 = .ok (.invokevirtual 81, 3) := by decide +kernel
theorem d_MA_step_210 : decode b_MA_step 210 = .ok (.return_, 1) := by decide +kernel
theorem lk_MA_61 : ab_lk "PolicyForge$Machine" 61 y_MA_tryKey b_MA_tryKey 3 none 1 7 := ⟨⟨rfl, T_MA, 7, rfl⟩, List.forall_mem_cons.mpr ⟨(ab_in 880 (by decide +kernel) (by decide +kernel)), List.forall_mem_cons.mpr ⟨(ab_in 882 (by decide +kernel) (by decide +kernel)), List.forall_mem_cons.mpr ⟨(ab_in 36 (by decide +kernel) (by decide +kernel)), List.forall_mem_cons.mpr ⟨(ab_in 99 (by decide +kernel) (by decide +kernel)), List.forall_mem_cons.mpr ⟨(ab_in 883 (by decide +kernel) (by decide +kernel)), fun _ h => absurd h List.not_mem_nil⟩⟩⟩⟩⟩, ⟨by decide +kernel, by decide +kernel, by decide +kernel⟩, by decide⟩
theorem lk_MA_68 : ab_lk "PolicyForge$Machine" 68 y_FA_meet b_FA_meet 3 (some FieldType.boolean) 2 6 := ⟨⟨rfl, T_FA, 4, rfl⟩, List.forall_mem_cons.mpr ⟨(ab_in 888 (by decide +kernel) (by decide +kernel)), List.forall_mem_cons.mpr ⟨(ab_in 746 (by decide +kernel) (by decide +kernel)), List.forall_mem_cons.mpr ⟨(ab_in 747 (by decide +kernel) (by decide +kernel)), List.forall_mem_cons.mpr ⟨(ab_in 98 (by decide +kernel) (by decide +kernel)), List.forall_mem_cons.mpr ⟨(ab_in 748 (by decide +kernel) (by decide +kernel)), fun _ h => absurd h List.not_mem_nil⟩⟩⟩⟩⟩, ⟨by decide +kernel, by decide +kernel, by decide +kernel⟩, by decide⟩
theorem ls_MA_77 : ab_ls "PolicyForge$Machine" 77 y_MA_joined b_MA_joined 5 (some FieldType.int) 3 := ⟨List.forall_mem_cons.mpr ⟨(ab_in 893 (by decide +kernel) (by decide +kernel)), List.forall_mem_cons.mpr ⟨(ab_in 894 (by decide +kernel) (by decide +kernel)), List.forall_mem_cons.mpr ⟨(ab_in 99 (by decide +kernel) (by decide +kernel)), List.forall_mem_cons.mpr ⟨(ab_in 895 (by decide +kernel) (by decide +kernel)), fun _ h => absurd h List.not_mem_nil⟩⟩⟩⟩, ⟨by decide +kernel, by decide +kernel, by decide +kernel⟩, by decide⟩
theorem lk_MA_81 : ab_lk "PolicyForge$Machine" 81 y_MA_stepAround b_MA_stepAround 3 none 2 7 := ⟨⟨rfl, T_MA, 7, rfl⟩, List.forall_mem_cons.mpr ⟨(ab_in 896 (by decide +kernel) (by decide +kernel)), List.forall_mem_cons.mpr ⟨(ab_in 898 (by decide +kernel) (by decide +kernel)), List.forall_mem_cons.mpr ⟨(ab_in 39 (by decide +kernel) (by decide +kernel)), List.forall_mem_cons.mpr ⟨(ab_in 99 (by decide +kernel) (by decide +kernel)), List.forall_mem_cons.mpr ⟨(ab_in 899 (by decide +kernel) (by decide +kernel)), fun _ h => absurd h List.not_mem_nil⟩⟩⟩⟩⟩, ⟨by decide +kernel, by decide +kernel, by decide +kernel⟩, by decide⟩
set_option maxRecDepth 100000 in
set_option maxHeartbeats 1000000 in
theorem s_MA_step (u : ab_S) (a b : Int32) (h : CI u) (hat : ∃ n, n < 128 ∧ u.1 7 0 4 = nI n) : ab_C false l D ca y_MA_step b_MA_step 5 none 3 ab_nQ u [ab_O 7 0, ab_I a, ab_I b, ab_O 5 0, ab_O 6 0] (fun u' v => mQ u u' ∧ v = none) := by
  refine ab_C.of (by decide) (Nat.le_of_ble_eq_true rfl) ?_
  intro p e s m args below meth c ad X hZ hr0 hlk
  have P0 : mQ u u := mQ.rf h
  refine ab_iload_n X 1 d_MA_step_0 rfl rfl ?_
  refine ab_tsw X [(1, 84), (2, 92), (3, 115), (4, 115), (5, 142), (6, 157), (7, 157), (8, 157), (9, 176), (17, 196)] 204 d_MA_step_1 (by decide +kernel) rfl (List.forall_mem_cons.mpr ⟨fun h1_1 => ?_, List.forall_mem_cons.mpr ⟨fun h1_2 => ?_, List.forall_mem_cons.mpr ⟨fun h1_3 => ?_, List.forall_mem_cons.mpr ⟨fun h1_4 => ?_, List.forall_mem_cons.mpr ⟨fun h1_5 => ?_, List.forall_mem_cons.mpr ⟨fun h1_6 => ?_, List.forall_mem_cons.mpr ⟨fun h1_7 => ?_, List.forall_mem_cons.mpr ⟨fun h1_8 => ?_, List.forall_mem_cons.mpr ⟨fun h1_9 => ?_, List.forall_mem_cons.mpr ⟨fun h1_17 => ?_, fun _ h => absurd h List.not_mem_nil⟩⟩⟩⟩⟩⟩⟩⟩⟩⟩) (fun h1 => ?_)
  ·
    refine ab_aload_n X 0 d_MA_step_84 rfl rfl ?_
    refine ab_iload_n X 2 d_MA_step_85 rfl rfl ?_
    refine ab_callV (as := [ab_I b]) X (fun h => by cases h) (s_MA_tryKey u b h) lk_MA_61 d_MA_step_86 rfl rfl (by first | assumption | decide | (show _ < 124; omega) | (show _ < 61; omega) | (show _ < 20; omega)) ⟨by first | exact Nat.le_of_ble_eq_true rfl | (simp only [ab_rm]; omega), by first | exact Nat.le_of_ble_eq_true rfl | (simp only [ab_rm]; omega)⟩ ⟨by first | exact Nat.le_of_ble_eq_true rfl | (simp only [ab_rm]; omega), by first | exact Nat.le_of_ble_eq_true rfl | (simp only [ab_rm]; omega)⟩ (Nat.le_of_ble_eq_true rfl) (fun u86 r86 h86 => ?_)
    obtain ⟨q86, rfl⟩ := h86
    have P86 := P0.trans q86 (by decide)
    refine ab_goto X 210 d_MA_step_89 rfl ?_
    exact ab_retv X hr0 hlk d_MA_step_210 ⟨P86, rfl⟩
  ·
    refine ab_aload_n X 0 d_MA_step_92 rfl rfl ?_
    refine ab_aload_n X 0 d_MA_step_93 rfl rfl ?_
    refine ab_callV (as := []) X (fun h => by cases h) (s_MA_take u h) lk_MA_64 d_MA_step_94 rfl rfl (by first | assumption | decide | (show _ < 124; omega) | (show _ < 61; omega) | (show _ < 20; omega)) ⟨by first | exact Nat.le_of_ble_eq_true rfl | (simp only [ab_rm]; omega), by first | exact Nat.le_of_ble_eq_true rfl | (simp only [ab_rm]; omega)⟩ ⟨by first | exact Nat.le_of_ble_eq_true rfl | (simp only [ab_rm]; omega), by first | exact Nat.le_of_ble_eq_true rfl | (simp only [ab_rm]; omega)⟩ (Nat.le_of_ble_eq_true rfl) (fun u94 r94 h94 => ?_)
    obtain ⟨q94, x94, rfl⟩ := h94
    have P94 := P0.trans q94 (by decide)
    refine ab_bipush (v := 20) X d_MA_step_97 (by decide) ?_
    refine ab_iload_n X 2 d_MA_step_99 rfl rfl ?_
    refine ab_iadd X d_MA_step_100 ?_
    refine ab_icmp_ne X 108 d_MA_step_101 rfl (fun h101 => ?_) (fun h101 => ?_)
    ·
      refine ab_iconst (v := 0) X d_MA_step_108 (by decide) ?_
      refine ab_callV (as := [ab_I _]) X (fun h => by cases h) (s_MA_push u94 _ P94.1) lk_MA_57 d_MA_step_109 rfl rfl (by first | assumption | decide | (show _ < 124; omega) | (show _ < 61; omega) | (show _ < 20; omega)) ⟨by first | exact Nat.le_of_ble_eq_true rfl | (simp only [ab_rm]; omega), by first | exact Nat.le_of_ble_eq_true rfl | (simp only [ab_rm]; omega)⟩ ⟨by first | exact Nat.le_of_ble_eq_true rfl | (simp only [ab_rm]; omega), by first | exact Nat.le_of_ble_eq_true rfl | (simp only [ab_rm]; omega)⟩ (Nat.le_of_ble_eq_true rfl) (fun u109 r109 h109 => ?_)
      obtain ⟨q109, rfl⟩ := h109
      have P109 := P94.trans q109 (by decide)
      refine ab_goto X 210 d_MA_step_112 rfl ?_
      exact ab_retv X hr0 hlk d_MA_step_210 ⟨P109, rfl⟩
    ·
      refine ab_iconst (v := 1) X d_MA_step_104 (by decide) ?_
      refine ab_goto X 109 d_MA_step_105 rfl ?_
      refine ab_callV (as := [ab_I _]) X (fun h => by cases h) (s_MA_push u94 _ P94.1) lk_MA_57 d_MA_step_109 rfl rfl (by first | assumption | decide | (show _ < 124; omega) | (show _ < 61; omega) | (show _ < 20; omega)) ⟨by first | exact Nat.le_of_ble_eq_true rfl | (simp only [ab_rm]; omega), by first | exact Nat.le_of_ble_eq_true rfl | (simp only [ab_rm]; omega)⟩ ⟨by first | exact Nat.le_of_ble_eq_true rfl | (simp only [ab_rm]; omega), by first | exact Nat.le_of_ble_eq_true rfl | (simp only [ab_rm]; omega)⟩ (Nat.le_of_ble_eq_true rfl) (fun u109 r109 h109 => ?_)
      obtain ⟨q109, rfl⟩ := h109
      have P109 := P94.trans q109 (by decide)
      refine ab_goto X 210 d_MA_step_112 rfl ?_
      exact ab_retv X hr0 hlk d_MA_step_210 ⟨P109, rfl⟩
  ·
    refine ab_aload_n X 0 d_MA_step_115 rfl rfl ?_
    refine ab_aload X 4 d_MA_step_116 rfl ?_
    refine ab_iload_n X 1 d_MA_step_118 rfl rfl ?_
    refine ab_iload_n X 2 d_MA_step_119 rfl rfl ?_
    refine ab_callV (as := [ab_I a, ab_I b]) X (fun h => by cases h) (t_FA_meet u a b h) lk_MA_68 d_MA_step_120 rfl rfl (by first | assumption | decide | (show _ < 124; omega) | (show _ < 61; omega) | (show _ < 20; omega)) ⟨by first | exact Nat.le_of_ble_eq_true rfl | (simp only [ab_rm]; omega), by first | exact Nat.le_of_ble_eq_true rfl | (simp only [ab_rm]; omega)⟩ ⟨by first | exact Nat.le_of_ble_eq_true rfl | (simp only [ab_rm]; omega), by first | exact Nat.le_of_ble_eq_true rfl | (simp only [ab_rm]; omega)⟩ (Nat.le_of_ble_eq_true rfl) (fun u120 r120 h120 => ?_)
    obtain ⟨e120, b120, hb120, rfl⟩ := h120
    subst u120
    refine ab_if_ne X 130 d_MA_step_123 rfl (fun h123 => ?_) (fun h123 => ?_)
    ·
      refine ab_iconst (v := 0) X d_MA_step_130 (by decide) ?_
      refine ab_putI X fp_MA_31 d_MA_step_131 (by first | assumption | decide | (show _ < 124; omega) | (show _ < 61; omega) | (show _ < 20; omega)) rfl rfl ?_
      refine ab_gen (fun u131 e131 => ?_)
      have P131 : mQ u u131 := by rw [e131]; exact P0.ui rfl (by decide)
      refine ab_aload_n X 0 d_MA_step_134 rfl rfl ?_
      refine ab_iconst (v := 1) X d_MA_step_135 (by decide) ?_
      refine ab_callV (as := [ab_I 1]) X (fun h => by cases h) (s_MA_push u131 1 P131.1) lk_MA_57 d_MA_step_136 rfl rfl (by first | assumption | decide | (show _ < 124; omega) | (show _ < 61; omega) | (show _ < 20; omega)) ⟨by first | exact Nat.le_of_ble_eq_true rfl | (simp only [ab_rm]; omega), by first | exact Nat.le_of_ble_eq_true rfl | (simp only [ab_rm]; omega)⟩ ⟨by first | exact Nat.le_of_ble_eq_true rfl | (simp only [ab_rm]; omega), by first | exact Nat.le_of_ble_eq_true rfl | (simp only [ab_rm]; omega)⟩ (Nat.le_of_ble_eq_true rfl) (fun u136 r136 h136 => ?_)
      obtain ⟨q136, rfl⟩ := h136
      have P136 := P131.trans q136 (by decide)
      refine ab_goto X 210 d_MA_step_139 rfl ?_
      exact ab_retv X hr0 hlk d_MA_step_210 ⟨P136, rfl⟩
    ·
      refine ab_iconst (v := 1) X d_MA_step_126 (by decide) ?_
      refine ab_goto X 131 d_MA_step_127 rfl ?_
      refine ab_putI X fp_MA_31 d_MA_step_131 (by first | assumption | decide | (show _ < 124; omega) | (show _ < 61; omega) | (show _ < 20; omega)) rfl rfl ?_
      refine ab_gen (fun u131 e131 => ?_)
      have P131 : mQ u u131 := by rw [e131]; exact P0.ui rfl (by decide)
      refine ab_aload_n X 0 d_MA_step_134 rfl rfl ?_
      refine ab_iconst (v := 1) X d_MA_step_135 (by decide) ?_
      refine ab_callV (as := [ab_I 1]) X (fun h => by cases h) (s_MA_push u131 1 P131.1) lk_MA_57 d_MA_step_136 rfl rfl (by first | assumption | decide | (show _ < 124; omega) | (show _ < 61; omega) | (show _ < 20; omega)) ⟨by first | exact Nat.le_of_ble_eq_true rfl | (simp only [ab_rm]; omega), by first | exact Nat.le_of_ble_eq_true rfl | (simp only [ab_rm]; omega)⟩ ⟨by first | exact Nat.le_of_ble_eq_true rfl | (simp only [ab_rm]; omega), by first | exact Nat.le_of_ble_eq_true rfl | (simp only [ab_rm]; omega)⟩ (Nat.le_of_ble_eq_true rfl) (fun u136 r136 h136 => ?_)
      obtain ⟨q136, rfl⟩ := h136
      have P136 := P131.trans q136 (by decide)
      refine ab_goto X 210 d_MA_step_139 rfl ?_
      exact ab_retv X hr0 hlk d_MA_step_210 ⟨P136, rfl⟩
  ·
    refine ab_aload_n X 0 d_MA_step_115 rfl rfl ?_
    refine ab_aload X 4 d_MA_step_116 rfl ?_
    refine ab_iload_n X 1 d_MA_step_118 rfl rfl ?_
    refine ab_iload_n X 2 d_MA_step_119 rfl rfl ?_
    refine ab_callV (as := [ab_I a, ab_I b]) X (fun h => by cases h) (t_FA_meet u a b h) lk_MA_68 d_MA_step_120 rfl rfl (by first | assumption | decide | (show _ < 124; omega) | (show _ < 61; omega) | (show _ < 20; omega)) ⟨by first | exact Nat.le_of_ble_eq_true rfl | (simp only [ab_rm]; omega), by first | exact Nat.le_of_ble_eq_true rfl | (simp only [ab_rm]; omega)⟩ ⟨by first | exact Nat.le_of_ble_eq_true rfl | (simp only [ab_rm]; omega), by first | exact Nat.le_of_ble_eq_true rfl | (simp only [ab_rm]; omega)⟩ (Nat.le_of_ble_eq_true rfl) (fun u120 r120 h120 => ?_)
    obtain ⟨e120, b120, hb120, rfl⟩ := h120
    subst u120
    refine ab_if_ne X 130 d_MA_step_123 rfl (fun h123 => ?_) (fun h123 => ?_)
    ·
      refine ab_iconst (v := 0) X d_MA_step_130 (by decide) ?_
      refine ab_putI X fp_MA_31 d_MA_step_131 (by first | assumption | decide | (show _ < 124; omega) | (show _ < 61; omega) | (show _ < 20; omega)) rfl rfl ?_
      refine ab_gen (fun u131 e131 => ?_)
      have P131 : mQ u u131 := by rw [e131]; exact P0.ui rfl (by decide)
      refine ab_aload_n X 0 d_MA_step_134 rfl rfl ?_
      refine ab_iconst (v := 1) X d_MA_step_135 (by decide) ?_
      refine ab_callV (as := [ab_I 1]) X (fun h => by cases h) (s_MA_push u131 1 P131.1) lk_MA_57 d_MA_step_136 rfl rfl (by first | assumption | decide | (show _ < 124; omega) | (show _ < 61; omega) | (show _ < 20; omega)) ⟨by first | exact Nat.le_of_ble_eq_true rfl | (simp only [ab_rm]; omega), by first | exact Nat.le_of_ble_eq_true rfl | (simp only [ab_rm]; omega)⟩ ⟨by first | exact Nat.le_of_ble_eq_true rfl | (simp only [ab_rm]; omega), by first | exact Nat.le_of_ble_eq_true rfl | (simp only [ab_rm]; omega)⟩ (Nat.le_of_ble_eq_true rfl) (fun u136 r136 h136 => ?_)
      obtain ⟨q136, rfl⟩ := h136
      have P136 := P131.trans q136 (by decide)
      refine ab_goto X 210 d_MA_step_139 rfl ?_
      exact ab_retv X hr0 hlk d_MA_step_210 ⟨P136, rfl⟩
    ·
      refine ab_iconst (v := 1) X d_MA_step_126 (by decide) ?_
      refine ab_goto X 131 d_MA_step_127 rfl ?_
      refine ab_putI X fp_MA_31 d_MA_step_131 (by first | assumption | decide | (show _ < 124; omega) | (show _ < 61; omega) | (show _ < 20; omega)) rfl rfl ?_
      refine ab_gen (fun u131 e131 => ?_)
      have P131 : mQ u u131 := by rw [e131]; exact P0.ui rfl (by decide)
      refine ab_aload_n X 0 d_MA_step_134 rfl rfl ?_
      refine ab_iconst (v := 1) X d_MA_step_135 (by decide) ?_
      refine ab_callV (as := [ab_I 1]) X (fun h => by cases h) (s_MA_push u131 1 P131.1) lk_MA_57 d_MA_step_136 rfl rfl (by first | assumption | decide | (show _ < 124; omega) | (show _ < 61; omega) | (show _ < 20; omega)) ⟨by first | exact Nat.le_of_ble_eq_true rfl | (simp only [ab_rm]; omega), by first | exact Nat.le_of_ble_eq_true rfl | (simp only [ab_rm]; omega)⟩ ⟨by first | exact Nat.le_of_ble_eq_true rfl | (simp only [ab_rm]; omega), by first | exact Nat.le_of_ble_eq_true rfl | (simp only [ab_rm]; omega)⟩ (Nat.le_of_ble_eq_true rfl) (fun u136 r136 h136 => ?_)
      obtain ⟨q136, rfl⟩ := h136
      have P136 := P131.trans q136 (by decide)
      refine ab_goto X 210 d_MA_step_139 rfl ?_
      exact ab_retv X hr0 hlk d_MA_step_210 ⟨P136, rfl⟩
  ·
    refine ab_aload_n X 0 d_MA_step_142 rfl rfl ?_
    refine ab_callV (as := []) X (fun h => by cases h) (s_MA_takeNumber u h) lk_MA_74 d_MA_step_143 rfl rfl (by first | assumption | decide | (show _ < 124; omega) | (show _ < 61; omega) | (show _ < 20; omega)) ⟨by first | exact Nat.le_of_ble_eq_true rfl | (simp only [ab_rm]; omega), by first | exact Nat.le_of_ble_eq_true rfl | (simp only [ab_rm]; omega)⟩ ⟨by first | exact Nat.le_of_ble_eq_true rfl | (simp only [ab_rm]; omega), by first | exact Nat.le_of_ble_eq_true rfl | (simp only [ab_rm]; omega)⟩ (Nat.le_of_ble_eq_true rfl) (fun u143 r143 h143 => ?_)
    obtain ⟨q143, x143, rfl⟩ := h143
    have P143 := P0.trans q143 (by decide)
    refine ab_if_ne X 210 d_MA_step_146 rfl (fun h146 => ?_) (fun h146 => ?_)
    ·
      exact ab_retv X hr0 hlk d_MA_step_210 ⟨P143, rfl⟩
    ·
      refine ab_aload_n X 0 d_MA_step_149 rfl rfl ?_
      refine ab_iconst (v := 1) X d_MA_step_150 (by decide) ?_
      refine ab_putI X fp_MA_31 d_MA_step_151 (by first | assumption | decide | (show _ < 124; omega) | (show _ < 61; omega) | (show _ < 20; omega)) rfl rfl ?_
      refine ab_gen (fun u151 e151 => ?_)
      have P151 : mQ u u151 := by rw [e151]; exact P143.ui rfl (by decide)
      refine ab_goto X 210 d_MA_step_154 rfl ?_
      exact ab_retv X hr0 hlk d_MA_step_210 ⟨P151, rfl⟩
  ·
    refine ab_aload_n X 0 d_MA_step_157 rfl rfl ?_
    refine ab_iload_n X 1 d_MA_step_158 rfl rfl ?_
    refine ab_aload_n X 0 d_MA_step_159 rfl rfl ?_
    refine ab_callV (as := []) X (fun h => by cases h) (s_MA_takeNumber u h) lk_MA_74 d_MA_step_160 rfl rfl (by first | assumption | decide | (show _ < 124; omega) | (show _ < 61; omega) | (show _ < 20; omega)) ⟨by first | exact Nat.le_of_ble_eq_true rfl | (simp only [ab_rm]; omega), by first | exact Nat.le_of_ble_eq_true rfl | (simp only [ab_rm]; omega)⟩ ⟨by first | exact Nat.le_of_ble_eq_true rfl | (simp only [ab_rm]; omega), by first | exact Nat.le_of_ble_eq_true rfl | (simp only [ab_rm]; omega)⟩ (Nat.le_of_ble_eq_true rfl) (fun u160 r160 h160 => ?_)
    obtain ⟨q160, x160, rfl⟩ := h160
    have P160 := P0.trans q160 (by decide)
    refine ab_aload_n X 0 d_MA_step_163 rfl rfl ?_
    refine ab_callV (as := []) X (fun h => by cases h) (s_MA_takeNumber u160 P160.1) lk_MA_74 d_MA_step_164 rfl rfl (by first | assumption | decide | (show _ < 124; omega) | (show _ < 61; omega) | (show _ < 20; omega)) ⟨by first | exact Nat.le_of_ble_eq_true rfl | (simp only [ab_rm]; omega), by first | exact Nat.le_of_ble_eq_true rfl | (simp only [ab_rm]; omega)⟩ ⟨by first | exact Nat.le_of_ble_eq_true rfl | (simp only [ab_rm]; omega), by first | exact Nat.le_of_ble_eq_true rfl | (simp only [ab_rm]; omega)⟩ (Nat.le_of_ble_eq_true rfl) (fun u164 r164 h164 => ?_)
    obtain ⟨q164, x164, rfl⟩ := h164
    have P164 := P160.trans q164 (by decide)
    refine ab_callS (as := [ab_I _, ab_I _, ab_I _]) X (fun h => by cases h) (t_MA_joined u164 _ _ _ P164.1) ls_MA_77 d_MA_step_167 rfl rfl ⟨by first | exact Nat.le_of_ble_eq_true rfl | (simp only [ab_rm]; omega), by first | exact Nat.le_of_ble_eq_true rfl | (simp only [ab_rm]; omega)⟩ ⟨by first | exact Nat.le_of_ble_eq_true rfl | (simp only [ab_rm]; omega), by first | exact Nat.le_of_ble_eq_true rfl | (simp only [ab_rm]; omega)⟩ (Nat.le_of_ble_eq_true rfl) (fun u167 r167 h167 => ?_)
    obtain ⟨e167, x167, rfl⟩ := h167
    subst u167
    refine ab_callV (as := [ab_I _]) X (fun h => by cases h) (s_MA_push u164 _ P164.1) lk_MA_57 d_MA_step_170 rfl rfl (by first | assumption | decide | (show _ < 124; omega) | (show _ < 61; omega) | (show _ < 20; omega)) ⟨by first | exact Nat.le_of_ble_eq_true rfl | (simp only [ab_rm]; omega), by first | exact Nat.le_of_ble_eq_true rfl | (simp only [ab_rm]; omega)⟩ ⟨by first | exact Nat.le_of_ble_eq_true rfl | (simp only [ab_rm]; omega), by first | exact Nat.le_of_ble_eq_true rfl | (simp only [ab_rm]; omega)⟩ (Nat.le_of_ble_eq_true rfl) (fun u170 r170 h170 => ?_)
    obtain ⟨q170, rfl⟩ := h170
    have P170 := P164.trans q170 (by decide)
    refine ab_goto X 210 d_MA_step_173 rfl ?_
    exact ab_retv X hr0 hlk d_MA_step_210 ⟨P170, rfl⟩
  ·
    refine ab_aload_n X 0 d_MA_step_157 rfl rfl ?_
    refine ab_iload_n X 1 d_MA_step_158 rfl rfl ?_
    refine ab_aload_n X 0 d_MA_step_159 rfl rfl ?_
    refine ab_callV (as := []) X (fun h => by cases h) (s_MA_takeNumber u h) lk_MA_74 d_MA_step_160 rfl rfl (by first | assumption | decide | (show _ < 124; omega) | (show _ < 61; omega) | (show _ < 20; omega)) ⟨by first | exact Nat.le_of_ble_eq_true rfl | (simp only [ab_rm]; omega), by first | exact Nat.le_of_ble_eq_true rfl | (simp only [ab_rm]; omega)⟩ ⟨by first | exact Nat.le_of_ble_eq_true rfl | (simp only [ab_rm]; omega), by first | exact Nat.le_of_ble_eq_true rfl | (simp only [ab_rm]; omega)⟩ (Nat.le_of_ble_eq_true rfl) (fun u160 r160 h160 => ?_)
    obtain ⟨q160, x160, rfl⟩ := h160
    have P160 := P0.trans q160 (by decide)
    refine ab_aload_n X 0 d_MA_step_163 rfl rfl ?_
    refine ab_callV (as := []) X (fun h => by cases h) (s_MA_takeNumber u160 P160.1) lk_MA_74 d_MA_step_164 rfl rfl (by first | assumption | decide | (show _ < 124; omega) | (show _ < 61; omega) | (show _ < 20; omega)) ⟨by first | exact Nat.le_of_ble_eq_true rfl | (simp only [ab_rm]; omega), by first | exact Nat.le_of_ble_eq_true rfl | (simp only [ab_rm]; omega)⟩ ⟨by first | exact Nat.le_of_ble_eq_true rfl | (simp only [ab_rm]; omega), by first | exact Nat.le_of_ble_eq_true rfl | (simp only [ab_rm]; omega)⟩ (Nat.le_of_ble_eq_true rfl) (fun u164 r164 h164 => ?_)
    obtain ⟨q164, x164, rfl⟩ := h164
    have P164 := P160.trans q164 (by decide)
    refine ab_callS (as := [ab_I _, ab_I _, ab_I _]) X (fun h => by cases h) (t_MA_joined u164 _ _ _ P164.1) ls_MA_77 d_MA_step_167 rfl rfl ⟨by first | exact Nat.le_of_ble_eq_true rfl | (simp only [ab_rm]; omega), by first | exact Nat.le_of_ble_eq_true rfl | (simp only [ab_rm]; omega)⟩ ⟨by first | exact Nat.le_of_ble_eq_true rfl | (simp only [ab_rm]; omega), by first | exact Nat.le_of_ble_eq_true rfl | (simp only [ab_rm]; omega)⟩ (Nat.le_of_ble_eq_true rfl) (fun u167 r167 h167 => ?_)
    obtain ⟨e167, x167, rfl⟩ := h167
    subst u167
    refine ab_callV (as := [ab_I _]) X (fun h => by cases h) (s_MA_push u164 _ P164.1) lk_MA_57 d_MA_step_170 rfl rfl (by first | assumption | decide | (show _ < 124; omega) | (show _ < 61; omega) | (show _ < 20; omega)) ⟨by first | exact Nat.le_of_ble_eq_true rfl | (simp only [ab_rm]; omega), by first | exact Nat.le_of_ble_eq_true rfl | (simp only [ab_rm]; omega)⟩ ⟨by first | exact Nat.le_of_ble_eq_true rfl | (simp only [ab_rm]; omega), by first | exact Nat.le_of_ble_eq_true rfl | (simp only [ab_rm]; omega)⟩ (Nat.le_of_ble_eq_true rfl) (fun u170 r170 h170 => ?_)
    obtain ⟨q170, rfl⟩ := h170
    have P170 := P164.trans q170 (by decide)
    refine ab_goto X 210 d_MA_step_173 rfl ?_
    exact ab_retv X hr0 hlk d_MA_step_210 ⟨P170, rfl⟩
  ·
    refine ab_aload_n X 0 d_MA_step_157 rfl rfl ?_
    refine ab_iload_n X 1 d_MA_step_158 rfl rfl ?_
    refine ab_aload_n X 0 d_MA_step_159 rfl rfl ?_
    refine ab_callV (as := []) X (fun h => by cases h) (s_MA_takeNumber u h) lk_MA_74 d_MA_step_160 rfl rfl (by first | assumption | decide | (show _ < 124; omega) | (show _ < 61; omega) | (show _ < 20; omega)) ⟨by first | exact Nat.le_of_ble_eq_true rfl | (simp only [ab_rm]; omega), by first | exact Nat.le_of_ble_eq_true rfl | (simp only [ab_rm]; omega)⟩ ⟨by first | exact Nat.le_of_ble_eq_true rfl | (simp only [ab_rm]; omega), by first | exact Nat.le_of_ble_eq_true rfl | (simp only [ab_rm]; omega)⟩ (Nat.le_of_ble_eq_true rfl) (fun u160 r160 h160 => ?_)
    obtain ⟨q160, x160, rfl⟩ := h160
    have P160 := P0.trans q160 (by decide)
    refine ab_aload_n X 0 d_MA_step_163 rfl rfl ?_
    refine ab_callV (as := []) X (fun h => by cases h) (s_MA_takeNumber u160 P160.1) lk_MA_74 d_MA_step_164 rfl rfl (by first | assumption | decide | (show _ < 124; omega) | (show _ < 61; omega) | (show _ < 20; omega)) ⟨by first | exact Nat.le_of_ble_eq_true rfl | (simp only [ab_rm]; omega), by first | exact Nat.le_of_ble_eq_true rfl | (simp only [ab_rm]; omega)⟩ ⟨by first | exact Nat.le_of_ble_eq_true rfl | (simp only [ab_rm]; omega), by first | exact Nat.le_of_ble_eq_true rfl | (simp only [ab_rm]; omega)⟩ (Nat.le_of_ble_eq_true rfl) (fun u164 r164 h164 => ?_)
    obtain ⟨q164, x164, rfl⟩ := h164
    have P164 := P160.trans q164 (by decide)
    refine ab_callS (as := [ab_I _, ab_I _, ab_I _]) X (fun h => by cases h) (t_MA_joined u164 _ _ _ P164.1) ls_MA_77 d_MA_step_167 rfl rfl ⟨by first | exact Nat.le_of_ble_eq_true rfl | (simp only [ab_rm]; omega), by first | exact Nat.le_of_ble_eq_true rfl | (simp only [ab_rm]; omega)⟩ ⟨by first | exact Nat.le_of_ble_eq_true rfl | (simp only [ab_rm]; omega), by first | exact Nat.le_of_ble_eq_true rfl | (simp only [ab_rm]; omega)⟩ (Nat.le_of_ble_eq_true rfl) (fun u167 r167 h167 => ?_)
    obtain ⟨e167, x167, rfl⟩ := h167
    subst u167
    refine ab_callV (as := [ab_I _]) X (fun h => by cases h) (s_MA_push u164 _ P164.1) lk_MA_57 d_MA_step_170 rfl rfl (by first | assumption | decide | (show _ < 124; omega) | (show _ < 61; omega) | (show _ < 20; omega)) ⟨by first | exact Nat.le_of_ble_eq_true rfl | (simp only [ab_rm]; omega), by first | exact Nat.le_of_ble_eq_true rfl | (simp only [ab_rm]; omega)⟩ ⟨by first | exact Nat.le_of_ble_eq_true rfl | (simp only [ab_rm]; omega), by first | exact Nat.le_of_ble_eq_true rfl | (simp only [ab_rm]; omega)⟩ (Nat.le_of_ble_eq_true rfl) (fun u170 r170 h170 => ?_)
    obtain ⟨q170, rfl⟩ := h170
    have P170 := P164.trans q170 (by decide)
    refine ab_goto X 210 d_MA_step_173 rfl ?_
    exact ab_retv X hr0 hlk d_MA_step_210 ⟨P170, rfl⟩
  ·
    refine ab_aload_n X 0 d_MA_step_176 rfl rfl ?_
    refine ab_aload_n X 0 d_MA_step_177 rfl rfl ?_
    refine ab_callV (as := []) X (fun h => by cases h) (s_MA_takeNumber u h) lk_MA_74 d_MA_step_178 rfl rfl (by first | assumption | decide | (show _ < 124; omega) | (show _ < 61; omega) | (show _ < 20; omega)) ⟨by first | exact Nat.le_of_ble_eq_true rfl | (simp only [ab_rm]; omega), by first | exact Nat.le_of_ble_eq_true rfl | (simp only [ab_rm]; omega)⟩ ⟨by first | exact Nat.le_of_ble_eq_true rfl | (simp only [ab_rm]; omega), by first | exact Nat.le_of_ble_eq_true rfl | (simp only [ab_rm]; omega)⟩ (Nat.le_of_ble_eq_true rfl) (fun u178 r178 h178 => ?_)
    obtain ⟨q178, x178, rfl⟩ := h178
    have P178 := P0.trans q178 (by decide)
    refine ab_iload_n X 2 d_MA_step_181 rfl rfl ?_
    refine ab_icmp_ne X 189 d_MA_step_182 rfl (fun h182 => ?_) (fun h182 => ?_)
    ·
      refine ab_iconst (v := 0) X d_MA_step_189 (by decide) ?_
      refine ab_callV (as := [ab_I _]) X (fun h => by cases h) (s_MA_push u178 _ P178.1) lk_MA_57 d_MA_step_190 rfl rfl (by first | assumption | decide | (show _ < 124; omega) | (show _ < 61; omega) | (show _ < 20; omega)) ⟨by first | exact Nat.le_of_ble_eq_true rfl | (simp only [ab_rm]; omega), by first | exact Nat.le_of_ble_eq_true rfl | (simp only [ab_rm]; omega)⟩ ⟨by first | exact Nat.le_of_ble_eq_true rfl | (simp only [ab_rm]; omega), by first | exact Nat.le_of_ble_eq_true rfl | (simp only [ab_rm]; omega)⟩ (Nat.le_of_ble_eq_true rfl) (fun u190 r190 h190 => ?_)
      obtain ⟨q190, rfl⟩ := h190
      have P190 := P178.trans q190 (by decide)
      refine ab_goto X 210 d_MA_step_193 rfl ?_
      exact ab_retv X hr0 hlk d_MA_step_210 ⟨P190, rfl⟩
    ·
      refine ab_iconst (v := 1) X d_MA_step_185 (by decide) ?_
      refine ab_goto X 190 d_MA_step_186 rfl ?_
      refine ab_callV (as := [ab_I _]) X (fun h => by cases h) (s_MA_push u178 _ P178.1) lk_MA_57 d_MA_step_190 rfl rfl (by first | assumption | decide | (show _ < 124; omega) | (show _ < 61; omega) | (show _ < 20; omega)) ⟨by first | exact Nat.le_of_ble_eq_true rfl | (simp only [ab_rm]; omega), by first | exact Nat.le_of_ble_eq_true rfl | (simp only [ab_rm]; omega)⟩ ⟨by first | exact Nat.le_of_ble_eq_true rfl | (simp only [ab_rm]; omega), by first | exact Nat.le_of_ble_eq_true rfl | (simp only [ab_rm]; omega)⟩ (Nat.le_of_ble_eq_true rfl) (fun u190 r190 h190 => ?_)
      obtain ⟨q190, rfl⟩ := h190
      have P190 := P178.trans q190 (by decide)
      refine ab_goto X 210 d_MA_step_193 rfl ?_
      exact ab_retv X hr0 hlk d_MA_step_210 ⟨P190, rfl⟩
  ·
    refine ab_aload_n X 0 d_MA_step_196 rfl rfl ?_
    refine ab_iconst (v := 0) X d_MA_step_197 (by decide) ?_
    refine ab_callV (as := [ab_I 0]) X (fun h => by cases h) (s_MA_push u 0 P0.1) lk_MA_57 d_MA_step_198 rfl rfl (by first | assumption | decide | (show _ < 124; omega) | (show _ < 61; omega) | (show _ < 20; omega)) ⟨by first | exact Nat.le_of_ble_eq_true rfl | (simp only [ab_rm]; omega), by first | exact Nat.le_of_ble_eq_true rfl | (simp only [ab_rm]; omega)⟩ ⟨by first | exact Nat.le_of_ble_eq_true rfl | (simp only [ab_rm]; omega), by first | exact Nat.le_of_ble_eq_true rfl | (simp only [ab_rm]; omega)⟩ (Nat.le_of_ble_eq_true rfl) (fun u198 r198 h198 => ?_)
    obtain ⟨q198, rfl⟩ := h198
    have P198 := P0.trans q198 (by decide)
    refine ab_goto X 210 d_MA_step_201 rfl ?_
    exact ab_retv X hr0 hlk d_MA_step_210 ⟨P198, rfl⟩
  ·
    refine ab_aload_n X 0 d_MA_step_204 rfl rfl ?_
    refine ab_iload_n X 1 d_MA_step_205 rfl rfl ?_
    refine ab_aload_n X 3 d_MA_step_206 rfl rfl ?_
    refine ab_callV (as := [ab_I a, ab_O 5 0]) X (fun h => by cases h) (s_MA_stepAround u a h hat) lk_MA_81 d_MA_step_207 rfl rfl (by first | assumption | decide | (show _ < 124; omega) | (show _ < 61; omega) | (show _ < 20; omega)) ⟨by first | exact Nat.le_of_ble_eq_true rfl | (simp only [ab_rm]; omega), by first | exact Nat.le_of_ble_eq_true rfl | (simp only [ab_rm]; omega)⟩ ⟨by first | exact Nat.le_of_ble_eq_true rfl | (simp only [ab_rm]; omega), by first | exact Nat.le_of_ble_eq_true rfl | (simp only [ab_rm]; omega)⟩ (Nat.le_of_ble_eq_true rfl) (fun u207 r207 h207 => ?_)
    obtain ⟨q207, rfl⟩ := h207
    have P207 := P0.trans q207 (by decide)
    exact ab_retv X hr0 hlk d_MA_step_210 ⟨P207, rfl⟩
abbrev b_MA_load : ByteArray := prog_4_method_3_code
def y_MA_load : MethodName := ⟨"PolicyForge$Machine", "load", "(LPolicyForge$Row;)V"⟩
theorem d_MA_load_0 : decode b_MA_load 0 = .ok (.aload_n 0, 1) := by decide +kernel
theorem d_MA_load_1 : decode b_MA_load 1 = .ok (.iconst 0, 1) := by decide +kernel
theorem d_MA_load_2 : decode b_MA_load 2 = .ok (.putfield 18, 3) := by decide +kernel
theorem d_MA_load_5 : decode b_MA_load 5 = .ok (.aload_n 0, 1) := by decide +kernel
theorem d_MA_load_6 : decode b_MA_load 6 = .ok (.iconst 0, 1) := by decide +kernel
theorem d_MA_load_7 : decode b_MA_load 7 = .ok (.putfield 22, 3) := by decide +kernel
theorem d_MA_load_10 : decode b_MA_load 10 = .ok (.aload_n 0, 1) := by decide +kernel
theorem d_MA_load_11 : decode b_MA_load 11 = .ok (.iconst 0, 1) := by decide +kernel
theorem d_MA_load_12 : decode b_MA_load 12 = .ok (.putfield 25, 3) := by decide +kernel
theorem d_MA_load_15 : decode b_MA_load 15 = .ok (.aload_n 0, 1) := by decide +kernel
theorem d_MA_load_16 : decode b_MA_load 16 = .ok (.iconst 0, 1) := by decide +kernel
theorem d_MA_load_17 : decode b_MA_load 17 = .ok (.putfield 28, 3) := by decide +kernel
theorem d_MA_load_20 : decode b_MA_load 20 = .ok (.aload_n 0, 1) := by decide +kernel
theorem d_MA_load_21 : decode b_MA_load 21 = .ok (.iconst 0, 1) := by decide +kernel
theorem d_MA_load_22 : decode b_MA_load 22 = .ok (.putfield 31, 3) := by decide +kernel
theorem d_MA_load_25 : decode b_MA_load 25 = .ok (.aload_n 1, 1) := by decide +kernel
theorem d_MA_load_26 : decode b_MA_load 26 = .ok (.getfield 51, 3) := by decide +kernel
theorem d_MA_load_29 : decode b_MA_load 29 = .ok (.iconst 1, 1) := by decide +kernel
theorem d_MA_load_30 : decode b_MA_load 30 = .ok (.isub, 1) := by decide +kernel
theorem d_MA_load_31 : decode b_MA_load 31 = .ok (.istore_n 2, 1) := by decide +kernel
theorem d_MA_load_32 : decode b_MA_load 32 = .ok (.iload_n 2, 1) := by decide +kernel
theorem d_MA_load_33 : decode b_MA_load 33 = .ok (.ifCond .lt 19, 3) := by decide +kernel
theorem d_MA_load_36 : decode b_MA_load 36 = .ok (.aload_n 0, 1) := by decide +kernel
theorem d_MA_load_37 : decode b_MA_load 37 = .ok (.aload_n 1, 1) := by decide +kernel
theorem d_MA_load_38 : decode b_MA_load 38 = .ok (.getfield 54, 3) := by decide +kernel
theorem d_MA_load_41 : decode b_MA_load 41 = .ok (.iload_n 2, 1) := by decide +kernel
theorem d_MA_load_42 : decode b_MA_load 42 = .ok (.iaload, 1) := by decide +kernel
theorem d_MA_load_43 : decode b_MA_load 43 = .ok (.invokevirtual 57, 3) := by decide +kernel
theorem d_MA_load_46 : decode b_MA_load 46 = .ok (.iinc 2 (-1), 3) := by decide +kernel
theorem d_MA_load_49 : decode b_MA_load 49 = .ok (.goto (-17), 3) := by decide +kernel
theorem d_MA_load_52 : decode b_MA_load 52 = .ok (.return_, 1) := by decide +kernel
theorem fl_MA_51 : ab_fl "PolicyForge$Machine" 51 4 1 0 := ⟨rfl, R_RW, T_RW, 4, rfl, uw_RW, by decide, rfl, (ab_in 154 (by decide +kernel) (by decide +kernel))⟩
theorem fl_MA_54 : ab_fl "PolicyForge$Machine" 54 4 0 1 := ⟨rfl, R_RW, T_RW, 4, rfl, uw_RW, by decide, rfl, (ab_in 151 (by decide +kernel) (by decide +kernel))⟩
set_option maxRecDepth 100000 in
set_option maxHeartbeats 1000000 in
theorem s_MA_load (u : ab_S) (r : Nat) (h : CI u) (hr : r < 124) : ab_C false l D ca y_MA_load b_MA_load 3 none 1 ab_nQ u [ab_O 7 0, ab_O 4 r] (fun u' v => (cP [7, 15, 16] u u' ∧ u'.1 7 0 5 = nI 0) ∧ v = none) := by
  refine ab_C.of (by decide) (Nat.le_of_ble_eq_true rfl) ?_
  intro p e s m args below meth c ad X hZ hr0 hlk
  have P0 : cP [7, 15, 16] u u := cQ.rf h
  obtain ⟨n, hn, en⟩ := h.row hr
  have l2 := ab_ln8b r
  have loop : ∀ (j : Nat) (u1 : ab_S), j ≤ n → cP [7, 15, 16] u u1 → u1.1 7 0 5 = nI 0 → ab_J p l e (ab_rm 1 0 0) s m args below meth c (MQ below (ab_Q D ca ad ab_nQ s.heap.size (fun u' v => (cP [7, 15, 16] u u' ∧ u'.1 7 0 5 = nI 0) ∧ v = none)) args s 0 0 (ab_A ad ab_nQ s.heap.size)) D ca (ab_A ad ab_nQ s.heap.size) s.heap 3 0 0 ad ab_nQ u1 32 [(2, ab_I (nI j - 1)), (0, ab_O 7 0), (1, ab_O 4 r)] [] := by
    intro j
    induction j with
    | zero =>
      intro u1 hj P1 a2
      refine ab_iload_n X 0 d_MA_load_32 rfl rfl ?_
      refine ab_if_lt X 52 d_MA_load_33 rfl (fun _ => ?_) (fun hb => absurd ((by decide)) hb)
      exact ab_retv X hr0 hlk d_MA_load_52 ⟨⟨P1, a2⟩, rfl⟩
    | succ j ih =>
      intro u1 hj P1 a2
      rw [nI_m1 (by omega), show j + 1 - 1 = j by omega]
      refine ab_iload_n X 0 d_MA_load_32 rfl rfl ?_
      refine ab_if_lt X 52 d_MA_load_33 rfl (fun hb => absurd hb ((nI_pos (by omega)))) (fun _ => ?_)
      refine ab_aload_n X 1 d_MA_load_36 rfl rfl ?_
      refine ab_aload_n X 2 d_MA_load_37 rfl rfl ?_
      refine ab_gR X fl_MA_54 d_MA_load_38 (by first | assumption | decide | (show _ < 124; omega) | (show _ < 61; omega) | (show _ < 20; omega)) (P1.1.rw (by first | assumption | decide | omega)) ?_
      refine ab_iload_n X 0 d_MA_load_41 rfl rfl ?_
      refine ab_iald X (j) ⟨rfl, rfl⟩ d_MA_load_42 (by first | assumption | decide | (show _ < 124; omega) | (show _ < 61; omega) | (show _ < 20; omega)) (rfl) (by omega) (ab_ln_lt _ _) ?_
      refine ab_callV (as := [ab_I _]) X (fun h => by cases h) (s_MA_push u1 _ P1.1) lk_MA_57 d_MA_load_43 rfl rfl (by first | assumption | decide | (show _ < 124; omega) | (show _ < 61; omega) | (show _ < 20; omega)) ⟨by first | exact Nat.le_of_ble_eq_true rfl | (simp only [ab_rm]; omega), by first | exact Nat.le_of_ble_eq_true rfl | (simp only [ab_rm]; omega)⟩ ⟨by first | exact Nat.le_of_ble_eq_true rfl | (simp only [ab_rm]; omega), by first | exact Nat.le_of_ble_eq_true rfl | (simp only [ab_rm]; omega)⟩ (Nat.le_of_ble_eq_true rfl) (fun u43 r43 h43 => ?_)
      obtain ⟨m43, rfl⟩ := h43
      have q43 := m43.c
      have P43 := P1.trans q43 (by decide)
      refine ab_iinc2 X 0 1 2 d_MA_load_46 rfl (by decide) rfl rfl rfl rfl ?_
      refine ab_goto X 32 d_MA_load_49 rfl ?_
      rw [show nI j + Int32.ofInt (-1) = nI j - 1 from by rw [Int32.sub_eq_add_neg]; rfl]
      exact ih _ (by omega) P43 (m43.2.2.1.trans a2)
  refine ab_aload_n X 0 d_MA_load_0 rfl rfl ?_
  refine ab_iconst (v := 0) X d_MA_load_1 (by decide) ?_
  refine ab_putI X fp_MA_18 d_MA_load_2 (by first | assumption | decide | (show _ < 124; omega) | (show _ < 61; omega) | (show _ < 20; omega)) rfl rfl ?_
  refine ab_gen (fun u2 e2 => ?_)
  have P2 : cP [7, 15, 16] u u2 := by rw [e2]; exact P0.m2 (by decide) (n := 0) (by omega)
  refine ab_aload_n X 0 d_MA_load_5 rfl rfl ?_
  refine ab_iconst (v := 0) X d_MA_load_6 (by decide) ?_
  refine ab_putI X fp_MA_22 d_MA_load_7 (by first | assumption | decide | (show _ < 124; omega) | (show _ < 61; omega) | (show _ < 20; omega)) rfl rfl ?_
  refine ab_gen (fun u7 e7 => ?_)
  have P7 : cP [7, 15, 16] u u7 := by rw [e7]; exact P2.m3 (by decide) (n := 0) (by omega)
  refine ab_aload_n X 0 d_MA_load_10 rfl rfl ?_
  refine ab_iconst (v := 0) X d_MA_load_11 (by decide) ?_
  refine ab_putI X fp_MA_25 d_MA_load_12 (by first | assumption | decide | (show _ < 124; omega) | (show _ < 61; omega) | (show _ < 20; omega)) rfl rfl ?_
  refine ab_gen (fun u12 e12 => ?_)
  have P12 : cP [7, 15, 16] u u12 := by rw [e12]; exact P7.m4 (by decide) (n := 0) (by omega)
  refine ab_aload_n X 0 d_MA_load_15 rfl rfl ?_
  refine ab_iconst (v := 0) X d_MA_load_16 (by decide) ?_
  refine ab_putI X fp_MA_28 d_MA_load_17 (by first | assumption | decide | (show _ < 124; omega) | (show _ < 61; omega) | (show _ < 20; omega)) rfl rfl ?_
  refine ab_gen (fun u17 e17 => ?_)
  have P17 : cP [7, 15, 16] u u17 := by rw [e17]; exact P12.ui rfl (by decide)
  refine ab_aload_n X 0 d_MA_load_20 rfl rfl ?_
  refine ab_iconst (v := 0) X d_MA_load_21 (by decide) ?_
  refine ab_putI X fp_MA_31 d_MA_load_22 (by first | assumption | decide | (show _ < 124; omega) | (show _ < 61; omega) | (show _ < 20; omega)) rfl rfl ?_
  refine ab_gen (fun u22 e22 => ?_)
  have P22 : cP [7, 15, 16] u u22 := by rw [e22]; exact P17.ui rfl (by decide)
  refine ab_aload_n X 1 d_MA_load_25 rfl rfl ?_
  refine ab_gI X fl_MA_51 d_MA_load_26 (by first | assumption | decide | (show _ < 124; omega) | (show _ < 61; omega) | (show _ < 20; omega)) (P22.ii (by decide) en) ?_
  refine ab_iconst (v := 1) X d_MA_load_29 (by decide) ?_
  refine ab_isub X d_MA_load_30 ?_
  refine ab_istore_n2 X 0 1 d_MA_load_31 rfl (by decide) rfl rfl rfl rfl ?_
  exact loop n _ (by omega) P22 (by rw [e22, e17]; simp [ab_up]; rfl)
theorem d_MA_run_0 : decode b_MA_run 0 = .ok (.aload_n 0, 1) := by decide +kernel
theorem d_MA_run_1 : decode b_MA_run 1 = .ok (.aload_n 2, 1) := by decide +kernel
theorem d_MA_run_2 : decode b_MA_run 2 = .ok (.invokevirtual 35, 3) := by decide +kernel
theorem d_MA_run_5 : decode b_MA_run 5 = .ok (.aload_n 0, 1) := by decide +kernel
theorem d_MA_run_6 : decode b_MA_run 6 = .ok (.getfield 31, 3) := by decide +kernel
theorem d_MA_run_9 : decode b_MA_run 9 = .ok (.ifCond .ne 88, 3) := by decide +kernel
theorem d_MA_run_12 : decode b_MA_run 12 = .ok (.aload_n 0, 1) := by decide +kernel
theorem d_MA_run_13 : decode b_MA_run 13 = .ok (.getfield 25, 3) := by decide +kernel
theorem d_MA_run_16 : decode b_MA_run 16 = .ok (.aload_n 1, 1) := by decide +kernel
theorem d_MA_run_17 : decode b_MA_run 17 = .ok (.getfield 39, 3) := by decide +kernel
theorem d_MA_run_20 : decode b_MA_run 20 = .ok (.if_icmp .ge 77, 3) := by decide +kernel
theorem d_MA_run_23 : decode b_MA_run 23 = .ok (.aload_n 0, 1) := by decide +kernel
theorem d_MA_run_24 : decode b_MA_run 24 = .ok (.getfield 28, 3) := by decide +kernel
theorem d_MA_run_27 : decode b_MA_run 27 = .ok (.aload_n 1, 1) := by decide +kernel
theorem d_MA_run_28 : decode b_MA_run 28 = .ok (.getfield 39, 3) := by decide +kernel
theorem d_MA_run_31 : decode b_MA_run 31 = .ok (.if_icmp .ge 66, 3) := by decide +kernel
theorem d_MA_run_34 : decode b_MA_run 34 = .ok (.aload_n 1, 1) := by decide +kernel
theorem d_MA_run_35 : decode b_MA_run 35 = .ok (.getfield 44, 3) := by decide +kernel
theorem d_MA_run_38 : decode b_MA_run 38 = .ok (.aload_n 0, 1) := by decide +kernel
theorem d_MA_run_39 : decode b_MA_run 39 = .ok (.getfield 25, 3) := by decide +kernel
theorem d_MA_run_42 : decode b_MA_run 42 = .ok (.iaload, 1) := by decide +kernel
theorem d_MA_run_43 : decode b_MA_run 43 = .ok (.istore 4, 2) := by decide +kernel
theorem d_MA_run_45 : decode b_MA_run 45 = .ok (.aload_n 0, 1) := by decide +kernel
theorem d_MA_run_46 : decode b_MA_run 46 = .ok (.dup, 1) := by decide +kernel
theorem d_MA_run_47 : decode b_MA_run 47 = .ok (.getfield 28, 3) := by decide +kernel
theorem d_MA_run_50 : decode b_MA_run 50 = .ok (.iconst 1, 1) := by decide +kernel
theorem d_MA_run_51 : decode b_MA_run 51 = .ok (.iadd, 1) := by decide +kernel
theorem d_MA_run_52 : decode b_MA_run 52 = .ok (.putfield 28, 3) := by decide +kernel
theorem d_MA_run_55 : decode b_MA_run 55 = .ok (.aload_n 0, 1) := by decide +kernel
theorem d_MA_run_56 : decode b_MA_run 56 = .ok (.iload 4, 2) := by decide +kernel
theorem d_MA_run_58 : decode b_MA_run 58 = .ok (.sipush 1000, 3) := by decide +kernel
theorem d_MA_run_61 : decode b_MA_run 61 = .ok (.idiv, 1) := by decide +kernel
theorem d_MA_run_62 : decode b_MA_run 62 = .ok (.iload 4, 2) := by decide +kernel
theorem d_MA_run_64 : decode b_MA_run 64 = .ok (.sipush 1000, 3) := by decide +kernel
theorem d_MA_run_67 : decode b_MA_run 67 = .ok (.irem, 1) := by decide +kernel
theorem d_MA_run_68 : decode b_MA_run 68 = .ok (.aload_n 1, 1) := by decide +kernel
theorem d_MA_run_69 : decode b_MA_run 69 = .ok (.aload_n 3, 1) := by decide +kernel
theorem d_MA_run_70 : decode b_MA_run 70 = .ok (.invokevirtual 47, 3) := by decide +kernel
theorem d_MA_run_73 : decode b_MA_run 73 = .ok (.aload_n 0, 1) := by decide +kernel
theorem d_MA_run_74 : decode b_MA_run 74 = .ok (.dup, 1) := by decide +kernel
theorem d_MA_run_75 : decode b_MA_run 75 = .ok (.getfield 25, 3) := by decide +kernel
theorem d_MA_run_78 : decode b_MA_run 78 = .ok (.aload_n 0, 1) := by decide +kernel
theorem d_MA_run_79 : decode b_MA_run 79 = .ok (.getfield 31, 3) := by decide +kernel
theorem d_MA_run_82 : decode b_MA_run 82 = .ok (.ifCond .eq 7, 3) := by decide +kernel
theorem d_MA_run_85 : decode b_MA_run 85 = .ok (.iconst 0, 1) := by decide +kernel
theorem d_MA_run_86 : decode b_MA_run 86 = .ok (.goto 4, 3) := by decide +kernel
theorem d_MA_run_89 : decode b_MA_run 89 = .ok (.iconst 1, 1) := by decide +kernel
theorem d_MA_run_90 : decode b_MA_run 90 = .ok (.iadd, 1) := by decide +kernel
theorem d_MA_run_91 : decode b_MA_run 91 = .ok (.putfield 25, 3) := by decide +kernel
theorem d_MA_run_94 : decode b_MA_run 94 = .ok (.goto (-89), 3) := by decide +kernel
theorem d_MA_run_97 : decode b_MA_run 97 = .ok (.aload_n 0, 1) := by decide +kernel
theorem d_MA_run_98 : decode b_MA_run 98 = .ok (.getfield 31, 3) := by decide +kernel
theorem d_MA_run_101 : decode b_MA_run 101 = .ok (.ifCond .eq 8, 3) := by decide +kernel
theorem d_MA_run_104 : decode b_MA_run 104 = .ok (.aload_n 0, 1) := by decide +kernel
theorem d_MA_run_105 : decode b_MA_run 105 = .ok (.getfield 25, 3) := by decide +kernel
theorem d_MA_run_108 : decode b_MA_run 108 = .ok (.ireturn, 1) := by decide +kernel
theorem d_MA_run_109 : decode b_MA_run 109 = .ok (.aload_n 0, 1) := by decide +kernel
theorem d_MA_run_110 : decode b_MA_run 110 = .ok (.getfield 18, 3) := by decide +kernel
theorem d_MA_run_113 : decode b_MA_run 113 = .ok (.iconst 1, 1) := by decide +kernel
theorem d_MA_run_114 : decode b_MA_run 114 = .ok (.if_icmp .ne 24, 3) := by decide +kernel
theorem d_MA_run_117 : decode b_MA_run 117 = .ok (.aload_n 0, 1) := by decide +kernel
theorem d_MA_run_118 : decode b_MA_run 118 = .ok (.getfield 9, 3) := by decide +kernel
theorem d_MA_run_121 : decode b_MA_run 121 = .ok (.iconst 0, 1) := by decide +kernel
theorem d_MA_run_122 : decode b_MA_run 122 = .ok (.iaload, 1) := by decide +kernel
theorem d_MA_run_123 : decode b_MA_run 123 = .ok (.iconst 1, 1) := by decide +kernel
theorem d_MA_run_124 : decode b_MA_run 124 = .ok (.if_icmp .ne 14, 3) := by decide +kernel
theorem d_MA_run_127 : decode b_MA_run 127 = .ok (.aload_n 0, 1) := by decide +kernel
theorem d_MA_run_128 : decode b_MA_run 128 = .ok (.getfield 22, 3) := by decide +kernel
theorem d_MA_run_131 : decode b_MA_run 131 = .ok (.ifCond .ne 7, 3) := by decide +kernel
theorem d_MA_run_134 : decode b_MA_run 134 = .ok (.iconst 1, 1) := by decide +kernel
theorem d_MA_run_135 : decode b_MA_run 135 = .ok (.goto 4, 3) := by decide +kernel
theorem d_MA_run_138 : decode b_MA_run 138 = .ok (.iconst 0, 1) := by decide +kernel
theorem d_MA_run_139 : decode b_MA_run 139 = .ok (.istore 4, 2) := by decide +kernel
theorem d_MA_run_141 : decode b_MA_run 141 = .ok (.iload 4, 2) := by decide +kernel
theorem d_MA_run_143 : decode b_MA_run 143 = .ok (.ifCond .eq 7, 3) := by decide +kernel
theorem d_MA_run_146 : decode b_MA_run 146 = .ok (.iconst (-1), 1) := by decide +kernel
theorem d_MA_run_147 : decode b_MA_run 147 = .ok (.goto 7, 3) := by decide +kernel
theorem d_MA_run_150 : decode b_MA_run 150 = .ok (.aload_n 1, 1) := by decide +kernel
theorem d_MA_run_151 : decode b_MA_run 151 = .ok (.getfield 39, 3) := by decide +kernel
theorem d_MA_run_154 : decode b_MA_run 154 = .ok (.ireturn, 1) := by decide +kernel
theorem lk_MA_35 : ab_lk "PolicyForge$Machine" 35 y_MA_load b_MA_load 3 none 1 7 := ⟨⟨rfl, T_MA, 7, rfl⟩, List.forall_mem_cons.mpr ⟨(ab_in 868 (by decide +kernel) (by decide +kernel)), List.forall_mem_cons.mpr ⟨(ab_in 870 (by decide +kernel) (by decide +kernel)), List.forall_mem_cons.mpr ⟨(ab_in 33 (by decide +kernel) (by decide +kernel)), List.forall_mem_cons.mpr ⟨(ab_in 99 (by decide +kernel) (by decide +kernel)), List.forall_mem_cons.mpr ⟨(ab_in 871 (by decide +kernel) (by decide +kernel)), fun _ h => absurd h List.not_mem_nil⟩⟩⟩⟩⟩, ⟨by decide +kernel, by decide +kernel, by decide +kernel⟩, by decide⟩
theorem fl_MA_28 : ab_fl "PolicyForge$Machine" 28 7 5 0 := ⟨rfl, R_MA, T_MA, 7, rfl, uw_MA, by decide, rfl, (ab_in 333 (by decide +kernel) (by decide +kernel))⟩
theorem lk_MA_47 : ab_lk "PolicyForge$Machine" 47 y_MA_step b_MA_step 5 none 4 7 := ⟨⟨rfl, T_MA, 7, rfl⟩, List.forall_mem_cons.mpr ⟨(ab_in 876 (by decide +kernel) (by decide +kernel)), List.forall_mem_cons.mpr ⟨(ab_in 878 (by decide +kernel) (by decide +kernel)), List.forall_mem_cons.mpr ⟨(ab_in 35 (by decide +kernel) (by decide +kernel)), List.forall_mem_cons.mpr ⟨(ab_in 99 (by decide +kernel) (by decide +kernel)), List.forall_mem_cons.mpr ⟨(ab_in 879 (by decide +kernel) (by decide +kernel)), fun _ h => absurd h List.not_mem_nil⟩⟩⟩⟩⟩, ⟨by decide +kernel, by decide +kernel, by decide +kernel⟩, by decide⟩
set_option maxRecDepth 100000 in
set_option maxHeartbeats 1000000 in
theorem s_MA_run (u : ab_S) (r : Nat) (h : CI u) (hr : r < 124) : ab_C false l D ca y_MA_run b_MA_run 5 (some FieldType.int) 4 ab_nQ u [ab_O 7 0, ab_O 5 0, ab_O 4 r, ab_O 6 0] (fun u' v => cP [7, 15, 16] u u' ∧ ∃ x : Int32, v = some (ab_I x)) := by
  refine ab_C.of (by decide) (Nat.le_of_ble_eq_true rfl) ?_
  intro p e s m args below meth c ad X hZ hr0 hlk
  have P0 : cP [7, 15, 16] u u := cQ.rf h
  have loop : ∀ (n k : Nat) (u1 : ab_S), n + k = 129 → cP [7, 15, 16] u u1 → u1.1 7 0 5 = nI k → ab_J p l e (ab_rm 4 0 0) s m args below meth c (MQ below (ab_Q D ca ad ab_nQ s.heap.size (fun u' v => cP [7, 15, 16] u u' ∧ ∃ x : Int32, v = some (ab_I x))) args s 0 0 (ab_A ad ab_nQ s.heap.size)) D ca (ab_A ad ab_nQ s.heap.size) s.heap 5 0 0 ad ab_nQ u1 5 [(0, ab_O 7 0), (1, ab_O 5 0), (2, ab_O 4 r), (3, ab_O 6 0)] [] := by
    intro n
    induction n with
    | zero =>
      intro k u1 hk P1 a1
      obtain ⟨⟨co, hco, eo⟩, -⟩ := P1.1.scr
      refine ab_aload_n X 0 d_MA_run_5 rfl rfl ?_
      refine ab_gI X fl_MA_31 d_MA_run_6 (by first | assumption | decide | (show _ < 124; omega) | (show _ < 61; omega) | (show _ < 20; omega)) (rfl) ?_
      refine ab_if_ne X 97 d_MA_run_9 rfl (fun h9 => ?_) (fun h9 => ?_)
      ·
        refine ab_aload_n X 0 d_MA_run_97 rfl rfl ?_
        refine ab_gI X fl_MA_31 d_MA_run_98 (by first | assumption | decide | (show _ < 124; omega) | (show _ < 61; omega) | (show _ < 20; omega)) (rfl) ?_
        refine ab_if_eq X 109 d_MA_run_101 rfl (fun h101 => ?_) (fun h101 => ?_)
        ·
          refine ab_aload_n X 0 d_MA_run_109 rfl rfl ?_
          refine ab_gI X fl_MA_18 d_MA_run_110 (by first | assumption | decide | (show _ < 124; omega) | (show _ < 61; omega) | (show _ < 20; omega)) (rfl) ?_
          refine ab_iconst (v := 1) X d_MA_run_113 (by decide) ?_
          refine ab_icmp_ne X 138 d_MA_run_114 rfl (fun h114 => ?_) (fun h114 => ?_)
          ·
            refine ab_iconst (v := 0) X d_MA_run_138 (by decide) ?_
            refine ab_istore4 X 0 1 2 3 d_MA_run_139 (by decide) rfl rfl rfl rfl rfl rfl rfl rfl ?_
            refine ab_iload X 0 d_MA_run_141 rfl ?_
            refine ab_if_eq X 150 d_MA_run_143 rfl (fun h143 => ?_) (fun h143 => ?_)
            ·
              refine ab_aload_n X 2 d_MA_run_150 rfl rfl ?_
              refine ab_gI X fl_MA_39 d_MA_run_151 (by first | assumption | decide | (show _ < 124; omega) | (show _ < 61; omega) | (show _ < 20; omega)) (rfl) ?_
              exact ab_reti X hr0 hlk d_MA_run_154 ⟨P1, _, rfl⟩
            ·
              refine ab_iconst (v := (-1)) X d_MA_run_146 (by decide) ?_
              refine ab_goto X 154 d_MA_run_147 rfl ?_
              exact ab_reti X hr0 hlk d_MA_run_154 ⟨P1, _, rfl⟩
          ·
            refine ab_aload_n X 0 d_MA_run_117 rfl rfl ?_
            refine ab_gR X fl_MA_9 d_MA_run_118 (by first | assumption | decide | (show _ < 124; omega) | (show _ < 61; omega) | (show _ < 20; omega)) (P1.1.ma0) ?_
            refine ab_iconst (v := 0) X d_MA_run_121 (by decide) ?_
            refine ab_iald X (0) ⟨rfl, rfl⟩ d_MA_run_122 (by first | assumption | decide | (show _ < 124; omega) | (show _ < 61; omega) | (show _ < 20; omega)) (rfl) (show 0 < 168 by decide) (ab_ln_lt _ _) ?_
            refine ab_iconst (v := 1) X d_MA_run_123 (by decide) ?_
            refine ab_icmp_ne X 138 d_MA_run_124 rfl (fun h124 => ?_) (fun h124 => ?_)
            ·
              refine ab_iconst (v := 0) X d_MA_run_138 (by decide) ?_
              refine ab_istore4 X 0 1 2 3 d_MA_run_139 (by decide) rfl rfl rfl rfl rfl rfl rfl rfl ?_
              refine ab_iload X 0 d_MA_run_141 rfl ?_
              refine ab_if_eq X 150 d_MA_run_143 rfl (fun h143 => ?_) (fun h143 => ?_)
              ·
                refine ab_aload_n X 2 d_MA_run_150 rfl rfl ?_
                refine ab_gI X fl_MA_39 d_MA_run_151 (by first | assumption | decide | (show _ < 124; omega) | (show _ < 61; omega) | (show _ < 20; omega)) (rfl) ?_
                exact ab_reti X hr0 hlk d_MA_run_154 ⟨P1, _, rfl⟩
              ·
                refine ab_iconst (v := (-1)) X d_MA_run_146 (by decide) ?_
                refine ab_goto X 154 d_MA_run_147 rfl ?_
                exact ab_reti X hr0 hlk d_MA_run_154 ⟨P1, _, rfl⟩
            ·
              refine ab_aload_n X 0 d_MA_run_127 rfl rfl ?_
              refine ab_gI X fl_MA_22 d_MA_run_128 (by first | assumption | decide | (show _ < 124; omega) | (show _ < 61; omega) | (show _ < 20; omega)) (rfl) ?_
              refine ab_if_ne X 138 d_MA_run_131 rfl (fun h131 => ?_) (fun h131 => ?_)
              ·
                refine ab_iconst (v := 0) X d_MA_run_138 (by decide) ?_
                refine ab_istore4 X 0 1 2 3 d_MA_run_139 (by decide) rfl rfl rfl rfl rfl rfl rfl rfl ?_
                refine ab_iload X 0 d_MA_run_141 rfl ?_
                refine ab_if_eq X 150 d_MA_run_143 rfl (fun h143 => ?_) (fun h143 => ?_)
                ·
                  refine ab_aload_n X 2 d_MA_run_150 rfl rfl ?_
                  refine ab_gI X fl_MA_39 d_MA_run_151 (by first | assumption | decide | (show _ < 124; omega) | (show _ < 61; omega) | (show _ < 20; omega)) (rfl) ?_
                  exact ab_reti X hr0 hlk d_MA_run_154 ⟨P1, _, rfl⟩
                ·
                  refine ab_iconst (v := (-1)) X d_MA_run_146 (by decide) ?_
                  refine ab_goto X 154 d_MA_run_147 rfl ?_
                  exact ab_reti X hr0 hlk d_MA_run_154 ⟨P1, _, rfl⟩
              ·
                refine ab_iconst (v := 1) X d_MA_run_134 (by decide) ?_
                refine ab_goto X 139 d_MA_run_135 rfl ?_
                refine ab_istore4 X 0 1 2 3 d_MA_run_139 (by decide) rfl rfl rfl rfl rfl rfl rfl rfl ?_
                refine ab_iload X 0 d_MA_run_141 rfl ?_
                refine ab_if_eq X 150 d_MA_run_143 rfl (fun h143 => ?_) (fun h143 => ?_)
                ·
                  refine ab_aload_n X 2 d_MA_run_150 rfl rfl ?_
                  refine ab_gI X fl_MA_39 d_MA_run_151 (by first | assumption | decide | (show _ < 124; omega) | (show _ < 61; omega) | (show _ < 20; omega)) (rfl) ?_
                  exact ab_reti X hr0 hlk d_MA_run_154 ⟨P1, _, rfl⟩
                ·
                  refine ab_iconst (v := (-1)) X d_MA_run_146 (by decide) ?_
                  refine ab_goto X 154 d_MA_run_147 rfl ?_
                  exact ab_reti X hr0 hlk d_MA_run_154 ⟨P1, _, rfl⟩
        ·
          refine ab_aload_n X 0 d_MA_run_104 rfl rfl ?_
          refine ab_gI X fl_MA_25 d_MA_run_105 (by first | assumption | decide | (show _ < 124; omega) | (show _ < 61; omega) | (show _ < 20; omega)) (rfl) ?_
          exact ab_reti X hr0 hlk d_MA_run_108 ⟨P1, _, rfl⟩
      ·
        refine ab_aload_n X 0 d_MA_run_12 rfl rfl ?_
        refine ab_gI X fl_MA_25 d_MA_run_13 (by first | assumption | decide | (show _ < 124; omega) | (show _ < 61; omega) | (show _ < 20; omega)) (rfl) ?_
        refine ab_aload_n X 1 d_MA_run_16 rfl rfl ?_
        refine ab_gI X fl_MA_39 d_MA_run_17 (by first | assumption | decide | (show _ < 124; omega) | (show _ < 61; omega) | (show _ < 20; omega)) (rfl) ?_
        refine ab_icmp_ge X 97 d_MA_run_20 rfl (fun h20 => ?_) (fun h20 => ?_)
        ·
          refine ab_aload_n X 0 d_MA_run_97 rfl rfl ?_
          refine ab_gI X fl_MA_31 d_MA_run_98 (by first | assumption | decide | (show _ < 124; omega) | (show _ < 61; omega) | (show _ < 20; omega)) (rfl) ?_
          refine ab_if_eq X 109 d_MA_run_101 rfl (fun h101 => ?_) (fun h101 => ?_)
          ·
            refine ab_aload_n X 0 d_MA_run_109 rfl rfl ?_
            refine ab_gI X fl_MA_18 d_MA_run_110 (by first | assumption | decide | (show _ < 124; omega) | (show _ < 61; omega) | (show _ < 20; omega)) (rfl) ?_
            refine ab_iconst (v := 1) X d_MA_run_113 (by decide) ?_
            refine ab_icmp_ne X 138 d_MA_run_114 rfl (fun h114 => ?_) (fun h114 => ?_)
            ·
              refine ab_iconst (v := 0) X d_MA_run_138 (by decide) ?_
              refine ab_istore4 X 0 1 2 3 d_MA_run_139 (by decide) rfl rfl rfl rfl rfl rfl rfl rfl ?_
              refine ab_iload X 0 d_MA_run_141 rfl ?_
              refine ab_if_eq X 150 d_MA_run_143 rfl (fun h143 => ?_) (fun h143 => ?_)
              ·
                refine ab_aload_n X 2 d_MA_run_150 rfl rfl ?_
                refine ab_gI X fl_MA_39 d_MA_run_151 (by first | assumption | decide | (show _ < 124; omega) | (show _ < 61; omega) | (show _ < 20; omega)) (rfl) ?_
                exact ab_reti X hr0 hlk d_MA_run_154 ⟨P1, _, rfl⟩
              ·
                refine ab_iconst (v := (-1)) X d_MA_run_146 (by decide) ?_
                refine ab_goto X 154 d_MA_run_147 rfl ?_
                exact ab_reti X hr0 hlk d_MA_run_154 ⟨P1, _, rfl⟩
            ·
              refine ab_aload_n X 0 d_MA_run_117 rfl rfl ?_
              refine ab_gR X fl_MA_9 d_MA_run_118 (by first | assumption | decide | (show _ < 124; omega) | (show _ < 61; omega) | (show _ < 20; omega)) (P1.1.ma0) ?_
              refine ab_iconst (v := 0) X d_MA_run_121 (by decide) ?_
              refine ab_iald X (0) ⟨rfl, rfl⟩ d_MA_run_122 (by first | assumption | decide | (show _ < 124; omega) | (show _ < 61; omega) | (show _ < 20; omega)) (rfl) (show 0 < 168 by decide) (ab_ln_lt _ _) ?_
              refine ab_iconst (v := 1) X d_MA_run_123 (by decide) ?_
              refine ab_icmp_ne X 138 d_MA_run_124 rfl (fun h124 => ?_) (fun h124 => ?_)
              ·
                refine ab_iconst (v := 0) X d_MA_run_138 (by decide) ?_
                refine ab_istore4 X 0 1 2 3 d_MA_run_139 (by decide) rfl rfl rfl rfl rfl rfl rfl rfl ?_
                refine ab_iload X 0 d_MA_run_141 rfl ?_
                refine ab_if_eq X 150 d_MA_run_143 rfl (fun h143 => ?_) (fun h143 => ?_)
                ·
                  refine ab_aload_n X 2 d_MA_run_150 rfl rfl ?_
                  refine ab_gI X fl_MA_39 d_MA_run_151 (by first | assumption | decide | (show _ < 124; omega) | (show _ < 61; omega) | (show _ < 20; omega)) (rfl) ?_
                  exact ab_reti X hr0 hlk d_MA_run_154 ⟨P1, _, rfl⟩
                ·
                  refine ab_iconst (v := (-1)) X d_MA_run_146 (by decide) ?_
                  refine ab_goto X 154 d_MA_run_147 rfl ?_
                  exact ab_reti X hr0 hlk d_MA_run_154 ⟨P1, _, rfl⟩
              ·
                refine ab_aload_n X 0 d_MA_run_127 rfl rfl ?_
                refine ab_gI X fl_MA_22 d_MA_run_128 (by first | assumption | decide | (show _ < 124; omega) | (show _ < 61; omega) | (show _ < 20; omega)) (rfl) ?_
                refine ab_if_ne X 138 d_MA_run_131 rfl (fun h131 => ?_) (fun h131 => ?_)
                ·
                  refine ab_iconst (v := 0) X d_MA_run_138 (by decide) ?_
                  refine ab_istore4 X 0 1 2 3 d_MA_run_139 (by decide) rfl rfl rfl rfl rfl rfl rfl rfl ?_
                  refine ab_iload X 0 d_MA_run_141 rfl ?_
                  refine ab_if_eq X 150 d_MA_run_143 rfl (fun h143 => ?_) (fun h143 => ?_)
                  ·
                    refine ab_aload_n X 2 d_MA_run_150 rfl rfl ?_
                    refine ab_gI X fl_MA_39 d_MA_run_151 (by first | assumption | decide | (show _ < 124; omega) | (show _ < 61; omega) | (show _ < 20; omega)) (rfl) ?_
                    exact ab_reti X hr0 hlk d_MA_run_154 ⟨P1, _, rfl⟩
                  ·
                    refine ab_iconst (v := (-1)) X d_MA_run_146 (by decide) ?_
                    refine ab_goto X 154 d_MA_run_147 rfl ?_
                    exact ab_reti X hr0 hlk d_MA_run_154 ⟨P1, _, rfl⟩
                ·
                  refine ab_iconst (v := 1) X d_MA_run_134 (by decide) ?_
                  refine ab_goto X 139 d_MA_run_135 rfl ?_
                  refine ab_istore4 X 0 1 2 3 d_MA_run_139 (by decide) rfl rfl rfl rfl rfl rfl rfl rfl ?_
                  refine ab_iload X 0 d_MA_run_141 rfl ?_
                  refine ab_if_eq X 150 d_MA_run_143 rfl (fun h143 => ?_) (fun h143 => ?_)
                  ·
                    refine ab_aload_n X 2 d_MA_run_150 rfl rfl ?_
                    refine ab_gI X fl_MA_39 d_MA_run_151 (by first | assumption | decide | (show _ < 124; omega) | (show _ < 61; omega) | (show _ < 20; omega)) (rfl) ?_
                    exact ab_reti X hr0 hlk d_MA_run_154 ⟨P1, _, rfl⟩
                  ·
                    refine ab_iconst (v := (-1)) X d_MA_run_146 (by decide) ?_
                    refine ab_goto X 154 d_MA_run_147 rfl ?_
                    exact ab_reti X hr0 hlk d_MA_run_154 ⟨P1, _, rfl⟩
          ·
            refine ab_aload_n X 0 d_MA_run_104 rfl rfl ?_
            refine ab_gI X fl_MA_25 d_MA_run_105 (by first | assumption | decide | (show _ < 124; omega) | (show _ < 61; omega) | (show _ < 20; omega)) (rfl) ?_
            exact ab_reti X hr0 hlk d_MA_run_108 ⟨P1, _, rfl⟩
        ·
          refine ab_aload_n X 0 d_MA_run_23 rfl rfl ?_
          refine ab_gI X fl_MA_28 d_MA_run_24 (by first | assumption | decide | (show _ < 124; omega) | (show _ < 61; omega) | (show _ < 20; omega)) (a1) ?_
          refine ab_aload_n X 1 d_MA_run_27 rfl rfl ?_
          refine ab_gI X fl_MA_39 d_MA_run_28 (by first | assumption | decide | (show _ < 124; omega) | (show _ < 61; omega) | (show _ < 20; omega)) (eo) ?_
          refine ab_icmp_ge X 97 d_MA_run_31 rfl (fun _ => ?_) (fun hb => absurd ((nI_le (by omega) (by omega))) hb)
          refine ab_aload_n X 0 d_MA_run_97 rfl rfl ?_
          refine ab_gI X fl_MA_31 d_MA_run_98 (by first | assumption | decide | (show _ < 124; omega) | (show _ < 61; omega) | (show _ < 20; omega)) (rfl) ?_
          refine ab_if_eq X 109 d_MA_run_101 rfl (fun h101 => ?_) (fun h101 => ?_)
          ·
            refine ab_aload_n X 0 d_MA_run_109 rfl rfl ?_
            refine ab_gI X fl_MA_18 d_MA_run_110 (by first | assumption | decide | (show _ < 124; omega) | (show _ < 61; omega) | (show _ < 20; omega)) (rfl) ?_
            refine ab_iconst (v := 1) X d_MA_run_113 (by decide) ?_
            refine ab_icmp_ne X 138 d_MA_run_114 rfl (fun h114 => ?_) (fun h114 => ?_)
            ·
              refine ab_iconst (v := 0) X d_MA_run_138 (by decide) ?_
              refine ab_istore4 X 0 1 2 3 d_MA_run_139 (by decide) rfl rfl rfl rfl rfl rfl rfl rfl ?_
              refine ab_iload X 0 d_MA_run_141 rfl ?_
              refine ab_if_eq X 150 d_MA_run_143 rfl (fun h143 => ?_) (fun h143 => ?_)
              ·
                refine ab_aload_n X 2 d_MA_run_150 rfl rfl ?_
                refine ab_gI X fl_MA_39 d_MA_run_151 (by first | assumption | decide | (show _ < 124; omega) | (show _ < 61; omega) | (show _ < 20; omega)) (rfl) ?_
                exact ab_reti X hr0 hlk d_MA_run_154 ⟨P1, _, rfl⟩
              ·
                refine ab_iconst (v := (-1)) X d_MA_run_146 (by decide) ?_
                refine ab_goto X 154 d_MA_run_147 rfl ?_
                exact ab_reti X hr0 hlk d_MA_run_154 ⟨P1, _, rfl⟩
            ·
              refine ab_aload_n X 0 d_MA_run_117 rfl rfl ?_
              refine ab_gR X fl_MA_9 d_MA_run_118 (by first | assumption | decide | (show _ < 124; omega) | (show _ < 61; omega) | (show _ < 20; omega)) (P1.1.ma0) ?_
              refine ab_iconst (v := 0) X d_MA_run_121 (by decide) ?_
              refine ab_iald X (0) ⟨rfl, rfl⟩ d_MA_run_122 (by first | assumption | decide | (show _ < 124; omega) | (show _ < 61; omega) | (show _ < 20; omega)) (rfl) (show 0 < 168 by decide) (ab_ln_lt _ _) ?_
              refine ab_iconst (v := 1) X d_MA_run_123 (by decide) ?_
              refine ab_icmp_ne X 138 d_MA_run_124 rfl (fun h124 => ?_) (fun h124 => ?_)
              ·
                refine ab_iconst (v := 0) X d_MA_run_138 (by decide) ?_
                refine ab_istore4 X 0 1 2 3 d_MA_run_139 (by decide) rfl rfl rfl rfl rfl rfl rfl rfl ?_
                refine ab_iload X 0 d_MA_run_141 rfl ?_
                refine ab_if_eq X 150 d_MA_run_143 rfl (fun h143 => ?_) (fun h143 => ?_)
                ·
                  refine ab_aload_n X 2 d_MA_run_150 rfl rfl ?_
                  refine ab_gI X fl_MA_39 d_MA_run_151 (by first | assumption | decide | (show _ < 124; omega) | (show _ < 61; omega) | (show _ < 20; omega)) (rfl) ?_
                  exact ab_reti X hr0 hlk d_MA_run_154 ⟨P1, _, rfl⟩
                ·
                  refine ab_iconst (v := (-1)) X d_MA_run_146 (by decide) ?_
                  refine ab_goto X 154 d_MA_run_147 rfl ?_
                  exact ab_reti X hr0 hlk d_MA_run_154 ⟨P1, _, rfl⟩
              ·
                refine ab_aload_n X 0 d_MA_run_127 rfl rfl ?_
                refine ab_gI X fl_MA_22 d_MA_run_128 (by first | assumption | decide | (show _ < 124; omega) | (show _ < 61; omega) | (show _ < 20; omega)) (rfl) ?_
                refine ab_if_ne X 138 d_MA_run_131 rfl (fun h131 => ?_) (fun h131 => ?_)
                ·
                  refine ab_iconst (v := 0) X d_MA_run_138 (by decide) ?_
                  refine ab_istore4 X 0 1 2 3 d_MA_run_139 (by decide) rfl rfl rfl rfl rfl rfl rfl rfl ?_
                  refine ab_iload X 0 d_MA_run_141 rfl ?_
                  refine ab_if_eq X 150 d_MA_run_143 rfl (fun h143 => ?_) (fun h143 => ?_)
                  ·
                    refine ab_aload_n X 2 d_MA_run_150 rfl rfl ?_
                    refine ab_gI X fl_MA_39 d_MA_run_151 (by first | assumption | decide | (show _ < 124; omega) | (show _ < 61; omega) | (show _ < 20; omega)) (rfl) ?_
                    exact ab_reti X hr0 hlk d_MA_run_154 ⟨P1, _, rfl⟩
                  ·
                    refine ab_iconst (v := (-1)) X d_MA_run_146 (by decide) ?_
                    refine ab_goto X 154 d_MA_run_147 rfl ?_
                    exact ab_reti X hr0 hlk d_MA_run_154 ⟨P1, _, rfl⟩
                ·
                  refine ab_iconst (v := 1) X d_MA_run_134 (by decide) ?_
                  refine ab_goto X 139 d_MA_run_135 rfl ?_
                  refine ab_istore4 X 0 1 2 3 d_MA_run_139 (by decide) rfl rfl rfl rfl rfl rfl rfl rfl ?_
                  refine ab_iload X 0 d_MA_run_141 rfl ?_
                  refine ab_if_eq X 150 d_MA_run_143 rfl (fun h143 => ?_) (fun h143 => ?_)
                  ·
                    refine ab_aload_n X 2 d_MA_run_150 rfl rfl ?_
                    refine ab_gI X fl_MA_39 d_MA_run_151 (by first | assumption | decide | (show _ < 124; omega) | (show _ < 61; omega) | (show _ < 20; omega)) (rfl) ?_
                    exact ab_reti X hr0 hlk d_MA_run_154 ⟨P1, _, rfl⟩
                  ·
                    refine ab_iconst (v := (-1)) X d_MA_run_146 (by decide) ?_
                    refine ab_goto X 154 d_MA_run_147 rfl ?_
                    exact ab_reti X hr0 hlk d_MA_run_154 ⟨P1, _, rfl⟩
          ·
            refine ab_aload_n X 0 d_MA_run_104 rfl rfl ?_
            refine ab_gI X fl_MA_25 d_MA_run_105 (by first | assumption | decide | (show _ < 124; omega) | (show _ < 61; omega) | (show _ < 20; omega)) (rfl) ?_
            exact ab_reti X hr0 hlk d_MA_run_108 ⟨P1, _, rfl⟩
    | succ n ih =>
      intro k u1 hk P1 a1
      obtain ⟨⟨co, hco, eo⟩, -⟩ := P1.1.scr
      obtain ⟨-, -, a, ha, ea⟩ := P1.1.ma
      refine ab_aload_n X 0 d_MA_run_5 rfl rfl ?_
      refine ab_gI X fl_MA_31 d_MA_run_6 (by first | assumption | decide | (show _ < 124; omega) | (show _ < 61; omega) | (show _ < 20; omega)) (rfl) ?_
      refine ab_if_ne X 97 d_MA_run_9 rfl (fun h9 => ?_) (fun h9 => ?_)
      ·
        refine ab_aload_n X 0 d_MA_run_97 rfl rfl ?_
        refine ab_gI X fl_MA_31 d_MA_run_98 (by first | assumption | decide | (show _ < 124; omega) | (show _ < 61; omega) | (show _ < 20; omega)) (rfl) ?_
        refine ab_if_eq X 109 d_MA_run_101 rfl (fun h101 => ?_) (fun h101 => ?_)
        ·
          refine ab_aload_n X 0 d_MA_run_109 rfl rfl ?_
          refine ab_gI X fl_MA_18 d_MA_run_110 (by first | assumption | decide | (show _ < 124; omega) | (show _ < 61; omega) | (show _ < 20; omega)) (rfl) ?_
          refine ab_iconst (v := 1) X d_MA_run_113 (by decide) ?_
          refine ab_icmp_ne X 138 d_MA_run_114 rfl (fun h114 => ?_) (fun h114 => ?_)
          ·
            refine ab_iconst (v := 0) X d_MA_run_138 (by decide) ?_
            refine ab_istore4 X 0 1 2 3 d_MA_run_139 (by decide) rfl rfl rfl rfl rfl rfl rfl rfl ?_
            refine ab_iload X 0 d_MA_run_141 rfl ?_
            refine ab_if_eq X 150 d_MA_run_143 rfl (fun h143 => ?_) (fun h143 => ?_)
            ·
              refine ab_aload_n X 2 d_MA_run_150 rfl rfl ?_
              refine ab_gI X fl_MA_39 d_MA_run_151 (by first | assumption | decide | (show _ < 124; omega) | (show _ < 61; omega) | (show _ < 20; omega)) (rfl) ?_
              exact ab_reti X hr0 hlk d_MA_run_154 ⟨P1, _, rfl⟩
            ·
              refine ab_iconst (v := (-1)) X d_MA_run_146 (by decide) ?_
              refine ab_goto X 154 d_MA_run_147 rfl ?_
              exact ab_reti X hr0 hlk d_MA_run_154 ⟨P1, _, rfl⟩
          ·
            refine ab_aload_n X 0 d_MA_run_117 rfl rfl ?_
            refine ab_gR X fl_MA_9 d_MA_run_118 (by first | assumption | decide | (show _ < 124; omega) | (show _ < 61; omega) | (show _ < 20; omega)) (P1.1.ma0) ?_
            refine ab_iconst (v := 0) X d_MA_run_121 (by decide) ?_
            refine ab_iald X (0) ⟨rfl, rfl⟩ d_MA_run_122 (by first | assumption | decide | (show _ < 124; omega) | (show _ < 61; omega) | (show _ < 20; omega)) (rfl) (show 0 < 168 by decide) (ab_ln_lt _ _) ?_
            refine ab_iconst (v := 1) X d_MA_run_123 (by decide) ?_
            refine ab_icmp_ne X 138 d_MA_run_124 rfl (fun h124 => ?_) (fun h124 => ?_)
            ·
              refine ab_iconst (v := 0) X d_MA_run_138 (by decide) ?_
              refine ab_istore4 X 0 1 2 3 d_MA_run_139 (by decide) rfl rfl rfl rfl rfl rfl rfl rfl ?_
              refine ab_iload X 0 d_MA_run_141 rfl ?_
              refine ab_if_eq X 150 d_MA_run_143 rfl (fun h143 => ?_) (fun h143 => ?_)
              ·
                refine ab_aload_n X 2 d_MA_run_150 rfl rfl ?_
                refine ab_gI X fl_MA_39 d_MA_run_151 (by first | assumption | decide | (show _ < 124; omega) | (show _ < 61; omega) | (show _ < 20; omega)) (rfl) ?_
                exact ab_reti X hr0 hlk d_MA_run_154 ⟨P1, _, rfl⟩
              ·
                refine ab_iconst (v := (-1)) X d_MA_run_146 (by decide) ?_
                refine ab_goto X 154 d_MA_run_147 rfl ?_
                exact ab_reti X hr0 hlk d_MA_run_154 ⟨P1, _, rfl⟩
            ·
              refine ab_aload_n X 0 d_MA_run_127 rfl rfl ?_
              refine ab_gI X fl_MA_22 d_MA_run_128 (by first | assumption | decide | (show _ < 124; omega) | (show _ < 61; omega) | (show _ < 20; omega)) (rfl) ?_
              refine ab_if_ne X 138 d_MA_run_131 rfl (fun h131 => ?_) (fun h131 => ?_)
              ·
                refine ab_iconst (v := 0) X d_MA_run_138 (by decide) ?_
                refine ab_istore4 X 0 1 2 3 d_MA_run_139 (by decide) rfl rfl rfl rfl rfl rfl rfl rfl ?_
                refine ab_iload X 0 d_MA_run_141 rfl ?_
                refine ab_if_eq X 150 d_MA_run_143 rfl (fun h143 => ?_) (fun h143 => ?_)
                ·
                  refine ab_aload_n X 2 d_MA_run_150 rfl rfl ?_
                  refine ab_gI X fl_MA_39 d_MA_run_151 (by first | assumption | decide | (show _ < 124; omega) | (show _ < 61; omega) | (show _ < 20; omega)) (rfl) ?_
                  exact ab_reti X hr0 hlk d_MA_run_154 ⟨P1, _, rfl⟩
                ·
                  refine ab_iconst (v := (-1)) X d_MA_run_146 (by decide) ?_
                  refine ab_goto X 154 d_MA_run_147 rfl ?_
                  exact ab_reti X hr0 hlk d_MA_run_154 ⟨P1, _, rfl⟩
              ·
                refine ab_iconst (v := 1) X d_MA_run_134 (by decide) ?_
                refine ab_goto X 139 d_MA_run_135 rfl ?_
                refine ab_istore4 X 0 1 2 3 d_MA_run_139 (by decide) rfl rfl rfl rfl rfl rfl rfl rfl ?_
                refine ab_iload X 0 d_MA_run_141 rfl ?_
                refine ab_if_eq X 150 d_MA_run_143 rfl (fun h143 => ?_) (fun h143 => ?_)
                ·
                  refine ab_aload_n X 2 d_MA_run_150 rfl rfl ?_
                  refine ab_gI X fl_MA_39 d_MA_run_151 (by first | assumption | decide | (show _ < 124; omega) | (show _ < 61; omega) | (show _ < 20; omega)) (rfl) ?_
                  exact ab_reti X hr0 hlk d_MA_run_154 ⟨P1, _, rfl⟩
                ·
                  refine ab_iconst (v := (-1)) X d_MA_run_146 (by decide) ?_
                  refine ab_goto X 154 d_MA_run_147 rfl ?_
                  exact ab_reti X hr0 hlk d_MA_run_154 ⟨P1, _, rfl⟩
        ·
          refine ab_aload_n X 0 d_MA_run_104 rfl rfl ?_
          refine ab_gI X fl_MA_25 d_MA_run_105 (by first | assumption | decide | (show _ < 124; omega) | (show _ < 61; omega) | (show _ < 20; omega)) (rfl) ?_
          exact ab_reti X hr0 hlk d_MA_run_108 ⟨P1, _, rfl⟩
      ·
        refine ab_aload_n X 0 d_MA_run_12 rfl rfl ?_
        refine ab_gI X fl_MA_25 d_MA_run_13 (by first | assumption | decide | (show _ < 124; omega) | (show _ < 61; omega) | (show _ < 20; omega)) (ea) ?_
        refine ab_aload_n X 1 d_MA_run_16 rfl rfl ?_
        refine ab_gI X fl_MA_39 d_MA_run_17 (by first | assumption | decide | (show _ < 124; omega) | (show _ < 61; omega) | (show _ < 20; omega)) (eo) ?_
        refine ab_icmp_ge X 97 d_MA_run_20 rfl (fun h20 => ?_) (fun h20 => ?_)
        ·
          refine ab_aload_n X 0 d_MA_run_97 rfl rfl ?_
          refine ab_gI X fl_MA_31 d_MA_run_98 (by first | assumption | decide | (show _ < 124; omega) | (show _ < 61; omega) | (show _ < 20; omega)) (rfl) ?_
          refine ab_if_eq X 109 d_MA_run_101 rfl (fun h101 => ?_) (fun h101 => ?_)
          ·
            refine ab_aload_n X 0 d_MA_run_109 rfl rfl ?_
            refine ab_gI X fl_MA_18 d_MA_run_110 (by first | assumption | decide | (show _ < 124; omega) | (show _ < 61; omega) | (show _ < 20; omega)) (rfl) ?_
            refine ab_iconst (v := 1) X d_MA_run_113 (by decide) ?_
            refine ab_icmp_ne X 138 d_MA_run_114 rfl (fun h114 => ?_) (fun h114 => ?_)
            ·
              refine ab_iconst (v := 0) X d_MA_run_138 (by decide) ?_
              refine ab_istore4 X 0 1 2 3 d_MA_run_139 (by decide) rfl rfl rfl rfl rfl rfl rfl rfl ?_
              refine ab_iload X 0 d_MA_run_141 rfl ?_
              refine ab_if_eq X 150 d_MA_run_143 rfl (fun h143 => ?_) (fun h143 => ?_)
              ·
                refine ab_aload_n X 2 d_MA_run_150 rfl rfl ?_
                refine ab_gI X fl_MA_39 d_MA_run_151 (by first | assumption | decide | (show _ < 124; omega) | (show _ < 61; omega) | (show _ < 20; omega)) (rfl) ?_
                exact ab_reti X hr0 hlk d_MA_run_154 ⟨P1, _, rfl⟩
              ·
                refine ab_iconst (v := (-1)) X d_MA_run_146 (by decide) ?_
                refine ab_goto X 154 d_MA_run_147 rfl ?_
                exact ab_reti X hr0 hlk d_MA_run_154 ⟨P1, _, rfl⟩
            ·
              refine ab_aload_n X 0 d_MA_run_117 rfl rfl ?_
              refine ab_gR X fl_MA_9 d_MA_run_118 (by first | assumption | decide | (show _ < 124; omega) | (show _ < 61; omega) | (show _ < 20; omega)) (P1.1.ma0) ?_
              refine ab_iconst (v := 0) X d_MA_run_121 (by decide) ?_
              refine ab_iald X (0) ⟨rfl, rfl⟩ d_MA_run_122 (by first | assumption | decide | (show _ < 124; omega) | (show _ < 61; omega) | (show _ < 20; omega)) (rfl) (show 0 < 168 by decide) (ab_ln_lt _ _) ?_
              refine ab_iconst (v := 1) X d_MA_run_123 (by decide) ?_
              refine ab_icmp_ne X 138 d_MA_run_124 rfl (fun h124 => ?_) (fun h124 => ?_)
              ·
                refine ab_iconst (v := 0) X d_MA_run_138 (by decide) ?_
                refine ab_istore4 X 0 1 2 3 d_MA_run_139 (by decide) rfl rfl rfl rfl rfl rfl rfl rfl ?_
                refine ab_iload X 0 d_MA_run_141 rfl ?_
                refine ab_if_eq X 150 d_MA_run_143 rfl (fun h143 => ?_) (fun h143 => ?_)
                ·
                  refine ab_aload_n X 2 d_MA_run_150 rfl rfl ?_
                  refine ab_gI X fl_MA_39 d_MA_run_151 (by first | assumption | decide | (show _ < 124; omega) | (show _ < 61; omega) | (show _ < 20; omega)) (rfl) ?_
                  exact ab_reti X hr0 hlk d_MA_run_154 ⟨P1, _, rfl⟩
                ·
                  refine ab_iconst (v := (-1)) X d_MA_run_146 (by decide) ?_
                  refine ab_goto X 154 d_MA_run_147 rfl ?_
                  exact ab_reti X hr0 hlk d_MA_run_154 ⟨P1, _, rfl⟩
              ·
                refine ab_aload_n X 0 d_MA_run_127 rfl rfl ?_
                refine ab_gI X fl_MA_22 d_MA_run_128 (by first | assumption | decide | (show _ < 124; omega) | (show _ < 61; omega) | (show _ < 20; omega)) (rfl) ?_
                refine ab_if_ne X 138 d_MA_run_131 rfl (fun h131 => ?_) (fun h131 => ?_)
                ·
                  refine ab_iconst (v := 0) X d_MA_run_138 (by decide) ?_
                  refine ab_istore4 X 0 1 2 3 d_MA_run_139 (by decide) rfl rfl rfl rfl rfl rfl rfl rfl ?_
                  refine ab_iload X 0 d_MA_run_141 rfl ?_
                  refine ab_if_eq X 150 d_MA_run_143 rfl (fun h143 => ?_) (fun h143 => ?_)
                  ·
                    refine ab_aload_n X 2 d_MA_run_150 rfl rfl ?_
                    refine ab_gI X fl_MA_39 d_MA_run_151 (by first | assumption | decide | (show _ < 124; omega) | (show _ < 61; omega) | (show _ < 20; omega)) (rfl) ?_
                    exact ab_reti X hr0 hlk d_MA_run_154 ⟨P1, _, rfl⟩
                  ·
                    refine ab_iconst (v := (-1)) X d_MA_run_146 (by decide) ?_
                    refine ab_goto X 154 d_MA_run_147 rfl ?_
                    exact ab_reti X hr0 hlk d_MA_run_154 ⟨P1, _, rfl⟩
                ·
                  refine ab_iconst (v := 1) X d_MA_run_134 (by decide) ?_
                  refine ab_goto X 139 d_MA_run_135 rfl ?_
                  refine ab_istore4 X 0 1 2 3 d_MA_run_139 (by decide) rfl rfl rfl rfl rfl rfl rfl rfl ?_
                  refine ab_iload X 0 d_MA_run_141 rfl ?_
                  refine ab_if_eq X 150 d_MA_run_143 rfl (fun h143 => ?_) (fun h143 => ?_)
                  ·
                    refine ab_aload_n X 2 d_MA_run_150 rfl rfl ?_
                    refine ab_gI X fl_MA_39 d_MA_run_151 (by first | assumption | decide | (show _ < 124; omega) | (show _ < 61; omega) | (show _ < 20; omega)) (rfl) ?_
                    exact ab_reti X hr0 hlk d_MA_run_154 ⟨P1, _, rfl⟩
                  ·
                    refine ab_iconst (v := (-1)) X d_MA_run_146 (by decide) ?_
                    refine ab_goto X 154 d_MA_run_147 rfl ?_
                    exact ab_reti X hr0 hlk d_MA_run_154 ⟨P1, _, rfl⟩
          ·
            refine ab_aload_n X 0 d_MA_run_104 rfl rfl ?_
            refine ab_gI X fl_MA_25 d_MA_run_105 (by first | assumption | decide | (show _ < 124; omega) | (show _ < 61; omega) | (show _ < 20; omega)) (rfl) ?_
            exact ab_reti X hr0 hlk d_MA_run_108 ⟨P1, _, rfl⟩
        ·
          have ha1 := nI_lt_of h20 (by omega)
          refine ab_aload_n X 0 d_MA_run_23 rfl rfl ?_
          refine ab_gI X fl_MA_28 d_MA_run_24 (by first | assumption | decide | (show _ < 124; omega) | (show _ < 61; omega) | (show _ < 20; omega)) (a1) ?_
          refine ab_aload_n X 1 d_MA_run_27 rfl rfl ?_
          refine ab_gI X fl_MA_39 d_MA_run_28 (by first | assumption | decide | (show _ < 124; omega) | (show _ < 61; omega) | (show _ < 20; omega)) (eo) ?_
          refine ab_icmp_ge X 97 d_MA_run_31 rfl (fun h31 => ?_) (fun h31 => ?_)
          ·
            refine ab_aload_n X 0 d_MA_run_97 rfl rfl ?_
            refine ab_gI X fl_MA_31 d_MA_run_98 (by first | assumption | decide | (show _ < 124; omega) | (show _ < 61; omega) | (show _ < 20; omega)) (rfl) ?_
            refine ab_if_eq X 109 d_MA_run_101 rfl (fun h101 => ?_) (fun h101 => ?_)
            ·
              refine ab_aload_n X 0 d_MA_run_109 rfl rfl ?_
              refine ab_gI X fl_MA_18 d_MA_run_110 (by first | assumption | decide | (show _ < 124; omega) | (show _ < 61; omega) | (show _ < 20; omega)) (rfl) ?_
              refine ab_iconst (v := 1) X d_MA_run_113 (by decide) ?_
              refine ab_icmp_ne X 138 d_MA_run_114 rfl (fun h114 => ?_) (fun h114 => ?_)
              ·
                refine ab_iconst (v := 0) X d_MA_run_138 (by decide) ?_
                refine ab_istore4 X 0 1 2 3 d_MA_run_139 (by decide) rfl rfl rfl rfl rfl rfl rfl rfl ?_
                refine ab_iload X 0 d_MA_run_141 rfl ?_
                refine ab_if_eq X 150 d_MA_run_143 rfl (fun h143 => ?_) (fun h143 => ?_)
                ·
                  refine ab_aload_n X 2 d_MA_run_150 rfl rfl ?_
                  refine ab_gI X fl_MA_39 d_MA_run_151 (by first | assumption | decide | (show _ < 124; omega) | (show _ < 61; omega) | (show _ < 20; omega)) (rfl) ?_
                  exact ab_reti X hr0 hlk d_MA_run_154 ⟨P1, _, rfl⟩
                ·
                  refine ab_iconst (v := (-1)) X d_MA_run_146 (by decide) ?_
                  refine ab_goto X 154 d_MA_run_147 rfl ?_
                  exact ab_reti X hr0 hlk d_MA_run_154 ⟨P1, _, rfl⟩
              ·
                refine ab_aload_n X 0 d_MA_run_117 rfl rfl ?_
                refine ab_gR X fl_MA_9 d_MA_run_118 (by first | assumption | decide | (show _ < 124; omega) | (show _ < 61; omega) | (show _ < 20; omega)) (P1.1.ma0) ?_
                refine ab_iconst (v := 0) X d_MA_run_121 (by decide) ?_
                refine ab_iald X (0) ⟨rfl, rfl⟩ d_MA_run_122 (by first | assumption | decide | (show _ < 124; omega) | (show _ < 61; omega) | (show _ < 20; omega)) (rfl) (show 0 < 168 by decide) (ab_ln_lt _ _) ?_
                refine ab_iconst (v := 1) X d_MA_run_123 (by decide) ?_
                refine ab_icmp_ne X 138 d_MA_run_124 rfl (fun h124 => ?_) (fun h124 => ?_)
                ·
                  refine ab_iconst (v := 0) X d_MA_run_138 (by decide) ?_
                  refine ab_istore4 X 0 1 2 3 d_MA_run_139 (by decide) rfl rfl rfl rfl rfl rfl rfl rfl ?_
                  refine ab_iload X 0 d_MA_run_141 rfl ?_
                  refine ab_if_eq X 150 d_MA_run_143 rfl (fun h143 => ?_) (fun h143 => ?_)
                  ·
                    refine ab_aload_n X 2 d_MA_run_150 rfl rfl ?_
                    refine ab_gI X fl_MA_39 d_MA_run_151 (by first | assumption | decide | (show _ < 124; omega) | (show _ < 61; omega) | (show _ < 20; omega)) (rfl) ?_
                    exact ab_reti X hr0 hlk d_MA_run_154 ⟨P1, _, rfl⟩
                  ·
                    refine ab_iconst (v := (-1)) X d_MA_run_146 (by decide) ?_
                    refine ab_goto X 154 d_MA_run_147 rfl ?_
                    exact ab_reti X hr0 hlk d_MA_run_154 ⟨P1, _, rfl⟩
                ·
                  refine ab_aload_n X 0 d_MA_run_127 rfl rfl ?_
                  refine ab_gI X fl_MA_22 d_MA_run_128 (by first | assumption | decide | (show _ < 124; omega) | (show _ < 61; omega) | (show _ < 20; omega)) (rfl) ?_
                  refine ab_if_ne X 138 d_MA_run_131 rfl (fun h131 => ?_) (fun h131 => ?_)
                  ·
                    refine ab_iconst (v := 0) X d_MA_run_138 (by decide) ?_
                    refine ab_istore4 X 0 1 2 3 d_MA_run_139 (by decide) rfl rfl rfl rfl rfl rfl rfl rfl ?_
                    refine ab_iload X 0 d_MA_run_141 rfl ?_
                    refine ab_if_eq X 150 d_MA_run_143 rfl (fun h143 => ?_) (fun h143 => ?_)
                    ·
                      refine ab_aload_n X 2 d_MA_run_150 rfl rfl ?_
                      refine ab_gI X fl_MA_39 d_MA_run_151 (by first | assumption | decide | (show _ < 124; omega) | (show _ < 61; omega) | (show _ < 20; omega)) (rfl) ?_
                      exact ab_reti X hr0 hlk d_MA_run_154 ⟨P1, _, rfl⟩
                    ·
                      refine ab_iconst (v := (-1)) X d_MA_run_146 (by decide) ?_
                      refine ab_goto X 154 d_MA_run_147 rfl ?_
                      exact ab_reti X hr0 hlk d_MA_run_154 ⟨P1, _, rfl⟩
                  ·
                    refine ab_iconst (v := 1) X d_MA_run_134 (by decide) ?_
                    refine ab_goto X 139 d_MA_run_135 rfl ?_
                    refine ab_istore4 X 0 1 2 3 d_MA_run_139 (by decide) rfl rfl rfl rfl rfl rfl rfl rfl ?_
                    refine ab_iload X 0 d_MA_run_141 rfl ?_
                    refine ab_if_eq X 150 d_MA_run_143 rfl (fun h143 => ?_) (fun h143 => ?_)
                    ·
                      refine ab_aload_n X 2 d_MA_run_150 rfl rfl ?_
                      refine ab_gI X fl_MA_39 d_MA_run_151 (by first | assumption | decide | (show _ < 124; omega) | (show _ < 61; omega) | (show _ < 20; omega)) (rfl) ?_
                      exact ab_reti X hr0 hlk d_MA_run_154 ⟨P1, _, rfl⟩
                    ·
                      refine ab_iconst (v := (-1)) X d_MA_run_146 (by decide) ?_
                      refine ab_goto X 154 d_MA_run_147 rfl ?_
                      exact ab_reti X hr0 hlk d_MA_run_154 ⟨P1, _, rfl⟩
            ·
              refine ab_aload_n X 0 d_MA_run_104 rfl rfl ?_
              refine ab_gI X fl_MA_25 d_MA_run_105 (by first | assumption | decide | (show _ < 124; omega) | (show _ < 61; omega) | (show _ < 20; omega)) (rfl) ?_
              exact ab_reti X hr0 hlk d_MA_run_108 ⟨P1, _, rfl⟩
          ·
            have hk1 := nI_lt_of h31 (by omega)
            refine ab_aload_n X 1 d_MA_run_34 rfl rfl ?_
            refine ab_gR X fl_MA_44 d_MA_run_35 (by first | assumption | decide | (show _ < 124; omega) | (show _ < 61; omega) | (show _ < 20; omega)) (P1.1.sc0) ?_
            refine ab_aload_n X 0 d_MA_run_38 rfl rfl ?_
            refine ab_gI X fl_MA_25 d_MA_run_39 (by first | assumption | decide | (show _ < 124; omega) | (show _ < 61; omega) | (show _ < 20; omega)) (ea) ?_
            refine ab_iald X (a) ⟨rfl, rfl⟩ d_MA_run_42 (by first | assumption | decide | (show _ < 124; omega) | (show _ < 61; omega) | (show _ < 20; omega)) (rfl) (show a < 128 by omega) (ab_ln_lt _ _) ?_
            refine ab_istore4 X 0 1 2 3 d_MA_run_43 (by decide) rfl rfl rfl rfl rfl rfl rfl rfl ?_
            refine ab_aload_n X 1 d_MA_run_45 rfl rfl ?_
            refine ab_dup X d_MA_run_46 rfl ?_
            refine ab_gI X fl_MA_28 d_MA_run_47 (by first | assumption | decide | (show _ < 124; omega) | (show _ < 61; omega) | (show _ < 20; omega)) (a1) ?_
            refine ab_iconst (v := 1) X d_MA_run_50 (by decide) ?_
            refine ab_iadd X d_MA_run_51 ?_
            refine ab_top (nI_1 _) ?_
            refine ab_putI X fp_MA_28 d_MA_run_52 (by first | assumption | decide | (show _ < 124; omega) | (show _ < 61; omega) | (show _ < 20; omega)) rfl rfl ?_
            refine ab_gen (fun u52 e52 => ?_)
            have P52 : cP [7, 15, 16] u u52 := by rw [e52]; exact P1.ui rfl (by decide)
            have hat : ∃ n, n < 128 ∧ u52.1 7 0 4 = nI n := ⟨a, by omega, by rw [e52]; simpa [ab_up] using ea⟩
            refine ab_aload_n X 1 d_MA_run_55 rfl rfl ?_
            refine ab_iload X 0 d_MA_run_56 rfl ?_
            refine ab_sipush (v := 1000) X d_MA_run_58 (by decide) ?_
            refine ab_idiv X d_MA_run_61 (by decide) ?_
            refine ab_iload X 0 d_MA_run_62 rfl ?_
            refine ab_sipush (v := 1000) X d_MA_run_64 (by decide) ?_
            refine ab_irem X d_MA_run_67 (by decide) ?_
            refine ab_aload_n X 2 d_MA_run_68 rfl rfl ?_
            refine ab_aload_n X 4 d_MA_run_69 rfl rfl ?_
            refine ab_callV (as := [ab_I _, ab_I _, ab_O 5 0, ab_O 6 0]) X (fun h => by cases h) (s_MA_step u52 _ _ P52.1 hat) lk_MA_47 d_MA_run_70 rfl rfl (by first | assumption | decide | (show _ < 124; omega) | (show _ < 61; omega) | (show _ < 20; omega)) ⟨by first | exact Nat.le_of_ble_eq_true rfl | (simp only [ab_rm]; omega), by first | exact Nat.le_of_ble_eq_true rfl | (simp only [ab_rm]; omega)⟩ ⟨by first | exact Nat.le_of_ble_eq_true rfl | (simp only [ab_rm]; omega), by first | exact Nat.le_of_ble_eq_true rfl | (simp only [ab_rm]; omega)⟩ (Nat.le_of_ble_eq_true rfl) (fun u70 r70 h70 => ?_)
            obtain ⟨m70, rfl⟩ := h70
            have q70 := m70.c
            have P70 := P52.trans q70 (by decide)
            obtain ⟨t, ht, et⟩ := m70.2.2.2 hat
            refine ab_aload_n X 1 d_MA_run_73 rfl rfl ?_
            refine ab_dup X d_MA_run_74 rfl ?_
            refine ab_gI X fl_MA_25 d_MA_run_75 (by first | assumption | decide | (show _ < 124; omega) | (show _ < 61; omega) | (show _ < 20; omega)) (et) ?_
            refine ab_aload_n X 1 d_MA_run_78 rfl rfl ?_
            refine ab_gI X fl_MA_31 d_MA_run_79 (by first | assumption | decide | (show _ < 124; omega) | (show _ < 61; omega) | (show _ < 20; omega)) (rfl) ?_
            refine ab_if_eq X 89 d_MA_run_82 rfl (fun h82 => ?_) (fun h82 => ?_)
            ·
              refine ab_iconst (v := 1) X d_MA_run_89 (by decide) ?_
              refine ab_iadd X d_MA_run_90 ?_
              first | refine ab_top (nI_1 _) ?_ | refine ab_top (Int32.add_zero _) ?_
              refine ab_putI X fp_MA_25 d_MA_run_91 (by first | assumption | decide | (show _ < 124; omega) | (show _ < 61; omega) | (show _ < 20; omega)) rfl rfl ?_
              refine ab_gen (fun u91 e91 => ?_)
              have P91 : cP [7, 15, 16] u u91 := by rw [e91]; exact P70.m4 (by decide) (by omega)
              refine ab_goto X 5 d_MA_run_94 rfl ?_
              refine ab_lv (List.forall_mem_cons.mpr ⟨List.mem_of_getElem? (i := 1) rfl, List.forall_mem_cons.mpr ⟨List.mem_of_getElem? (i := 2) rfl, List.forall_mem_cons.mpr ⟨List.mem_of_getElem? (i := 3) rfl, List.forall_mem_cons.mpr ⟨List.mem_of_getElem? (i := 4) rfl, fun _ h => absurd h List.not_mem_nil⟩⟩⟩⟩) ?_
              exact ih (k + 1) _ (by omega) P91 (by rw [e91]; exact (ui_n _ (by omega)).trans (m70.2.2.1.trans (by rw [e52]; exact ui_s _)))
            ·
              refine ab_iconst (v := 0) X d_MA_run_85 (by decide) ?_
              refine ab_goto X 90 d_MA_run_86 rfl ?_
              refine ab_iadd X d_MA_run_90 ?_
              first | refine ab_top (nI_1 _) ?_ | refine ab_top (Int32.add_zero _) ?_
              refine ab_putI X fp_MA_25 d_MA_run_91 (by first | assumption | decide | (show _ < 124; omega) | (show _ < 61; omega) | (show _ < 20; omega)) rfl rfl ?_
              refine ab_gen (fun u91 e91 => ?_)
              have P91 : cP [7, 15, 16] u u91 := by rw [e91]; exact P70.m4 (by decide) (by omega)
              refine ab_goto X 5 d_MA_run_94 rfl ?_
              refine ab_lv (List.forall_mem_cons.mpr ⟨List.mem_of_getElem? (i := 1) rfl, List.forall_mem_cons.mpr ⟨List.mem_of_getElem? (i := 2) rfl, List.forall_mem_cons.mpr ⟨List.mem_of_getElem? (i := 3) rfl, List.forall_mem_cons.mpr ⟨List.mem_of_getElem? (i := 4) rfl, fun _ h => absurd h List.not_mem_nil⟩⟩⟩⟩) ?_
              exact ih (k + 1) _ (by omega) P91 (by rw [e91]; exact (ui_n _ (by omega)).trans (m70.2.2.1.trans (by rw [e52]; exact ui_s _)))
  refine ab_aload_n X 0 d_MA_run_0 rfl rfl ?_
  refine ab_aload_n X 2 d_MA_run_1 rfl rfl ?_
  refine ab_callV (as := [ab_O 4 r]) X (fun h => by cases h) (s_MA_load u r h hr) lk_MA_35 d_MA_run_2 rfl rfl (by first | assumption | decide | (show _ < 124; omega) | (show _ < 61; omega) | (show _ < 20; omega)) ⟨by first | exact Nat.le_of_ble_eq_true rfl | (simp only [ab_rm]; omega), by first | exact Nat.le_of_ble_eq_true rfl | (simp only [ab_rm]; omega)⟩ ⟨by first | exact Nat.le_of_ble_eq_true rfl | (simp only [ab_rm]; omega), by first | exact Nat.le_of_ble_eq_true rfl | (simp only [ab_rm]; omega)⟩ (Nat.le_of_ble_eq_true rfl) (fun u2 r2 h2 => ?_)
  obtain ⟨⟨q2, a2⟩, rfl⟩ := h2
  have P2 := P0.trans q2 (by decide)
  exact loop 129 0 _ rfl P2 a2
end SaMach

