/-! The reader: every call comes to its end. -/
section SaRead
variable {l : Launch} {D : va_G} {ca : Nat → ClassId}
abbrev b_RD_isHere : ByteArray := prog_6_method_12_code
def y_RD_isHere : MethodName := ⟨"PolicyForge$Reader", "isHere", "(C)Z"⟩
theorem d_RD_isHere_0 : decode b_RD_isHere 0 = .ok (.aload_n 0, 1) := by decide +kernel
theorem d_RD_isHere_1 : decode b_RD_isHere 1 = .ok (.getfield 30, 3) := by decide +kernel
theorem d_RD_isHere_4 : decode b_RD_isHere 4 = .ok (.aload_n 0, 1) := by decide +kernel
theorem d_RD_isHere_5 : decode b_RD_isHere 5 = .ok (.getfield 26, 3) := by decide +kernel
theorem d_RD_isHere_8 : decode b_RD_isHere 8 = .ok (.if_icmp .ge 20, 3) := by decide +kernel
theorem d_RD_isHere_11 : decode b_RD_isHere 11 = .ok (.aload_n 0, 1) := by decide +kernel
theorem d_RD_isHere_12 : decode b_RD_isHere 12 = .ok (.getfield 9, 3) := by decide +kernel
theorem d_RD_isHere_15 : decode b_RD_isHere 15 = .ok (.aload_n 0, 1) := by decide +kernel
theorem d_RD_isHere_16 : decode b_RD_isHere 16 = .ok (.getfield 30, 3) := by decide +kernel
theorem d_RD_isHere_19 : decode b_RD_isHere 19 = .ok (.iaload, 1) := by decide +kernel
theorem d_RD_isHere_20 : decode b_RD_isHere 20 = .ok (.iload_n 1, 1) := by decide +kernel
theorem d_RD_isHere_21 : decode b_RD_isHere 21 = .ok (.if_icmp .ne 7, 3) := by decide +kernel
theorem d_RD_isHere_24 : decode b_RD_isHere 24 = .ok (.iconst 1, 1) := by decide +kernel
theorem d_RD_isHere_25 : decode b_RD_isHere 25 = .ok (.goto 4, 3) := by decide +kernel
theorem d_RD_isHere_28 : decode b_RD_isHere 28 = .ok (.iconst 0, 1) := by decide +kernel
theorem d_RD_isHere_29 : decode b_RD_isHere 29 = .ok (.ireturn, 1) := by decide +kernel
set_option maxRecDepth 100000 in
set_option maxHeartbeats 1000000 in
theorem t_RD_isHere (u : ab_S) (x : Int32) (h : CI u) : ab_C false l D ca y_RD_isHere b_RD_isHere 2 (some FieldType.boolean) 0 ab_nQ u [ab_O 1 0, ab_I x] (fun u' v => u' = u ∧ ∃ b : Int32, (b = 0 ∨ (b = 1 ∧ u.1 1 0 4 < u.1 1 0 3)) ∧ v = some (ab_I b)) := by
  refine ab_C.of (by decide) (Nat.le_of_ble_eq_true rfl) ?_
  intro p e s m args below meth c ad X hZ hr0 hlk
  have P0 : cP [1, 2, 10] u u := cQ.rf h
  obtain ⟨⟨L, hL, eL⟩, ⟨a, ha, ea⟩, -⟩ := h.rd
  refine ab_aload_n X 0 d_RD_isHere_0 rfl rfl ?_
  refine ab_gI X fl_RD_30 d_RD_isHere_1 (by first | assumption | decide | (show _ < 124; omega) | (show _ < 61; omega) | (show _ < 20; omega)) (rfl) ?_
  refine ab_aload_n X 0 d_RD_isHere_4 rfl rfl ?_
  refine ab_gI X fl_RD_26 d_RD_isHere_5 (by first | assumption | decide | (show _ < 124; omega) | (show _ < 61; omega) | (show _ < 20; omega)) (rfl) ?_
  refine ab_icmp_ge X 28 d_RD_isHere_8 rfl (fun h8 => ?_) (fun h8 => ?_)
  ·
    refine ab_iconst (v := 0) X d_RD_isHere_28 (by decide) ?_
    exact ab_retz X hr0 hlk (by first | exact Or.inl rfl | exact Or.inr rfl) d_RD_isHere_29 ⟨rfl, _, by first | exact Or.inl rfl | exact Or.inr ⟨rfl, hlt⟩, rfl⟩
  ·
    have hlt := Int32.not_le.mp h8
    refine ab_aload_n X 0 d_RD_isHere_11 rfl rfl ?_
    refine ab_gR X fl_RD_9 d_RD_isHere_12 (by first | assumption | decide | (show _ < 124; omega) | (show _ < 61; omega) | (show _ < 20; omega)) (P0.1.rd0) ?_
    refine ab_aload_n X 0 d_RD_isHere_15 rfl rfl ?_
    refine ab_gI X fl_RD_30 d_RD_isHere_16 (by first | assumption | decide | (show _ < 124; omega) | (show _ < 61; omega) | (show _ < 20; omega)) (rfl) ?_
    refine ab_iald X (a) ⟨rfl, rfl⟩ d_RD_isHere_19 (by first | assumption | decide | (show _ < 124; omega) | (show _ < 61; omega) | (show _ < 20; omega)) (ea) (show a < 120 by omega) (ab_ln_lt _ _) ?_
    refine ab_iload_n X 1 d_RD_isHere_20 rfl rfl ?_
    refine ab_icmp_ne X 28 d_RD_isHere_21 rfl (fun h21 => ?_) (fun h21 => ?_)
    ·
      refine ab_iconst (v := 0) X d_RD_isHere_28 (by decide) ?_
      exact ab_retz X hr0 hlk (by first | exact Or.inl rfl | exact Or.inr rfl) d_RD_isHere_29 ⟨rfl, _, by first | exact Or.inl rfl | exact Or.inr ⟨rfl, hlt⟩, rfl⟩
    ·
      refine ab_iconst (v := 1) X d_RD_isHere_24 (by decide) ?_
      refine ab_goto X 29 d_RD_isHere_25 rfl ?_
      exact ab_retz X hr0 hlk (by first | exact Or.inl rfl | exact Or.inr rfl) d_RD_isHere_29 ⟨rfl, _, by first | exact Or.inl rfl | exact Or.inr ⟨rfl, hlt⟩, rfl⟩
abbrev b_RD_expect : ByteArray := prog_6_method_13_code
def y_RD_expect : MethodName := ⟨"PolicyForge$Reader", "expect", "(C)Z"⟩
theorem d_RD_expect_0 : decode b_RD_expect 0 = .ok (.aload_n 0, 1) := by decide +kernel
theorem d_RD_expect_1 : decode b_RD_expect 1 = .ok (.iload_n 1, 1) := by decide +kernel
theorem d_RD_expect_2 : decode b_RD_expect 2 = .ok (.invokevirtual 128, 3) := by decide +kernel
theorem d_RD_expect_5 : decode b_RD_expect 5 = .ok (.ifCond .ne 12, 3) := by decide +kernel
theorem d_RD_expect_8 : decode b_RD_expect 8 = .ok (.aload_n 0, 1) := by decide +kernel
theorem d_RD_expect_9 : decode b_RD_expect 9 = .ok (.aload_n 0, 1) := by decide +kernel
theorem d_RD_expect_10 : decode b_RD_expect 10 = .ok (.getfield 30, 3) := by decide +kernel
theorem d_RD_expect_13 : decode b_RD_expect 13 = .ok (.invokevirtual 46, 3) := by decide +kernel
theorem d_RD_expect_16 : decode b_RD_expect 16 = .ok (.ireturn, 1) := by decide +kernel
theorem d_RD_expect_17 : decode b_RD_expect 17 = .ok (.aload_n 0, 1) := by decide +kernel
theorem d_RD_expect_18 : decode b_RD_expect 18 = .ok (.dup, 1) := by decide +kernel
theorem d_RD_expect_19 : decode b_RD_expect 19 = .ok (.getfield 30, 3) := by decide +kernel
theorem d_RD_expect_22 : decode b_RD_expect 22 = .ok (.iconst 1, 1) := by decide +kernel
theorem d_RD_expect_23 : decode b_RD_expect 23 = .ok (.iadd, 1) := by decide +kernel
theorem d_RD_expect_24 : decode b_RD_expect 24 = .ok (.putfield 30, 3) := by decide +kernel
theorem d_RD_expect_27 : decode b_RD_expect 27 = .ok (.iconst 1, 1) := by decide +kernel
theorem d_RD_expect_28 : decode b_RD_expect 28 = .ok (.ireturn, 1) := by decide +kernel
theorem lk_RD_128 : ab_lk "PolicyForge$Reader" 128 y_RD_isHere b_RD_isHere 2 (some FieldType.boolean) 1 1 := ⟨⟨rfl, T_RD, 8, rfl⟩, List.forall_mem_cons.mpr ⟨(ab_in 518 (by decide +kernel) (by decide +kernel)), List.forall_mem_cons.mpr ⟨(ab_in 520 (by decide +kernel) (by decide +kernel)), List.forall_mem_cons.mpr ⟨(ab_in 8 (by decide +kernel) (by decide +kernel)), List.forall_mem_cons.mpr ⟨(ab_in 93 (by decide +kernel) (by decide +kernel)), List.forall_mem_cons.mpr ⟨(ab_in 521 (by decide +kernel) (by decide +kernel)), fun _ h => absurd h List.not_mem_nil⟩⟩⟩⟩⟩, ⟨by decide +kernel, by decide +kernel, by decide +kernel⟩, by decide⟩
set_option maxRecDepth 100000 in
set_option maxHeartbeats 1000000 in
theorem s_RD_expect (u : ab_S) (x : Int32) (h : CI u) : ab_C false l D ca y_RD_expect b_RD_expect 2 (some FieldType.boolean) 1 ab_nQ u [ab_O 1 0, ab_I x] (fun u' v => cP [1, 2, 10] u u' ∧ ∃ b : Int32, (b = 0 ∨ b = 1) ∧ v = some (ab_I b)) := by
  refine ab_C.of (by decide) (Nat.le_of_ble_eq_true rfl) ?_
  intro p e s m args below meth c ad X hZ hr0 hlk
  have P0 : cP [1, 2, 10] u u := cQ.rf h
  obtain ⟨⟨L, hL, eL⟩, ⟨a, ha, ea⟩, -⟩ := h.rd
  refine ab_aload_n X 0 d_RD_expect_0 rfl rfl ?_
  refine ab_iload_n X 1 d_RD_expect_1 rfl rfl ?_
  refine ab_callV (as := [ab_I x]) X (fun h => by cases h) (t_RD_isHere u x h) lk_RD_128 d_RD_expect_2 rfl rfl (by first | assumption | decide | (show _ < 124; omega) | (show _ < 61; omega) | (show _ < 20; omega)) ⟨by first | exact Nat.le_of_ble_eq_true rfl | (simp only [ab_rm]; omega), by first | exact Nat.le_of_ble_eq_true rfl | (simp only [ab_rm]; omega)⟩ ⟨by first | exact Nat.le_of_ble_eq_true rfl | (simp only [ab_rm]; omega), by first | exact Nat.le_of_ble_eq_true rfl | (simp only [ab_rm]; omega)⟩ (Nat.le_of_ble_eq_true rfl) (fun u2 r2 h2 => ?_)
  obtain ⟨e2, b2, hb2, rfl⟩ := h2
  subst u2
  refine ab_if_ne X 17 d_RD_expect_5 rfl (fun h5 => ?_) (fun h5 => ?_)
  ·
    have hlt := (hb2.resolve_left h5).2
    rw [ea, eL] at hlt
    have hlt := nI_ltl hlt (by omega)
    refine ab_aload_n X 0 d_RD_expect_17 rfl rfl ?_
    refine ab_dup X d_RD_expect_18 rfl ?_
    refine ab_gI X fl_RD_30 d_RD_expect_19 (by first | assumption | decide | (show _ < 124; omega) | (show _ < 61; omega) | (show _ < 20; omega)) (ea) ?_
    refine ab_iconst (v := 1) X d_RD_expect_22 (by decide) ?_
    refine ab_iadd X d_RD_expect_23 ?_
    refine ab_top (nI_1 _) ?_
    refine ab_putI X fp_RD_30 d_RD_expect_24 (by first | assumption | decide | (show _ < 124; omega) | (show _ < 61; omega) | (show _ < 20; omega)) rfl rfl ?_
    refine ab_gen (fun u24 e24 => ?_)
    have P24 : cP [1, 2, 10] u u24 := by rw [e24]; exact P0.at (by decide) (by omega)
    refine ab_iconst (v := 1) X d_RD_expect_27 (by decide) ?_
    exact ab_retz X hr0 hlk (by first | exact Or.inl rfl | exact Or.inr rfl) d_RD_expect_28 ⟨P24, _, by first | exact Or.inl rfl | exact Or.inr rfl, rfl⟩
  ·
    refine ab_aload_n X 0 d_RD_expect_8 rfl rfl ?_
    refine ab_aload_n X 0 d_RD_expect_9 rfl rfl ?_
    refine ab_gI X fl_RD_30 d_RD_expect_10 (by first | assumption | decide | (show _ < 124; omega) | (show _ < 61; omega) | (show _ < 20; omega)) (rfl) ?_
    refine ab_callV (as := [ab_I _]) X (fun h => by cases h) (s_RD_refuse u _ h) lk_RD_46 d_RD_expect_13 rfl rfl (by first | assumption | decide | (show _ < 124; omega) | (show _ < 61; omega) | (show _ < 20; omega)) ⟨by first | exact Nat.le_of_ble_eq_true rfl | (simp only [ab_rm]; omega), by first | exact Nat.le_of_ble_eq_true rfl | (simp only [ab_rm]; omega)⟩ ⟨by first | exact Nat.le_of_ble_eq_true rfl | (simp only [ab_rm]; omega), by first | exact Nat.le_of_ble_eq_true rfl | (simp only [ab_rm]; omega)⟩ (Nat.le_of_ble_eq_true rfl) (fun u13 r13 h13 => ?_)
    obtain ⟨q13, b13, hb13, rfl⟩ := h13
    have P13 := P0.trans q13 (by decide)
    exact ab_retz X hr0 hlk hb13 d_RD_expect_16 ⟨P13, b13, hb13, rfl⟩
theorem nI_p1 (n : Nat) : nI (n + 1) - 1 = nI n := by
  have := nI_m1 (n := n + 1) (by omega)
  rwa [show n + 1 - 1 = n by omega] at this
abbrev b_RD_oneOf : ByteArray := prog_6_method_14_code
def y_RD_oneOf : MethodName := ⟨"PolicyForge$Reader", "oneOf", "(CC)I"⟩
theorem d_RD_oneOf_0 : decode b_RD_oneOf 0 = .ok (.aload_n 0, 1) := by decide +kernel
theorem d_RD_oneOf_1 : decode b_RD_oneOf 1 = .ok (.getfield 30, 3) := by decide +kernel
theorem d_RD_oneOf_4 : decode b_RD_oneOf 4 = .ok (.aload_n 0, 1) := by decide +kernel
theorem d_RD_oneOf_5 : decode b_RD_oneOf 5 = .ok (.getfield 26, 3) := by decide +kernel
theorem d_RD_oneOf_8 : decode b_RD_oneOf 8 = .ok (.if_icmp .ge 29, 3) := by decide +kernel
theorem d_RD_oneOf_11 : decode b_RD_oneOf 11 = .ok (.aload_n 0, 1) := by decide +kernel
theorem d_RD_oneOf_12 : decode b_RD_oneOf 12 = .ok (.getfield 9, 3) := by decide +kernel
theorem d_RD_oneOf_15 : decode b_RD_oneOf 15 = .ok (.aload_n 0, 1) := by decide +kernel
theorem d_RD_oneOf_16 : decode b_RD_oneOf 16 = .ok (.getfield 30, 3) := by decide +kernel
theorem d_RD_oneOf_19 : decode b_RD_oneOf 19 = .ok (.iaload, 1) := by decide +kernel
theorem d_RD_oneOf_20 : decode b_RD_oneOf 20 = .ok (.iload_n 1, 1) := by decide +kernel
theorem d_RD_oneOf_21 : decode b_RD_oneOf 21 = .ok (.if_icmp .lt 16, 3) := by decide +kernel
theorem d_RD_oneOf_24 : decode b_RD_oneOf 24 = .ok (.aload_n 0, 1) := by decide +kernel
theorem d_RD_oneOf_25 : decode b_RD_oneOf 25 = .ok (.getfield 9, 3) := by decide +kernel
theorem d_RD_oneOf_28 : decode b_RD_oneOf 28 = .ok (.aload_n 0, 1) := by decide +kernel
theorem d_RD_oneOf_29 : decode b_RD_oneOf 29 = .ok (.getfield 30, 3) := by decide +kernel
theorem d_RD_oneOf_32 : decode b_RD_oneOf 32 = .ok (.iaload, 1) := by decide +kernel
theorem d_RD_oneOf_33 : decode b_RD_oneOf 33 = .ok (.iload_n 2, 1) := by decide +kernel
theorem d_RD_oneOf_34 : decode b_RD_oneOf 34 = .ok (.if_icmp .le 14, 3) := by decide +kernel
theorem d_RD_oneOf_37 : decode b_RD_oneOf 37 = .ok (.aload_n 0, 1) := by decide +kernel
theorem d_RD_oneOf_38 : decode b_RD_oneOf 38 = .ok (.aload_n 0, 1) := by decide +kernel
theorem d_RD_oneOf_39 : decode b_RD_oneOf 39 = .ok (.getfield 30, 3) := by decide +kernel
theorem d_RD_oneOf_42 : decode b_RD_oneOf 42 = .ok (.invokevirtual 46, 3) := by decide +kernel
theorem d_RD_oneOf_45 : decode b_RD_oneOf 45 = .ok (.pop, 1) := by decide +kernel
theorem d_RD_oneOf_46 : decode b_RD_oneOf 46 = .ok (.iconst (-1), 1) := by decide +kernel
theorem d_RD_oneOf_47 : decode b_RD_oneOf 47 = .ok (.ireturn, 1) := by decide +kernel
theorem d_RD_oneOf_48 : decode b_RD_oneOf 48 = .ok (.aload_n 0, 1) := by decide +kernel
theorem d_RD_oneOf_49 : decode b_RD_oneOf 49 = .ok (.dup, 1) := by decide +kernel
theorem d_RD_oneOf_50 : decode b_RD_oneOf 50 = .ok (.getfield 30, 3) := by decide +kernel
theorem d_RD_oneOf_53 : decode b_RD_oneOf 53 = .ok (.iconst 1, 1) := by decide +kernel
theorem d_RD_oneOf_54 : decode b_RD_oneOf 54 = .ok (.iadd, 1) := by decide +kernel
theorem d_RD_oneOf_55 : decode b_RD_oneOf 55 = .ok (.putfield 30, 3) := by decide +kernel
theorem d_RD_oneOf_58 : decode b_RD_oneOf 58 = .ok (.aload_n 0, 1) := by decide +kernel
theorem d_RD_oneOf_59 : decode b_RD_oneOf 59 = .ok (.getfield 9, 3) := by decide +kernel
theorem d_RD_oneOf_62 : decode b_RD_oneOf 62 = .ok (.aload_n 0, 1) := by decide +kernel
theorem d_RD_oneOf_63 : decode b_RD_oneOf 63 = .ok (.getfield 30, 3) := by decide +kernel
theorem d_RD_oneOf_66 : decode b_RD_oneOf 66 = .ok (.iconst 1, 1) := by decide +kernel
theorem d_RD_oneOf_67 : decode b_RD_oneOf 67 = .ok (.isub, 1) := by decide +kernel
theorem d_RD_oneOf_68 : decode b_RD_oneOf 68 = .ok (.iaload, 1) := by decide +kernel
theorem d_RD_oneOf_69 : decode b_RD_oneOf 69 = .ok (.iload_n 1, 1) := by decide +kernel
theorem d_RD_oneOf_70 : decode b_RD_oneOf 70 = .ok (.isub, 1) := by decide +kernel
theorem d_RD_oneOf_71 : decode b_RD_oneOf 71 = .ok (.ireturn, 1) := by decide +kernel
set_option maxRecDepth 100000 in
set_option maxHeartbeats 1000000 in
theorem s_RD_oneOf (u : ab_S) (x y : Int32) (h : CI u) : ab_C false l D ca y_RD_oneOf b_RD_oneOf 3 (some FieldType.int) 1 ab_nQ u [ab_O 1 0, ab_I x, ab_I y] (fun u' v => cP [1, 2, 10] u u' ∧ ∃ x : Int32, v = some (ab_I x)) := by
  refine ab_C.of (by decide) (Nat.le_of_ble_eq_true rfl) ?_
  intro p e s m args below meth c ad X hZ hr0 hlk
  have P0 : cP [1, 2, 10] u u := cQ.rf h
  obtain ⟨⟨L, hL, eL⟩, ⟨a, ha, ea⟩, -⟩ := h.rd
  refine ab_aload_n X 0 d_RD_oneOf_0 rfl rfl ?_
  refine ab_gI X fl_RD_30 d_RD_oneOf_1 (by first | assumption | decide | (show _ < 124; omega) | (show _ < 61; omega) | (show _ < 20; omega)) (ea) ?_
  refine ab_aload_n X 0 d_RD_oneOf_4 rfl rfl ?_
  refine ab_gI X fl_RD_26 d_RD_oneOf_5 (by first | assumption | decide | (show _ < 124; omega) | (show _ < 61; omega) | (show _ < 20; omega)) (eL) ?_
  refine ab_icmp_ge X 37 d_RD_oneOf_8 rfl (fun h8 => ?_) (fun h8 => ?_)
  ·
    refine ab_aload_n X 0 d_RD_oneOf_37 rfl rfl ?_
    refine ab_aload_n X 0 d_RD_oneOf_38 rfl rfl ?_
    refine ab_gI X fl_RD_30 d_RD_oneOf_39 (by first | assumption | decide | (show _ < 124; omega) | (show _ < 61; omega) | (show _ < 20; omega)) (rfl) ?_
    refine ab_callV (as := [ab_I _]) X (fun h => by cases h) (s_RD_refuse u _ h) lk_RD_46 d_RD_oneOf_42 rfl rfl (by first | assumption | decide | (show _ < 124; omega) | (show _ < 61; omega) | (show _ < 20; omega)) ⟨by first | exact Nat.le_of_ble_eq_true rfl | (simp only [ab_rm]; omega), by first | exact Nat.le_of_ble_eq_true rfl | (simp only [ab_rm]; omega)⟩ ⟨by first | exact Nat.le_of_ble_eq_true rfl | (simp only [ab_rm]; omega), by first | exact Nat.le_of_ble_eq_true rfl | (simp only [ab_rm]; omega)⟩ (Nat.le_of_ble_eq_true rfl) (fun u42 r42 h42 => ?_)
    obtain ⟨q42, b42, hb42, rfl⟩ := h42
    have P42 := P0.trans q42 (by decide)
    refine ab_pop X d_RD_oneOf_45 rfl ?_
    refine ab_iconst (v := (-1)) X d_RD_oneOf_46 (by decide) ?_
    exact ab_reti X hr0 hlk d_RD_oneOf_47 ⟨P42, _, rfl⟩
  ·
    have hlt := nI_lt_of h8 (by omega)
    refine ab_aload_n X 0 d_RD_oneOf_11 rfl rfl ?_
    refine ab_gR X fl_RD_9 d_RD_oneOf_12 (by first | assumption | decide | (show _ < 124; omega) | (show _ < 61; omega) | (show _ < 20; omega)) (P0.1.rd0) ?_
    refine ab_aload_n X 0 d_RD_oneOf_15 rfl rfl ?_
    refine ab_gI X fl_RD_30 d_RD_oneOf_16 (by first | assumption | decide | (show _ < 124; omega) | (show _ < 61; omega) | (show _ < 20; omega)) (ea) ?_
    refine ab_iald X (a) ⟨rfl, rfl⟩ d_RD_oneOf_19 (by first | assumption | decide | (show _ < 124; omega) | (show _ < 61; omega) | (show _ < 20; omega)) (rfl) (show a < 120 by omega) (ab_ln_lt _ _) ?_
    refine ab_iload_n X 1 d_RD_oneOf_20 rfl rfl ?_
    refine ab_icmp_lt X 37 d_RD_oneOf_21 rfl (fun h21 => ?_) (fun h21 => ?_)
    ·
      refine ab_aload_n X 0 d_RD_oneOf_37 rfl rfl ?_
      refine ab_aload_n X 0 d_RD_oneOf_38 rfl rfl ?_
      refine ab_gI X fl_RD_30 d_RD_oneOf_39 (by first | assumption | decide | (show _ < 124; omega) | (show _ < 61; omega) | (show _ < 20; omega)) (rfl) ?_
      refine ab_callV (as := [ab_I _]) X (fun h => by cases h) (s_RD_refuse u _ h) lk_RD_46 d_RD_oneOf_42 rfl rfl (by first | assumption | decide | (show _ < 124; omega) | (show _ < 61; omega) | (show _ < 20; omega)) ⟨by first | exact Nat.le_of_ble_eq_true rfl | (simp only [ab_rm]; omega), by first | exact Nat.le_of_ble_eq_true rfl | (simp only [ab_rm]; omega)⟩ ⟨by first | exact Nat.le_of_ble_eq_true rfl | (simp only [ab_rm]; omega), by first | exact Nat.le_of_ble_eq_true rfl | (simp only [ab_rm]; omega)⟩ (Nat.le_of_ble_eq_true rfl) (fun u42 r42 h42 => ?_)
      obtain ⟨q42, b42, hb42, rfl⟩ := h42
      have P42 := P0.trans q42 (by decide)
      refine ab_pop X d_RD_oneOf_45 rfl ?_
      refine ab_iconst (v := (-1)) X d_RD_oneOf_46 (by decide) ?_
      exact ab_reti X hr0 hlk d_RD_oneOf_47 ⟨P42, _, rfl⟩
    ·
      refine ab_aload_n X 0 d_RD_oneOf_24 rfl rfl ?_
      refine ab_gR X fl_RD_9 d_RD_oneOf_25 (by first | assumption | decide | (show _ < 124; omega) | (show _ < 61; omega) | (show _ < 20; omega)) (P0.1.rd0) ?_
      refine ab_aload_n X 0 d_RD_oneOf_28 rfl rfl ?_
      refine ab_gI X fl_RD_30 d_RD_oneOf_29 (by first | assumption | decide | (show _ < 124; omega) | (show _ < 61; omega) | (show _ < 20; omega)) (ea) ?_
      refine ab_iald X (a) ⟨rfl, rfl⟩ d_RD_oneOf_32 (by first | assumption | decide | (show _ < 124; omega) | (show _ < 61; omega) | (show _ < 20; omega)) (rfl) (show a < 120 by omega) (ab_ln_lt _ _) ?_
      refine ab_iload_n X 2 d_RD_oneOf_33 rfl rfl ?_
      refine ab_icmp_le X 48 d_RD_oneOf_34 rfl (fun h34 => ?_) (fun h34 => ?_)
      ·
        refine ab_aload_n X 0 d_RD_oneOf_48 rfl rfl ?_
        refine ab_dup X d_RD_oneOf_49 rfl ?_
        refine ab_gI X fl_RD_30 d_RD_oneOf_50 (by first | assumption | decide | (show _ < 124; omega) | (show _ < 61; omega) | (show _ < 20; omega)) (ea) ?_
        refine ab_iconst (v := 1) X d_RD_oneOf_53 (by decide) ?_
        refine ab_iadd X d_RD_oneOf_54 ?_
        refine ab_top (nI_1 _) ?_
        refine ab_putI X fp_RD_30 d_RD_oneOf_55 (by first | assumption | decide | (show _ < 124; omega) | (show _ < 61; omega) | (show _ < 20; omega)) rfl rfl ?_
        refine ab_gen (fun u55 e55 => ?_)
        have P55 : cP [1, 2, 10] u u55 := by rw [e55]; exact P0.at (by decide) (by omega)
        refine ab_aload_n X 0 d_RD_oneOf_58 rfl rfl ?_
        refine ab_gR X fl_RD_9 d_RD_oneOf_59 (by first | assumption | decide | (show _ < 124; omega) | (show _ < 61; omega) | (show _ < 20; omega)) (P55.1.rd0) ?_
        refine ab_aload_n X 0 d_RD_oneOf_62 rfl rfl ?_
        refine ab_gI X fl_RD_30 d_RD_oneOf_63 (by first | assumption | decide | (show _ < 124; omega) | (show _ < 61; omega) | (show _ < 20; omega)) ((show _ = nI (a + 1) by rw [e55]; simp [ab_up])) ?_
        refine ab_iconst (v := 1) X d_RD_oneOf_66 (by decide) ?_
        refine ab_isub X d_RD_oneOf_67 ?_
        refine ab_top (nI_p1 a) ?_
        refine ab_iald X (a) ⟨rfl, rfl⟩ d_RD_oneOf_68 (by first | assumption | decide | (show _ < 124; omega) | (show _ < 61; omega) | (show _ < 20; omega)) (rfl) (show a < 120 by omega) (ab_ln_lt _ _) ?_
        refine ab_iload_n X 1 d_RD_oneOf_69 rfl rfl ?_
        refine ab_isub X d_RD_oneOf_70 ?_
        exact ab_reti X hr0 hlk d_RD_oneOf_71 ⟨P55, _, rfl⟩
      ·
        refine ab_aload_n X 0 d_RD_oneOf_37 rfl rfl ?_
        refine ab_aload_n X 0 d_RD_oneOf_38 rfl rfl ?_
        refine ab_gI X fl_RD_30 d_RD_oneOf_39 (by first | assumption | decide | (show _ < 124; omega) | (show _ < 61; omega) | (show _ < 20; omega)) (rfl) ?_
        refine ab_callV (as := [ab_I _]) X (fun h => by cases h) (s_RD_refuse u _ h) lk_RD_46 d_RD_oneOf_42 rfl rfl (by first | assumption | decide | (show _ < 124; omega) | (show _ < 61; omega) | (show _ < 20; omega)) ⟨by first | exact Nat.le_of_ble_eq_true rfl | (simp only [ab_rm]; omega), by first | exact Nat.le_of_ble_eq_true rfl | (simp only [ab_rm]; omega)⟩ ⟨by first | exact Nat.le_of_ble_eq_true rfl | (simp only [ab_rm]; omega), by first | exact Nat.le_of_ble_eq_true rfl | (simp only [ab_rm]; omega)⟩ (Nat.le_of_ble_eq_true rfl) (fun u42 r42 h42 => ?_)
        obtain ⟨q42, b42, hb42, rfl⟩ := h42
        have P42 := P0.trans q42 (by decide)
        refine ab_pop X d_RD_oneOf_45 rfl ?_
        refine ab_iconst (v := (-1)) X d_RD_oneOf_46 (by decide) ?_
        exact ab_reti X hr0 hlk d_RD_oneOf_47 ⟨P42, _, rfl⟩
abbrev b_RD_readTime : ByteArray := prog_6_method_15_code
def y_RD_readTime : MethodName := ⟨"PolicyForge$Reader", "readTime", "()I"⟩
theorem d_RD_readTime_0 : decode b_RD_readTime 0 = .ok (.iconst 0, 1) := by decide +kernel
theorem d_RD_readTime_1 : decode b_RD_readTime 1 = .ok (.istore_n 1, 1) := by decide +kernel
theorem d_RD_readTime_2 : decode b_RD_readTime 2 = .ok (.iconst 0, 1) := by decide +kernel
theorem d_RD_readTime_3 : decode b_RD_readTime 3 = .ok (.istore_n 2, 1) := by decide +kernel
theorem d_RD_readTime_4 : decode b_RD_readTime 4 = .ok (.iload_n 2, 1) := by decide +kernel
theorem d_RD_readTime_5 : decode b_RD_readTime 5 = .ok (.iconst 3, 1) := by decide +kernel
theorem d_RD_readTime_6 : decode b_RD_readTime 6 = .ok (.if_icmp .ge 88, 3) := by decide +kernel
theorem d_RD_readTime_9 : decode b_RD_readTime 9 = .ok (.iload_n 1, 1) := by decide +kernel
theorem d_RD_readTime_10 : decode b_RD_readTime 10 = .ok (.ifCond .le 12, 3) := by decide +kernel
theorem d_RD_readTime_13 : decode b_RD_readTime 13 = .ok (.aload_n 0, 1) := by decide +kernel
theorem d_RD_readTime_14 : decode b_RD_readTime 14 = .ok (.bipush 41, 2) := by decide +kernel
theorem d_RD_readTime_16 : decode b_RD_readTime 16 = .ok (.invokevirtual 128, 3) := by decide +kernel
theorem d_RD_readTime_19 : decode b_RD_readTime 19 = .ok (.ifCond .ne 75, 3) := by decide +kernel
theorem d_RD_readTime_22 : decode b_RD_readTime 22 = .ok (.iload_n 2, 1) := by decide +kernel
theorem d_RD_readTime_23 : decode b_RD_readTime 23 = .ok (.iconst 2, 1) := by decide +kernel
theorem d_RD_readTime_24 : decode b_RD_readTime 24 = .ok (.if_icmp .ne 20, 3) := by decide +kernel
theorem d_RD_readTime_27 : decode b_RD_readTime 27 = .ok (.iload_n 1, 1) := by decide +kernel
theorem d_RD_readTime_28 : decode b_RD_readTime 28 = .ok (.ifCond .ne 16, 3) := by decide +kernel
theorem d_RD_readTime_31 : decode b_RD_readTime 31 = .ok (.aload_n 0, 1) := by decide +kernel
theorem d_RD_readTime_32 : decode b_RD_readTime 32 = .ok (.bipush 48, 2) := by decide +kernel
theorem d_RD_readTime_34 : decode b_RD_readTime 34 = .ok (.invokevirtual 128, 3) := by decide +kernel
theorem d_RD_readTime_37 : decode b_RD_readTime 37 = .ok (.ifCond .eq 7, 3) := by decide +kernel
theorem d_RD_readTime_40 : decode b_RD_readTime 40 = .ok (.iconst 1, 1) := by decide +kernel
theorem d_RD_readTime_41 : decode b_RD_readTime 41 = .ok (.goto 4, 3) := by decide +kernel
theorem d_RD_readTime_44 : decode b_RD_readTime 44 = .ok (.iconst 0, 1) := by decide +kernel
theorem d_RD_readTime_45 : decode b_RD_readTime 45 = .ok (.istore_n 3, 1) := by decide +kernel
theorem d_RD_readTime_46 : decode b_RD_readTime 46 = .ok (.iload_n 3, 1) := by decide +kernel
theorem d_RD_readTime_47 : decode b_RD_readTime 47 = .ok (.ifCond .eq 7, 3) := by decide +kernel
theorem d_RD_readTime_50 : decode b_RD_readTime 50 = .ok (.iconst (-1), 1) := by decide +kernel
theorem d_RD_readTime_51 : decode b_RD_readTime 51 = .ok (.goto 11, 3) := by decide +kernel
theorem d_RD_readTime_54 : decode b_RD_readTime 54 = .ok (.aload_n 0, 1) := by decide +kernel
theorem d_RD_readTime_55 : decode b_RD_readTime 55 = .ok (.bipush 48, 2) := by decide +kernel
theorem d_RD_readTime_57 : decode b_RD_readTime 57 = .ok (.bipush 57, 2) := by decide +kernel
theorem d_RD_readTime_59 : decode b_RD_readTime 59 = .ok (.invokevirtual 114, 3) := by decide +kernel
theorem d_RD_readTime_62 : decode b_RD_readTime 62 = .ok (.istore 4, 2) := by decide +kernel
theorem d_RD_readTime_64 : decode b_RD_readTime 64 = .ok (.iload 4, 2) := by decide +kernel
theorem d_RD_readTime_66 : decode b_RD_readTime 66 = .ok (.ifCond .ge 14, 3) := by decide +kernel
theorem d_RD_readTime_69 : decode b_RD_readTime 69 = .ok (.aload_n 0, 1) := by decide +kernel
theorem d_RD_readTime_70 : decode b_RD_readTime 70 = .ok (.aload_n 0, 1) := by decide +kernel
theorem d_RD_readTime_71 : decode b_RD_readTime 71 = .ok (.getfield 30, 3) := by decide +kernel
theorem d_RD_readTime_74 : decode b_RD_readTime 74 = .ok (.invokevirtual 46, 3) := by decide +kernel
theorem d_RD_readTime_77 : decode b_RD_readTime 77 = .ok (.pop, 1) := by decide +kernel
theorem d_RD_readTime_78 : decode b_RD_readTime 78 = .ok (.iconst (-1), 1) := by decide +kernel
theorem d_RD_readTime_79 : decode b_RD_readTime 79 = .ok (.ireturn, 1) := by decide +kernel
theorem d_RD_readTime_80 : decode b_RD_readTime 80 = .ok (.bipush 10, 2) := by decide +kernel
theorem d_RD_readTime_82 : decode b_RD_readTime 82 = .ok (.iload_n 1, 1) := by decide +kernel
theorem d_RD_readTime_83 : decode b_RD_readTime 83 = .ok (.imul, 1) := by decide +kernel
theorem d_RD_readTime_84 : decode b_RD_readTime 84 = .ok (.iload 4, 2) := by decide +kernel
theorem d_RD_readTime_86 : decode b_RD_readTime 86 = .ok (.iadd, 1) := by decide +kernel
theorem d_RD_readTime_87 : decode b_RD_readTime 87 = .ok (.istore_n 1, 1) := by decide +kernel
theorem d_RD_readTime_88 : decode b_RD_readTime 88 = .ok (.iinc 2 1, 3) := by decide +kernel
theorem d_RD_readTime_91 : decode b_RD_readTime 91 = .ok (.goto (-87), 3) := by decide +kernel
theorem d_RD_readTime_94 : decode b_RD_readTime 94 = .ok (.iload_n 1, 1) := by decide +kernel
theorem d_RD_readTime_95 : decode b_RD_readTime 95 = .ok (.ireturn, 1) := by decide +kernel
theorem lk_RD_114 : ab_lk "PolicyForge$Reader" 114 y_RD_oneOf b_RD_oneOf 3 (some FieldType.int) 2 1 := ⟨⟨rfl, T_RD, 8, rfl⟩, List.forall_mem_cons.mpr ⟨(ab_in 510 (by decide +kernel) (by decide +kernel)), List.forall_mem_cons.mpr ⟨(ab_in 512 (by decide +kernel) (by decide +kernel)), List.forall_mem_cons.mpr ⟨(ab_in 6 (by decide +kernel) (by decide +kernel)), List.forall_mem_cons.mpr ⟨(ab_in 93 (by decide +kernel) (by decide +kernel)), List.forall_mem_cons.mpr ⟨(ab_in 513 (by decide +kernel) (by decide +kernel)), fun _ h => absurd h List.not_mem_nil⟩⟩⟩⟩⟩, ⟨by decide +kernel, by decide +kernel, by decide +kernel⟩, by decide⟩
set_option maxRecDepth 100000 in
set_option maxHeartbeats 1000000 in
theorem s_RD_readTime (u : ab_S) (h : CI u) : ab_C false l D ca y_RD_readTime b_RD_readTime 5 (some FieldType.int) 2 ab_nQ u [ab_O 1 0] (fun u' v => cP [1, 2, 10] u u' ∧ ∃ x : Int32, v = some (ab_I x)) := by
  refine ab_C.of (by decide) (Nat.le_of_ble_eq_true rfl) ?_
  intro p e s m args below meth c ad X hZ hr0 hlk
  have P0 : cP [1, 2, 10] u u := cQ.rf h
  have loop : ∀ (k j : Nat) (y : Int32) (u1 : ab_S), k + j = 3 → cP [1, 2, 10] u u1 → ab_J p l e (ab_rm 2 0 0) s m args below meth c (MQ below (ab_Q D ca ad ab_nQ s.heap.size (fun u' v => cP [1, 2, 10] u u' ∧ ∃ x : Int32, v = some (ab_I x))) args s 0 0 (ab_A ad ab_nQ s.heap.size)) D ca (ab_A ad ab_nQ s.heap.size) s.heap 5 0 0 ad ab_nQ u1 4 [(2, ab_I (nI j)), (1, ab_I y), (0, ab_O 1 0)] [] := by
    intro k
    induction k with
    | zero =>
      intro j y u1 hj P1
      refine ab_iload_n X 0 d_RD_readTime_4 rfl rfl ?_
      refine ab_iconst (v := 3) X d_RD_readTime_5 (by decide) ?_
      refine ab_icmp_ge X 94 d_RD_readTime_6 rfl (fun _ => ?_) (fun hb => absurd ((nI_le (a := 3) (by omega) (by omega))) hb)
      refine ab_iload_n X 1 d_RD_readTime_94 rfl rfl ?_
      exact ab_reti X hr0 hlk d_RD_readTime_95 ⟨P1, _, rfl⟩
    | succ k ih =>
      intro j y u1 hj P1
      refine ab_iload_n X 0 d_RD_readTime_4 rfl rfl ?_
      refine ab_iconst (v := 3) X d_RD_readTime_5 (by decide) ?_
      refine ab_icmp_ge X 94 d_RD_readTime_6 rfl (fun h6 => ?_) (fun h6 => ?_)
      ·
        refine ab_iload_n X 1 d_RD_readTime_94 rfl rfl ?_
        exact ab_reti X hr0 hlk d_RD_readTime_95 ⟨P1, _, rfl⟩
      ·
        refine ab_iload_n X 1 d_RD_readTime_9 rfl rfl ?_
        refine ab_if_le X 22 d_RD_readTime_10 rfl (fun h10 => ?_) (fun h10 => ?_)
        ·
          refine ab_iload_n X 0 d_RD_readTime_22 rfl rfl ?_
          refine ab_iconst (v := 2) X d_RD_readTime_23 (by decide) ?_
          refine ab_icmp_ne X 44 d_RD_readTime_24 rfl (fun h24 => ?_) (fun h24 => ?_)
          ·
            refine ab_iconst (v := 0) X d_RD_readTime_44 (by decide) ?_
            refine ab_istore_n3 X 0 1 2 d_RD_readTime_45 rfl (by decide) rfl rfl rfl rfl rfl rfl ?_
            refine ab_iload_n X 0 d_RD_readTime_46 rfl rfl ?_
            refine ab_if_eq X 54 d_RD_readTime_47 rfl (fun h47 => ?_) (fun h47 => ?_)
            ·
              refine ab_aload_n X 3 d_RD_readTime_54 rfl rfl ?_
              refine ab_bipush (v := 48) X d_RD_readTime_55 (by decide) ?_
              refine ab_bipush (v := 57) X d_RD_readTime_57 (by decide) ?_
              refine ab_callV (as := [ab_I 48, ab_I 57]) X (fun h => by cases h) (s_RD_oneOf u1 48 57 P1.1) lk_RD_114 d_RD_readTime_59 rfl rfl (by first | assumption | decide | (show _ < 124; omega) | (show _ < 61; omega) | (show _ < 20; omega)) ⟨by first | exact Nat.le_of_ble_eq_true rfl | (simp only [ab_rm]; omega), by first | exact Nat.le_of_ble_eq_true rfl | (simp only [ab_rm]; omega)⟩ ⟨by first | exact Nat.le_of_ble_eq_true rfl | (simp only [ab_rm]; omega), by first | exact Nat.le_of_ble_eq_true rfl | (simp only [ab_rm]; omega)⟩ (Nat.le_of_ble_eq_true rfl) (fun u59 r59 h59 => ?_)
              obtain ⟨q59, x59, rfl⟩ := h59
              have P59 := P1.trans q59 (by decide)
              refine ab_istore4 X 0 1 2 3 d_RD_readTime_62 (by decide) rfl rfl rfl rfl rfl rfl rfl rfl ?_
              refine ab_iload X 0 d_RD_readTime_64 rfl ?_
              refine ab_if_ge X 80 d_RD_readTime_66 rfl (fun h66 => ?_) (fun h66 => ?_)
              ·
                refine ab_bipush (v := 10) X d_RD_readTime_80 (by decide) ?_
                refine ab_iload_n X 3 d_RD_readTime_82 rfl rfl ?_
                refine ab_imul X d_RD_readTime_83 ?_
                refine ab_iload X 0 d_RD_readTime_84 rfl ?_
                refine ab_iadd X d_RD_readTime_86 ?_
                refine ab_istore_n4 X 0 1 2 4 d_RD_readTime_87 rfl (by decide) rfl rfl rfl rfl rfl rfl rfl rfl ?_
                refine ab_iinc4 X 3 0 1 2 4 d_RD_readTime_88 rfl (by decide) rfl rfl rfl rfl rfl rfl rfl rfl ?_
                refine ab_goto X 4 d_RD_readTime_91 rfl ?_
                refine ab_lv (List.forall_mem_cons.mpr ⟨List.mem_of_getElem? (i := 0) rfl, List.forall_mem_cons.mpr ⟨List.mem_of_getElem? (i := 1) rfl, List.forall_mem_cons.mpr ⟨List.mem_of_getElem? (i := 4) rfl, fun _ h => absurd h List.not_mem_nil⟩⟩⟩) ?_
                rw [show nI j + Int32.ofInt 1 = nI (j + 1) from nI_1 j]
                exact ih (j + 1) _ _ (by omega) P59
              ·
                refine ab_aload_n X 4 d_RD_readTime_69 rfl rfl ?_
                refine ab_aload_n X 4 d_RD_readTime_70 rfl rfl ?_
                refine ab_gI X fl_RD_30 d_RD_readTime_71 (by first | assumption | decide | (show _ < 124; omega) | (show _ < 61; omega) | (show _ < 20; omega)) (rfl) ?_
                refine ab_callV (as := [ab_I _]) X (fun h => by cases h) (s_RD_refuse u59 _ P59.1) lk_RD_46 d_RD_readTime_74 rfl rfl (by first | assumption | decide | (show _ < 124; omega) | (show _ < 61; omega) | (show _ < 20; omega)) ⟨by first | exact Nat.le_of_ble_eq_true rfl | (simp only [ab_rm]; omega), by first | exact Nat.le_of_ble_eq_true rfl | (simp only [ab_rm]; omega)⟩ ⟨by first | exact Nat.le_of_ble_eq_true rfl | (simp only [ab_rm]; omega), by first | exact Nat.le_of_ble_eq_true rfl | (simp only [ab_rm]; omega)⟩ (Nat.le_of_ble_eq_true rfl) (fun u74 r74 h74 => ?_)
                obtain ⟨q74, b74, hb74, rfl⟩ := h74
                have P74 := P59.trans q74 (by decide)
                refine ab_pop X d_RD_readTime_77 rfl ?_
                refine ab_iconst (v := (-1)) X d_RD_readTime_78 (by decide) ?_
                exact ab_reti X hr0 hlk d_RD_readTime_79 ⟨P74, _, rfl⟩
            ·
              refine ab_iconst (v := (-1)) X d_RD_readTime_50 (by decide) ?_
              refine ab_goto X 62 d_RD_readTime_51 rfl ?_
              refine ab_istore4 X 0 1 2 3 d_RD_readTime_62 (by decide) rfl rfl rfl rfl rfl rfl rfl rfl ?_
              refine ab_iload X 0 d_RD_readTime_64 rfl ?_
              refine ab_if_ge X 80 d_RD_readTime_66 rfl (fun h66 => ?_) (fun h66 => ?_)
              ·
                refine ab_bipush (v := 10) X d_RD_readTime_80 (by decide) ?_
                refine ab_iload_n X 3 d_RD_readTime_82 rfl rfl ?_
                refine ab_imul X d_RD_readTime_83 ?_
                refine ab_iload X 0 d_RD_readTime_84 rfl ?_
                refine ab_iadd X d_RD_readTime_86 ?_
                refine ab_istore_n4 X 0 1 2 4 d_RD_readTime_87 rfl (by decide) rfl rfl rfl rfl rfl rfl rfl rfl ?_
                refine ab_iinc4 X 3 0 1 2 4 d_RD_readTime_88 rfl (by decide) rfl rfl rfl rfl rfl rfl rfl rfl ?_
                refine ab_goto X 4 d_RD_readTime_91 rfl ?_
                refine ab_lv (List.forall_mem_cons.mpr ⟨List.mem_of_getElem? (i := 0) rfl, List.forall_mem_cons.mpr ⟨List.mem_of_getElem? (i := 1) rfl, List.forall_mem_cons.mpr ⟨List.mem_of_getElem? (i := 4) rfl, fun _ h => absurd h List.not_mem_nil⟩⟩⟩) ?_
                rw [show nI j + Int32.ofInt 1 = nI (j + 1) from nI_1 j]
                exact ih (j + 1) _ _ (by omega) P1
              ·
                refine ab_aload_n X 4 d_RD_readTime_69 rfl rfl ?_
                refine ab_aload_n X 4 d_RD_readTime_70 rfl rfl ?_
                refine ab_gI X fl_RD_30 d_RD_readTime_71 (by first | assumption | decide | (show _ < 124; omega) | (show _ < 61; omega) | (show _ < 20; omega)) (rfl) ?_
                refine ab_callV (as := [ab_I _]) X (fun h => by cases h) (s_RD_refuse u1 _ P1.1) lk_RD_46 d_RD_readTime_74 rfl rfl (by first | assumption | decide | (show _ < 124; omega) | (show _ < 61; omega) | (show _ < 20; omega)) ⟨by first | exact Nat.le_of_ble_eq_true rfl | (simp only [ab_rm]; omega), by first | exact Nat.le_of_ble_eq_true rfl | (simp only [ab_rm]; omega)⟩ ⟨by first | exact Nat.le_of_ble_eq_true rfl | (simp only [ab_rm]; omega), by first | exact Nat.le_of_ble_eq_true rfl | (simp only [ab_rm]; omega)⟩ (Nat.le_of_ble_eq_true rfl) (fun u74 r74 h74 => ?_)
                obtain ⟨q74, b74, hb74, rfl⟩ := h74
                have P74 := P1.trans q74 (by decide)
                refine ab_pop X d_RD_readTime_77 rfl ?_
                refine ab_iconst (v := (-1)) X d_RD_readTime_78 (by decide) ?_
                exact ab_reti X hr0 hlk d_RD_readTime_79 ⟨P74, _, rfl⟩
          ·
            refine ab_iload_n X 1 d_RD_readTime_27 rfl rfl ?_
            refine ab_if_ne X 44 d_RD_readTime_28 rfl (fun h28 => ?_) (fun h28 => ?_)
            ·
              refine ab_iconst (v := 0) X d_RD_readTime_44 (by decide) ?_
              refine ab_istore_n3 X 0 1 2 d_RD_readTime_45 rfl (by decide) rfl rfl rfl rfl rfl rfl ?_
              refine ab_iload_n X 0 d_RD_readTime_46 rfl rfl ?_
              refine ab_if_eq X 54 d_RD_readTime_47 rfl (fun h47 => ?_) (fun h47 => ?_)
              ·
                refine ab_aload_n X 3 d_RD_readTime_54 rfl rfl ?_
                refine ab_bipush (v := 48) X d_RD_readTime_55 (by decide) ?_
                refine ab_bipush (v := 57) X d_RD_readTime_57 (by decide) ?_
                refine ab_callV (as := [ab_I 48, ab_I 57]) X (fun h => by cases h) (s_RD_oneOf u1 48 57 P1.1) lk_RD_114 d_RD_readTime_59 rfl rfl (by first | assumption | decide | (show _ < 124; omega) | (show _ < 61; omega) | (show _ < 20; omega)) ⟨by first | exact Nat.le_of_ble_eq_true rfl | (simp only [ab_rm]; omega), by first | exact Nat.le_of_ble_eq_true rfl | (simp only [ab_rm]; omega)⟩ ⟨by first | exact Nat.le_of_ble_eq_true rfl | (simp only [ab_rm]; omega), by first | exact Nat.le_of_ble_eq_true rfl | (simp only [ab_rm]; omega)⟩ (Nat.le_of_ble_eq_true rfl) (fun u59 r59 h59 => ?_)
                obtain ⟨q59, x59, rfl⟩ := h59
                have P59 := P1.trans q59 (by decide)
                refine ab_istore4 X 0 1 2 3 d_RD_readTime_62 (by decide) rfl rfl rfl rfl rfl rfl rfl rfl ?_
                refine ab_iload X 0 d_RD_readTime_64 rfl ?_
                refine ab_if_ge X 80 d_RD_readTime_66 rfl (fun h66 => ?_) (fun h66 => ?_)
                ·
                  refine ab_bipush (v := 10) X d_RD_readTime_80 (by decide) ?_
                  refine ab_iload_n X 3 d_RD_readTime_82 rfl rfl ?_
                  refine ab_imul X d_RD_readTime_83 ?_
                  refine ab_iload X 0 d_RD_readTime_84 rfl ?_
                  refine ab_iadd X d_RD_readTime_86 ?_
                  refine ab_istore_n4 X 0 1 2 4 d_RD_readTime_87 rfl (by decide) rfl rfl rfl rfl rfl rfl rfl rfl ?_
                  refine ab_iinc4 X 3 0 1 2 4 d_RD_readTime_88 rfl (by decide) rfl rfl rfl rfl rfl rfl rfl rfl ?_
                  refine ab_goto X 4 d_RD_readTime_91 rfl ?_
                  refine ab_lv (List.forall_mem_cons.mpr ⟨List.mem_of_getElem? (i := 0) rfl, List.forall_mem_cons.mpr ⟨List.mem_of_getElem? (i := 1) rfl, List.forall_mem_cons.mpr ⟨List.mem_of_getElem? (i := 4) rfl, fun _ h => absurd h List.not_mem_nil⟩⟩⟩) ?_
                  rw [show nI j + Int32.ofInt 1 = nI (j + 1) from nI_1 j]
                  exact ih (j + 1) _ _ (by omega) P59
                ·
                  refine ab_aload_n X 4 d_RD_readTime_69 rfl rfl ?_
                  refine ab_aload_n X 4 d_RD_readTime_70 rfl rfl ?_
                  refine ab_gI X fl_RD_30 d_RD_readTime_71 (by first | assumption | decide | (show _ < 124; omega) | (show _ < 61; omega) | (show _ < 20; omega)) (rfl) ?_
                  refine ab_callV (as := [ab_I _]) X (fun h => by cases h) (s_RD_refuse u59 _ P59.1) lk_RD_46 d_RD_readTime_74 rfl rfl (by first | assumption | decide | (show _ < 124; omega) | (show _ < 61; omega) | (show _ < 20; omega)) ⟨by first | exact Nat.le_of_ble_eq_true rfl | (simp only [ab_rm]; omega), by first | exact Nat.le_of_ble_eq_true rfl | (simp only [ab_rm]; omega)⟩ ⟨by first | exact Nat.le_of_ble_eq_true rfl | (simp only [ab_rm]; omega), by first | exact Nat.le_of_ble_eq_true rfl | (simp only [ab_rm]; omega)⟩ (Nat.le_of_ble_eq_true rfl) (fun u74 r74 h74 => ?_)
                  obtain ⟨q74, b74, hb74, rfl⟩ := h74
                  have P74 := P59.trans q74 (by decide)
                  refine ab_pop X d_RD_readTime_77 rfl ?_
                  refine ab_iconst (v := (-1)) X d_RD_readTime_78 (by decide) ?_
                  exact ab_reti X hr0 hlk d_RD_readTime_79 ⟨P74, _, rfl⟩
              ·
                refine ab_iconst (v := (-1)) X d_RD_readTime_50 (by decide) ?_
                refine ab_goto X 62 d_RD_readTime_51 rfl ?_
                refine ab_istore4 X 0 1 2 3 d_RD_readTime_62 (by decide) rfl rfl rfl rfl rfl rfl rfl rfl ?_
                refine ab_iload X 0 d_RD_readTime_64 rfl ?_
                refine ab_if_ge X 80 d_RD_readTime_66 rfl (fun h66 => ?_) (fun h66 => ?_)
                ·
                  refine ab_bipush (v := 10) X d_RD_readTime_80 (by decide) ?_
                  refine ab_iload_n X 3 d_RD_readTime_82 rfl rfl ?_
                  refine ab_imul X d_RD_readTime_83 ?_
                  refine ab_iload X 0 d_RD_readTime_84 rfl ?_
                  refine ab_iadd X d_RD_readTime_86 ?_
                  refine ab_istore_n4 X 0 1 2 4 d_RD_readTime_87 rfl (by decide) rfl rfl rfl rfl rfl rfl rfl rfl ?_
                  refine ab_iinc4 X 3 0 1 2 4 d_RD_readTime_88 rfl (by decide) rfl rfl rfl rfl rfl rfl rfl rfl ?_
                  refine ab_goto X 4 d_RD_readTime_91 rfl ?_
                  refine ab_lv (List.forall_mem_cons.mpr ⟨List.mem_of_getElem? (i := 0) rfl, List.forall_mem_cons.mpr ⟨List.mem_of_getElem? (i := 1) rfl, List.forall_mem_cons.mpr ⟨List.mem_of_getElem? (i := 4) rfl, fun _ h => absurd h List.not_mem_nil⟩⟩⟩) ?_
                  rw [show nI j + Int32.ofInt 1 = nI (j + 1) from nI_1 j]
                  exact ih (j + 1) _ _ (by omega) P1
                ·
                  refine ab_aload_n X 4 d_RD_readTime_69 rfl rfl ?_
                  refine ab_aload_n X 4 d_RD_readTime_70 rfl rfl ?_
                  refine ab_gI X fl_RD_30 d_RD_readTime_71 (by first | assumption | decide | (show _ < 124; omega) | (show _ < 61; omega) | (show _ < 20; omega)) (rfl) ?_
                  refine ab_callV (as := [ab_I _]) X (fun h => by cases h) (s_RD_refuse u1 _ P1.1) lk_RD_46 d_RD_readTime_74 rfl rfl (by first | assumption | decide | (show _ < 124; omega) | (show _ < 61; omega) | (show _ < 20; omega)) ⟨by first | exact Nat.le_of_ble_eq_true rfl | (simp only [ab_rm]; omega), by first | exact Nat.le_of_ble_eq_true rfl | (simp only [ab_rm]; omega)⟩ ⟨by first | exact Nat.le_of_ble_eq_true rfl | (simp only [ab_rm]; omega), by first | exact Nat.le_of_ble_eq_true rfl | (simp only [ab_rm]; omega)⟩ (Nat.le_of_ble_eq_true rfl) (fun u74 r74 h74 => ?_)
                  obtain ⟨q74, b74, hb74, rfl⟩ := h74
                  have P74 := P1.trans q74 (by decide)
                  refine ab_pop X d_RD_readTime_77 rfl ?_
                  refine ab_iconst (v := (-1)) X d_RD_readTime_78 (by decide) ?_
                  exact ab_reti X hr0 hlk d_RD_readTime_79 ⟨P74, _, rfl⟩
            ·
              refine ab_aload_n X 2 d_RD_readTime_31 rfl rfl ?_
              refine ab_bipush (v := 48) X d_RD_readTime_32 (by decide) ?_
              refine ab_callV (as := [ab_I 48]) X (fun h => by cases h) (t_RD_isHere u1 48 P1.1) lk_RD_128 d_RD_readTime_34 rfl rfl (by first | assumption | decide | (show _ < 124; omega) | (show _ < 61; omega) | (show _ < 20; omega)) ⟨by first | exact Nat.le_of_ble_eq_true rfl | (simp only [ab_rm]; omega), by first | exact Nat.le_of_ble_eq_true rfl | (simp only [ab_rm]; omega)⟩ ⟨by first | exact Nat.le_of_ble_eq_true rfl | (simp only [ab_rm]; omega), by first | exact Nat.le_of_ble_eq_true rfl | (simp only [ab_rm]; omega)⟩ (Nat.le_of_ble_eq_true rfl) (fun u34 r34 h34 => ?_)
              obtain ⟨e34, b34, hb34, rfl⟩ := h34
              subst u34
              refine ab_if_eq X 44 d_RD_readTime_37 rfl (fun h37 => ?_) (fun h37 => ?_)
              ·
                refine ab_iconst (v := 0) X d_RD_readTime_44 (by decide) ?_
                refine ab_istore_n3 X 0 1 2 d_RD_readTime_45 rfl (by decide) rfl rfl rfl rfl rfl rfl ?_
                refine ab_iload_n X 0 d_RD_readTime_46 rfl rfl ?_
                refine ab_if_eq X 54 d_RD_readTime_47 rfl (fun h47 => ?_) (fun h47 => ?_)
                ·
                  refine ab_aload_n X 3 d_RD_readTime_54 rfl rfl ?_
                  refine ab_bipush (v := 48) X d_RD_readTime_55 (by decide) ?_
                  refine ab_bipush (v := 57) X d_RD_readTime_57 (by decide) ?_
                  refine ab_callV (as := [ab_I 48, ab_I 57]) X (fun h => by cases h) (s_RD_oneOf u1 48 57 P1.1) lk_RD_114 d_RD_readTime_59 rfl rfl (by first | assumption | decide | (show _ < 124; omega) | (show _ < 61; omega) | (show _ < 20; omega)) ⟨by first | exact Nat.le_of_ble_eq_true rfl | (simp only [ab_rm]; omega), by first | exact Nat.le_of_ble_eq_true rfl | (simp only [ab_rm]; omega)⟩ ⟨by first | exact Nat.le_of_ble_eq_true rfl | (simp only [ab_rm]; omega), by first | exact Nat.le_of_ble_eq_true rfl | (simp only [ab_rm]; omega)⟩ (Nat.le_of_ble_eq_true rfl) (fun u59 r59 h59 => ?_)
                  obtain ⟨q59, x59, rfl⟩ := h59
                  have P59 := P1.trans q59 (by decide)
                  refine ab_istore4 X 0 1 2 3 d_RD_readTime_62 (by decide) rfl rfl rfl rfl rfl rfl rfl rfl ?_
                  refine ab_iload X 0 d_RD_readTime_64 rfl ?_
                  refine ab_if_ge X 80 d_RD_readTime_66 rfl (fun h66 => ?_) (fun h66 => ?_)
                  ·
                    refine ab_bipush (v := 10) X d_RD_readTime_80 (by decide) ?_
                    refine ab_iload_n X 3 d_RD_readTime_82 rfl rfl ?_
                    refine ab_imul X d_RD_readTime_83 ?_
                    refine ab_iload X 0 d_RD_readTime_84 rfl ?_
                    refine ab_iadd X d_RD_readTime_86 ?_
                    refine ab_istore_n4 X 0 1 2 4 d_RD_readTime_87 rfl (by decide) rfl rfl rfl rfl rfl rfl rfl rfl ?_
                    refine ab_iinc4 X 3 0 1 2 4 d_RD_readTime_88 rfl (by decide) rfl rfl rfl rfl rfl rfl rfl rfl ?_
                    refine ab_goto X 4 d_RD_readTime_91 rfl ?_
                    refine ab_lv (List.forall_mem_cons.mpr ⟨List.mem_of_getElem? (i := 0) rfl, List.forall_mem_cons.mpr ⟨List.mem_of_getElem? (i := 1) rfl, List.forall_mem_cons.mpr ⟨List.mem_of_getElem? (i := 4) rfl, fun _ h => absurd h List.not_mem_nil⟩⟩⟩) ?_
                    rw [show nI j + Int32.ofInt 1 = nI (j + 1) from nI_1 j]
                    exact ih (j + 1) _ _ (by omega) P59
                  ·
                    refine ab_aload_n X 4 d_RD_readTime_69 rfl rfl ?_
                    refine ab_aload_n X 4 d_RD_readTime_70 rfl rfl ?_
                    refine ab_gI X fl_RD_30 d_RD_readTime_71 (by first | assumption | decide | (show _ < 124; omega) | (show _ < 61; omega) | (show _ < 20; omega)) (rfl) ?_
                    refine ab_callV (as := [ab_I _]) X (fun h => by cases h) (s_RD_refuse u59 _ P59.1) lk_RD_46 d_RD_readTime_74 rfl rfl (by first | assumption | decide | (show _ < 124; omega) | (show _ < 61; omega) | (show _ < 20; omega)) ⟨by first | exact Nat.le_of_ble_eq_true rfl | (simp only [ab_rm]; omega), by first | exact Nat.le_of_ble_eq_true rfl | (simp only [ab_rm]; omega)⟩ ⟨by first | exact Nat.le_of_ble_eq_true rfl | (simp only [ab_rm]; omega), by first | exact Nat.le_of_ble_eq_true rfl | (simp only [ab_rm]; omega)⟩ (Nat.le_of_ble_eq_true rfl) (fun u74 r74 h74 => ?_)
                    obtain ⟨q74, b74, hb74, rfl⟩ := h74
                    have P74 := P59.trans q74 (by decide)
                    refine ab_pop X d_RD_readTime_77 rfl ?_
                    refine ab_iconst (v := (-1)) X d_RD_readTime_78 (by decide) ?_
                    exact ab_reti X hr0 hlk d_RD_readTime_79 ⟨P74, _, rfl⟩
                ·
                  refine ab_iconst (v := (-1)) X d_RD_readTime_50 (by decide) ?_
                  refine ab_goto X 62 d_RD_readTime_51 rfl ?_
                  refine ab_istore4 X 0 1 2 3 d_RD_readTime_62 (by decide) rfl rfl rfl rfl rfl rfl rfl rfl ?_
                  refine ab_iload X 0 d_RD_readTime_64 rfl ?_
                  refine ab_if_ge X 80 d_RD_readTime_66 rfl (fun h66 => ?_) (fun h66 => ?_)
                  ·
                    refine ab_bipush (v := 10) X d_RD_readTime_80 (by decide) ?_
                    refine ab_iload_n X 3 d_RD_readTime_82 rfl rfl ?_
                    refine ab_imul X d_RD_readTime_83 ?_
                    refine ab_iload X 0 d_RD_readTime_84 rfl ?_
                    refine ab_iadd X d_RD_readTime_86 ?_
                    refine ab_istore_n4 X 0 1 2 4 d_RD_readTime_87 rfl (by decide) rfl rfl rfl rfl rfl rfl rfl rfl ?_
                    refine ab_iinc4 X 3 0 1 2 4 d_RD_readTime_88 rfl (by decide) rfl rfl rfl rfl rfl rfl rfl rfl ?_
                    refine ab_goto X 4 d_RD_readTime_91 rfl ?_
                    refine ab_lv (List.forall_mem_cons.mpr ⟨List.mem_of_getElem? (i := 0) rfl, List.forall_mem_cons.mpr ⟨List.mem_of_getElem? (i := 1) rfl, List.forall_mem_cons.mpr ⟨List.mem_of_getElem? (i := 4) rfl, fun _ h => absurd h List.not_mem_nil⟩⟩⟩) ?_
                    rw [show nI j + Int32.ofInt 1 = nI (j + 1) from nI_1 j]
                    exact ih (j + 1) _ _ (by omega) P1
                  ·
                    refine ab_aload_n X 4 d_RD_readTime_69 rfl rfl ?_
                    refine ab_aload_n X 4 d_RD_readTime_70 rfl rfl ?_
                    refine ab_gI X fl_RD_30 d_RD_readTime_71 (by first | assumption | decide | (show _ < 124; omega) | (show _ < 61; omega) | (show _ < 20; omega)) (rfl) ?_
                    refine ab_callV (as := [ab_I _]) X (fun h => by cases h) (s_RD_refuse u1 _ P1.1) lk_RD_46 d_RD_readTime_74 rfl rfl (by first | assumption | decide | (show _ < 124; omega) | (show _ < 61; omega) | (show _ < 20; omega)) ⟨by first | exact Nat.le_of_ble_eq_true rfl | (simp only [ab_rm]; omega), by first | exact Nat.le_of_ble_eq_true rfl | (simp only [ab_rm]; omega)⟩ ⟨by first | exact Nat.le_of_ble_eq_true rfl | (simp only [ab_rm]; omega), by first | exact Nat.le_of_ble_eq_true rfl | (simp only [ab_rm]; omega)⟩ (Nat.le_of_ble_eq_true rfl) (fun u74 r74 h74 => ?_)
                    obtain ⟨q74, b74, hb74, rfl⟩ := h74
                    have P74 := P1.trans q74 (by decide)
                    refine ab_pop X d_RD_readTime_77 rfl ?_
                    refine ab_iconst (v := (-1)) X d_RD_readTime_78 (by decide) ?_
                    exact ab_reti X hr0 hlk d_RD_readTime_79 ⟨P74, _, rfl⟩
              ·
                refine ab_iconst (v := 1) X d_RD_readTime_40 (by decide) ?_
                refine ab_goto X 45 d_RD_readTime_41 rfl ?_
                refine ab_istore_n3 X 0 1 2 d_RD_readTime_45 rfl (by decide) rfl rfl rfl rfl rfl rfl ?_
                refine ab_iload_n X 0 d_RD_readTime_46 rfl rfl ?_
                refine ab_if_eq X 54 d_RD_readTime_47 rfl (fun h47 => ?_) (fun h47 => ?_)
                ·
                  refine ab_aload_n X 3 d_RD_readTime_54 rfl rfl ?_
                  refine ab_bipush (v := 48) X d_RD_readTime_55 (by decide) ?_
                  refine ab_bipush (v := 57) X d_RD_readTime_57 (by decide) ?_
                  refine ab_callV (as := [ab_I 48, ab_I 57]) X (fun h => by cases h) (s_RD_oneOf u1 48 57 P1.1) lk_RD_114 d_RD_readTime_59 rfl rfl (by first | assumption | decide | (show _ < 124; omega) | (show _ < 61; omega) | (show _ < 20; omega)) ⟨by first | exact Nat.le_of_ble_eq_true rfl | (simp only [ab_rm]; omega), by first | exact Nat.le_of_ble_eq_true rfl | (simp only [ab_rm]; omega)⟩ ⟨by first | exact Nat.le_of_ble_eq_true rfl | (simp only [ab_rm]; omega), by first | exact Nat.le_of_ble_eq_true rfl | (simp only [ab_rm]; omega)⟩ (Nat.le_of_ble_eq_true rfl) (fun u59 r59 h59 => ?_)
                  obtain ⟨q59, x59, rfl⟩ := h59
                  have P59 := P1.trans q59 (by decide)
                  refine ab_istore4 X 0 1 2 3 d_RD_readTime_62 (by decide) rfl rfl rfl rfl rfl rfl rfl rfl ?_
                  refine ab_iload X 0 d_RD_readTime_64 rfl ?_
                  refine ab_if_ge X 80 d_RD_readTime_66 rfl (fun h66 => ?_) (fun h66 => ?_)
                  ·
                    refine ab_bipush (v := 10) X d_RD_readTime_80 (by decide) ?_
                    refine ab_iload_n X 3 d_RD_readTime_82 rfl rfl ?_
                    refine ab_imul X d_RD_readTime_83 ?_
                    refine ab_iload X 0 d_RD_readTime_84 rfl ?_
                    refine ab_iadd X d_RD_readTime_86 ?_
                    refine ab_istore_n4 X 0 1 2 4 d_RD_readTime_87 rfl (by decide) rfl rfl rfl rfl rfl rfl rfl rfl ?_
                    refine ab_iinc4 X 3 0 1 2 4 d_RD_readTime_88 rfl (by decide) rfl rfl rfl rfl rfl rfl rfl rfl ?_
                    refine ab_goto X 4 d_RD_readTime_91 rfl ?_
                    refine ab_lv (List.forall_mem_cons.mpr ⟨List.mem_of_getElem? (i := 0) rfl, List.forall_mem_cons.mpr ⟨List.mem_of_getElem? (i := 1) rfl, List.forall_mem_cons.mpr ⟨List.mem_of_getElem? (i := 4) rfl, fun _ h => absurd h List.not_mem_nil⟩⟩⟩) ?_
                    rw [show nI j + Int32.ofInt 1 = nI (j + 1) from nI_1 j]
                    exact ih (j + 1) _ _ (by omega) P59
                  ·
                    refine ab_aload_n X 4 d_RD_readTime_69 rfl rfl ?_
                    refine ab_aload_n X 4 d_RD_readTime_70 rfl rfl ?_
                    refine ab_gI X fl_RD_30 d_RD_readTime_71 (by first | assumption | decide | (show _ < 124; omega) | (show _ < 61; omega) | (show _ < 20; omega)) (rfl) ?_
                    refine ab_callV (as := [ab_I _]) X (fun h => by cases h) (s_RD_refuse u59 _ P59.1) lk_RD_46 d_RD_readTime_74 rfl rfl (by first | assumption | decide | (show _ < 124; omega) | (show _ < 61; omega) | (show _ < 20; omega)) ⟨by first | exact Nat.le_of_ble_eq_true rfl | (simp only [ab_rm]; omega), by first | exact Nat.le_of_ble_eq_true rfl | (simp only [ab_rm]; omega)⟩ ⟨by first | exact Nat.le_of_ble_eq_true rfl | (simp only [ab_rm]; omega), by first | exact Nat.le_of_ble_eq_true rfl | (simp only [ab_rm]; omega)⟩ (Nat.le_of_ble_eq_true rfl) (fun u74 r74 h74 => ?_)
                    obtain ⟨q74, b74, hb74, rfl⟩ := h74
                    have P74 := P59.trans q74 (by decide)
                    refine ab_pop X d_RD_readTime_77 rfl ?_
                    refine ab_iconst (v := (-1)) X d_RD_readTime_78 (by decide) ?_
                    exact ab_reti X hr0 hlk d_RD_readTime_79 ⟨P74, _, rfl⟩
                ·
                  refine ab_iconst (v := (-1)) X d_RD_readTime_50 (by decide) ?_
                  refine ab_goto X 62 d_RD_readTime_51 rfl ?_
                  refine ab_istore4 X 0 1 2 3 d_RD_readTime_62 (by decide) rfl rfl rfl rfl rfl rfl rfl rfl ?_
                  refine ab_iload X 0 d_RD_readTime_64 rfl ?_
                  refine ab_if_ge X 80 d_RD_readTime_66 rfl (fun h66 => ?_) (fun h66 => ?_)
                  ·
                    refine ab_bipush (v := 10) X d_RD_readTime_80 (by decide) ?_
                    refine ab_iload_n X 3 d_RD_readTime_82 rfl rfl ?_
                    refine ab_imul X d_RD_readTime_83 ?_
                    refine ab_iload X 0 d_RD_readTime_84 rfl ?_
                    refine ab_iadd X d_RD_readTime_86 ?_
                    refine ab_istore_n4 X 0 1 2 4 d_RD_readTime_87 rfl (by decide) rfl rfl rfl rfl rfl rfl rfl rfl ?_
                    refine ab_iinc4 X 3 0 1 2 4 d_RD_readTime_88 rfl (by decide) rfl rfl rfl rfl rfl rfl rfl rfl ?_
                    refine ab_goto X 4 d_RD_readTime_91 rfl ?_
                    refine ab_lv (List.forall_mem_cons.mpr ⟨List.mem_of_getElem? (i := 0) rfl, List.forall_mem_cons.mpr ⟨List.mem_of_getElem? (i := 1) rfl, List.forall_mem_cons.mpr ⟨List.mem_of_getElem? (i := 4) rfl, fun _ h => absurd h List.not_mem_nil⟩⟩⟩) ?_
                    rw [show nI j + Int32.ofInt 1 = nI (j + 1) from nI_1 j]
                    exact ih (j + 1) _ _ (by omega) P1
                  ·
                    refine ab_aload_n X 4 d_RD_readTime_69 rfl rfl ?_
                    refine ab_aload_n X 4 d_RD_readTime_70 rfl rfl ?_
                    refine ab_gI X fl_RD_30 d_RD_readTime_71 (by first | assumption | decide | (show _ < 124; omega) | (show _ < 61; omega) | (show _ < 20; omega)) (rfl) ?_
                    refine ab_callV (as := [ab_I _]) X (fun h => by cases h) (s_RD_refuse u1 _ P1.1) lk_RD_46 d_RD_readTime_74 rfl rfl (by first | assumption | decide | (show _ < 124; omega) | (show _ < 61; omega) | (show _ < 20; omega)) ⟨by first | exact Nat.le_of_ble_eq_true rfl | (simp only [ab_rm]; omega), by first | exact Nat.le_of_ble_eq_true rfl | (simp only [ab_rm]; omega)⟩ ⟨by first | exact Nat.le_of_ble_eq_true rfl | (simp only [ab_rm]; omega), by first | exact Nat.le_of_ble_eq_true rfl | (simp only [ab_rm]; omega)⟩ (Nat.le_of_ble_eq_true rfl) (fun u74 r74 h74 => ?_)
                    obtain ⟨q74, b74, hb74, rfl⟩ := h74
                    have P74 := P1.trans q74 (by decide)
                    refine ab_pop X d_RD_readTime_77 rfl ?_
                    refine ab_iconst (v := (-1)) X d_RD_readTime_78 (by decide) ?_
                    exact ab_reti X hr0 hlk d_RD_readTime_79 ⟨P74, _, rfl⟩
        ·
          refine ab_aload_n X 2 d_RD_readTime_13 rfl rfl ?_
          refine ab_bipush (v := 41) X d_RD_readTime_14 (by decide) ?_
          refine ab_callV (as := [ab_I 41]) X (fun h => by cases h) (t_RD_isHere u1 41 P1.1) lk_RD_128 d_RD_readTime_16 rfl rfl (by first | assumption | decide | (show _ < 124; omega) | (show _ < 61; omega) | (show _ < 20; omega)) ⟨by first | exact Nat.le_of_ble_eq_true rfl | (simp only [ab_rm]; omega), by first | exact Nat.le_of_ble_eq_true rfl | (simp only [ab_rm]; omega)⟩ ⟨by first | exact Nat.le_of_ble_eq_true rfl | (simp only [ab_rm]; omega), by first | exact Nat.le_of_ble_eq_true rfl | (simp only [ab_rm]; omega)⟩ (Nat.le_of_ble_eq_true rfl) (fun u16 r16 h16 => ?_)
          obtain ⟨e16, b16, hb16, rfl⟩ := h16
          subst u16
          refine ab_if_ne X 94 d_RD_readTime_19 rfl (fun h19 => ?_) (fun h19 => ?_)
          ·
            refine ab_iload_n X 1 d_RD_readTime_94 rfl rfl ?_
            exact ab_reti X hr0 hlk d_RD_readTime_95 ⟨P1, _, rfl⟩
          ·
            refine ab_iload_n X 0 d_RD_readTime_22 rfl rfl ?_
            refine ab_iconst (v := 2) X d_RD_readTime_23 (by decide) ?_
            refine ab_icmp_ne X 44 d_RD_readTime_24 rfl (fun h24 => ?_) (fun h24 => ?_)
            ·
              refine ab_iconst (v := 0) X d_RD_readTime_44 (by decide) ?_
              refine ab_istore_n3 X 0 1 2 d_RD_readTime_45 rfl (by decide) rfl rfl rfl rfl rfl rfl ?_
              refine ab_iload_n X 0 d_RD_readTime_46 rfl rfl ?_
              refine ab_if_eq X 54 d_RD_readTime_47 rfl (fun h47 => ?_) (fun h47 => ?_)
              ·
                refine ab_aload_n X 3 d_RD_readTime_54 rfl rfl ?_
                refine ab_bipush (v := 48) X d_RD_readTime_55 (by decide) ?_
                refine ab_bipush (v := 57) X d_RD_readTime_57 (by decide) ?_
                refine ab_callV (as := [ab_I 48, ab_I 57]) X (fun h => by cases h) (s_RD_oneOf u1 48 57 P1.1) lk_RD_114 d_RD_readTime_59 rfl rfl (by first | assumption | decide | (show _ < 124; omega) | (show _ < 61; omega) | (show _ < 20; omega)) ⟨by first | exact Nat.le_of_ble_eq_true rfl | (simp only [ab_rm]; omega), by first | exact Nat.le_of_ble_eq_true rfl | (simp only [ab_rm]; omega)⟩ ⟨by first | exact Nat.le_of_ble_eq_true rfl | (simp only [ab_rm]; omega), by first | exact Nat.le_of_ble_eq_true rfl | (simp only [ab_rm]; omega)⟩ (Nat.le_of_ble_eq_true rfl) (fun u59 r59 h59 => ?_)
                obtain ⟨q59, x59, rfl⟩ := h59
                have P59 := P1.trans q59 (by decide)
                refine ab_istore4 X 0 1 2 3 d_RD_readTime_62 (by decide) rfl rfl rfl rfl rfl rfl rfl rfl ?_
                refine ab_iload X 0 d_RD_readTime_64 rfl ?_
                refine ab_if_ge X 80 d_RD_readTime_66 rfl (fun h66 => ?_) (fun h66 => ?_)
                ·
                  refine ab_bipush (v := 10) X d_RD_readTime_80 (by decide) ?_
                  refine ab_iload_n X 3 d_RD_readTime_82 rfl rfl ?_
                  refine ab_imul X d_RD_readTime_83 ?_
                  refine ab_iload X 0 d_RD_readTime_84 rfl ?_
                  refine ab_iadd X d_RD_readTime_86 ?_
                  refine ab_istore_n4 X 0 1 2 4 d_RD_readTime_87 rfl (by decide) rfl rfl rfl rfl rfl rfl rfl rfl ?_
                  refine ab_iinc4 X 3 0 1 2 4 d_RD_readTime_88 rfl (by decide) rfl rfl rfl rfl rfl rfl rfl rfl ?_
                  refine ab_goto X 4 d_RD_readTime_91 rfl ?_
                  refine ab_lv (List.forall_mem_cons.mpr ⟨List.mem_of_getElem? (i := 0) rfl, List.forall_mem_cons.mpr ⟨List.mem_of_getElem? (i := 1) rfl, List.forall_mem_cons.mpr ⟨List.mem_of_getElem? (i := 4) rfl, fun _ h => absurd h List.not_mem_nil⟩⟩⟩) ?_
                  rw [show nI j + Int32.ofInt 1 = nI (j + 1) from nI_1 j]
                  exact ih (j + 1) _ _ (by omega) P59
                ·
                  refine ab_aload_n X 4 d_RD_readTime_69 rfl rfl ?_
                  refine ab_aload_n X 4 d_RD_readTime_70 rfl rfl ?_
                  refine ab_gI X fl_RD_30 d_RD_readTime_71 (by first | assumption | decide | (show _ < 124; omega) | (show _ < 61; omega) | (show _ < 20; omega)) (rfl) ?_
                  refine ab_callV (as := [ab_I _]) X (fun h => by cases h) (s_RD_refuse u59 _ P59.1) lk_RD_46 d_RD_readTime_74 rfl rfl (by first | assumption | decide | (show _ < 124; omega) | (show _ < 61; omega) | (show _ < 20; omega)) ⟨by first | exact Nat.le_of_ble_eq_true rfl | (simp only [ab_rm]; omega), by first | exact Nat.le_of_ble_eq_true rfl | (simp only [ab_rm]; omega)⟩ ⟨by first | exact Nat.le_of_ble_eq_true rfl | (simp only [ab_rm]; omega), by first | exact Nat.le_of_ble_eq_true rfl | (simp only [ab_rm]; omega)⟩ (Nat.le_of_ble_eq_true rfl) (fun u74 r74 h74 => ?_)
                  obtain ⟨q74, b74, hb74, rfl⟩ := h74
                  have P74 := P59.trans q74 (by decide)
                  refine ab_pop X d_RD_readTime_77 rfl ?_
                  refine ab_iconst (v := (-1)) X d_RD_readTime_78 (by decide) ?_
                  exact ab_reti X hr0 hlk d_RD_readTime_79 ⟨P74, _, rfl⟩
              ·
                refine ab_iconst (v := (-1)) X d_RD_readTime_50 (by decide) ?_
                refine ab_goto X 62 d_RD_readTime_51 rfl ?_
                refine ab_istore4 X 0 1 2 3 d_RD_readTime_62 (by decide) rfl rfl rfl rfl rfl rfl rfl rfl ?_
                refine ab_iload X 0 d_RD_readTime_64 rfl ?_
                refine ab_if_ge X 80 d_RD_readTime_66 rfl (fun h66 => ?_) (fun h66 => ?_)
                ·
                  refine ab_bipush (v := 10) X d_RD_readTime_80 (by decide) ?_
                  refine ab_iload_n X 3 d_RD_readTime_82 rfl rfl ?_
                  refine ab_imul X d_RD_readTime_83 ?_
                  refine ab_iload X 0 d_RD_readTime_84 rfl ?_
                  refine ab_iadd X d_RD_readTime_86 ?_
                  refine ab_istore_n4 X 0 1 2 4 d_RD_readTime_87 rfl (by decide) rfl rfl rfl rfl rfl rfl rfl rfl ?_
                  refine ab_iinc4 X 3 0 1 2 4 d_RD_readTime_88 rfl (by decide) rfl rfl rfl rfl rfl rfl rfl rfl ?_
                  refine ab_goto X 4 d_RD_readTime_91 rfl ?_
                  refine ab_lv (List.forall_mem_cons.mpr ⟨List.mem_of_getElem? (i := 0) rfl, List.forall_mem_cons.mpr ⟨List.mem_of_getElem? (i := 1) rfl, List.forall_mem_cons.mpr ⟨List.mem_of_getElem? (i := 4) rfl, fun _ h => absurd h List.not_mem_nil⟩⟩⟩) ?_
                  rw [show nI j + Int32.ofInt 1 = nI (j + 1) from nI_1 j]
                  exact ih (j + 1) _ _ (by omega) P1
                ·
                  refine ab_aload_n X 4 d_RD_readTime_69 rfl rfl ?_
                  refine ab_aload_n X 4 d_RD_readTime_70 rfl rfl ?_
                  refine ab_gI X fl_RD_30 d_RD_readTime_71 (by first | assumption | decide | (show _ < 124; omega) | (show _ < 61; omega) | (show _ < 20; omega)) (rfl) ?_
                  refine ab_callV (as := [ab_I _]) X (fun h => by cases h) (s_RD_refuse u1 _ P1.1) lk_RD_46 d_RD_readTime_74 rfl rfl (by first | assumption | decide | (show _ < 124; omega) | (show _ < 61; omega) | (show _ < 20; omega)) ⟨by first | exact Nat.le_of_ble_eq_true rfl | (simp only [ab_rm]; omega), by first | exact Nat.le_of_ble_eq_true rfl | (simp only [ab_rm]; omega)⟩ ⟨by first | exact Nat.le_of_ble_eq_true rfl | (simp only [ab_rm]; omega), by first | exact Nat.le_of_ble_eq_true rfl | (simp only [ab_rm]; omega)⟩ (Nat.le_of_ble_eq_true rfl) (fun u74 r74 h74 => ?_)
                  obtain ⟨q74, b74, hb74, rfl⟩ := h74
                  have P74 := P1.trans q74 (by decide)
                  refine ab_pop X d_RD_readTime_77 rfl ?_
                  refine ab_iconst (v := (-1)) X d_RD_readTime_78 (by decide) ?_
                  exact ab_reti X hr0 hlk d_RD_readTime_79 ⟨P74, _, rfl⟩
            ·
              refine ab_iload_n X 1 d_RD_readTime_27 rfl rfl ?_
              refine ab_if_ne X 44 d_RD_readTime_28 rfl (fun h28 => ?_) (fun h28 => ?_)
              ·
                refine ab_iconst (v := 0) X d_RD_readTime_44 (by decide) ?_
                refine ab_istore_n3 X 0 1 2 d_RD_readTime_45 rfl (by decide) rfl rfl rfl rfl rfl rfl ?_
                refine ab_iload_n X 0 d_RD_readTime_46 rfl rfl ?_
                refine ab_if_eq X 54 d_RD_readTime_47 rfl (fun h47 => ?_) (fun h47 => ?_)
                ·
                  refine ab_aload_n X 3 d_RD_readTime_54 rfl rfl ?_
                  refine ab_bipush (v := 48) X d_RD_readTime_55 (by decide) ?_
                  refine ab_bipush (v := 57) X d_RD_readTime_57 (by decide) ?_
                  refine ab_callV (as := [ab_I 48, ab_I 57]) X (fun h => by cases h) (s_RD_oneOf u1 48 57 P1.1) lk_RD_114 d_RD_readTime_59 rfl rfl (by first | assumption | decide | (show _ < 124; omega) | (show _ < 61; omega) | (show _ < 20; omega)) ⟨by first | exact Nat.le_of_ble_eq_true rfl | (simp only [ab_rm]; omega), by first | exact Nat.le_of_ble_eq_true rfl | (simp only [ab_rm]; omega)⟩ ⟨by first | exact Nat.le_of_ble_eq_true rfl | (simp only [ab_rm]; omega), by first | exact Nat.le_of_ble_eq_true rfl | (simp only [ab_rm]; omega)⟩ (Nat.le_of_ble_eq_true rfl) (fun u59 r59 h59 => ?_)
                  obtain ⟨q59, x59, rfl⟩ := h59
                  have P59 := P1.trans q59 (by decide)
                  refine ab_istore4 X 0 1 2 3 d_RD_readTime_62 (by decide) rfl rfl rfl rfl rfl rfl rfl rfl ?_
                  refine ab_iload X 0 d_RD_readTime_64 rfl ?_
                  refine ab_if_ge X 80 d_RD_readTime_66 rfl (fun h66 => ?_) (fun h66 => ?_)
                  ·
                    refine ab_bipush (v := 10) X d_RD_readTime_80 (by decide) ?_
                    refine ab_iload_n X 3 d_RD_readTime_82 rfl rfl ?_
                    refine ab_imul X d_RD_readTime_83 ?_
                    refine ab_iload X 0 d_RD_readTime_84 rfl ?_
                    refine ab_iadd X d_RD_readTime_86 ?_
                    refine ab_istore_n4 X 0 1 2 4 d_RD_readTime_87 rfl (by decide) rfl rfl rfl rfl rfl rfl rfl rfl ?_
                    refine ab_iinc4 X 3 0 1 2 4 d_RD_readTime_88 rfl (by decide) rfl rfl rfl rfl rfl rfl rfl rfl ?_
                    refine ab_goto X 4 d_RD_readTime_91 rfl ?_
                    refine ab_lv (List.forall_mem_cons.mpr ⟨List.mem_of_getElem? (i := 0) rfl, List.forall_mem_cons.mpr ⟨List.mem_of_getElem? (i := 1) rfl, List.forall_mem_cons.mpr ⟨List.mem_of_getElem? (i := 4) rfl, fun _ h => absurd h List.not_mem_nil⟩⟩⟩) ?_
                    rw [show nI j + Int32.ofInt 1 = nI (j + 1) from nI_1 j]
                    exact ih (j + 1) _ _ (by omega) P59
                  ·
                    refine ab_aload_n X 4 d_RD_readTime_69 rfl rfl ?_
                    refine ab_aload_n X 4 d_RD_readTime_70 rfl rfl ?_
                    refine ab_gI X fl_RD_30 d_RD_readTime_71 (by first | assumption | decide | (show _ < 124; omega) | (show _ < 61; omega) | (show _ < 20; omega)) (rfl) ?_
                    refine ab_callV (as := [ab_I _]) X (fun h => by cases h) (s_RD_refuse u59 _ P59.1) lk_RD_46 d_RD_readTime_74 rfl rfl (by first | assumption | decide | (show _ < 124; omega) | (show _ < 61; omega) | (show _ < 20; omega)) ⟨by first | exact Nat.le_of_ble_eq_true rfl | (simp only [ab_rm]; omega), by first | exact Nat.le_of_ble_eq_true rfl | (simp only [ab_rm]; omega)⟩ ⟨by first | exact Nat.le_of_ble_eq_true rfl | (simp only [ab_rm]; omega), by first | exact Nat.le_of_ble_eq_true rfl | (simp only [ab_rm]; omega)⟩ (Nat.le_of_ble_eq_true rfl) (fun u74 r74 h74 => ?_)
                    obtain ⟨q74, b74, hb74, rfl⟩ := h74
                    have P74 := P59.trans q74 (by decide)
                    refine ab_pop X d_RD_readTime_77 rfl ?_
                    refine ab_iconst (v := (-1)) X d_RD_readTime_78 (by decide) ?_
                    exact ab_reti X hr0 hlk d_RD_readTime_79 ⟨P74, _, rfl⟩
                ·
                  refine ab_iconst (v := (-1)) X d_RD_readTime_50 (by decide) ?_
                  refine ab_goto X 62 d_RD_readTime_51 rfl ?_
                  refine ab_istore4 X 0 1 2 3 d_RD_readTime_62 (by decide) rfl rfl rfl rfl rfl rfl rfl rfl ?_
                  refine ab_iload X 0 d_RD_readTime_64 rfl ?_
                  refine ab_if_ge X 80 d_RD_readTime_66 rfl (fun h66 => ?_) (fun h66 => ?_)
                  ·
                    refine ab_bipush (v := 10) X d_RD_readTime_80 (by decide) ?_
                    refine ab_iload_n X 3 d_RD_readTime_82 rfl rfl ?_
                    refine ab_imul X d_RD_readTime_83 ?_
                    refine ab_iload X 0 d_RD_readTime_84 rfl ?_
                    refine ab_iadd X d_RD_readTime_86 ?_
                    refine ab_istore_n4 X 0 1 2 4 d_RD_readTime_87 rfl (by decide) rfl rfl rfl rfl rfl rfl rfl rfl ?_
                    refine ab_iinc4 X 3 0 1 2 4 d_RD_readTime_88 rfl (by decide) rfl rfl rfl rfl rfl rfl rfl rfl ?_
                    refine ab_goto X 4 d_RD_readTime_91 rfl ?_
                    refine ab_lv (List.forall_mem_cons.mpr ⟨List.mem_of_getElem? (i := 0) rfl, List.forall_mem_cons.mpr ⟨List.mem_of_getElem? (i := 1) rfl, List.forall_mem_cons.mpr ⟨List.mem_of_getElem? (i := 4) rfl, fun _ h => absurd h List.not_mem_nil⟩⟩⟩) ?_
                    rw [show nI j + Int32.ofInt 1 = nI (j + 1) from nI_1 j]
                    exact ih (j + 1) _ _ (by omega) P1
                  ·
                    refine ab_aload_n X 4 d_RD_readTime_69 rfl rfl ?_
                    refine ab_aload_n X 4 d_RD_readTime_70 rfl rfl ?_
                    refine ab_gI X fl_RD_30 d_RD_readTime_71 (by first | assumption | decide | (show _ < 124; omega) | (show _ < 61; omega) | (show _ < 20; omega)) (rfl) ?_
                    refine ab_callV (as := [ab_I _]) X (fun h => by cases h) (s_RD_refuse u1 _ P1.1) lk_RD_46 d_RD_readTime_74 rfl rfl (by first | assumption | decide | (show _ < 124; omega) | (show _ < 61; omega) | (show _ < 20; omega)) ⟨by first | exact Nat.le_of_ble_eq_true rfl | (simp only [ab_rm]; omega), by first | exact Nat.le_of_ble_eq_true rfl | (simp only [ab_rm]; omega)⟩ ⟨by first | exact Nat.le_of_ble_eq_true rfl | (simp only [ab_rm]; omega), by first | exact Nat.le_of_ble_eq_true rfl | (simp only [ab_rm]; omega)⟩ (Nat.le_of_ble_eq_true rfl) (fun u74 r74 h74 => ?_)
                    obtain ⟨q74, b74, hb74, rfl⟩ := h74
                    have P74 := P1.trans q74 (by decide)
                    refine ab_pop X d_RD_readTime_77 rfl ?_
                    refine ab_iconst (v := (-1)) X d_RD_readTime_78 (by decide) ?_
                    exact ab_reti X hr0 hlk d_RD_readTime_79 ⟨P74, _, rfl⟩
              ·
                refine ab_aload_n X 2 d_RD_readTime_31 rfl rfl ?_
                refine ab_bipush (v := 48) X d_RD_readTime_32 (by decide) ?_
                refine ab_callV (as := [ab_I 48]) X (fun h => by cases h) (t_RD_isHere u1 48 P1.1) lk_RD_128 d_RD_readTime_34 rfl rfl (by first | assumption | decide | (show _ < 124; omega) | (show _ < 61; omega) | (show _ < 20; omega)) ⟨by first | exact Nat.le_of_ble_eq_true rfl | (simp only [ab_rm]; omega), by first | exact Nat.le_of_ble_eq_true rfl | (simp only [ab_rm]; omega)⟩ ⟨by first | exact Nat.le_of_ble_eq_true rfl | (simp only [ab_rm]; omega), by first | exact Nat.le_of_ble_eq_true rfl | (simp only [ab_rm]; omega)⟩ (Nat.le_of_ble_eq_true rfl) (fun u34 r34 h34 => ?_)
                obtain ⟨e34, b34, hb34, rfl⟩ := h34
                subst u34
                refine ab_if_eq X 44 d_RD_readTime_37 rfl (fun h37 => ?_) (fun h37 => ?_)
                ·
                  refine ab_iconst (v := 0) X d_RD_readTime_44 (by decide) ?_
                  refine ab_istore_n3 X 0 1 2 d_RD_readTime_45 rfl (by decide) rfl rfl rfl rfl rfl rfl ?_
                  refine ab_iload_n X 0 d_RD_readTime_46 rfl rfl ?_
                  refine ab_if_eq X 54 d_RD_readTime_47 rfl (fun h47 => ?_) (fun h47 => ?_)
                  ·
                    refine ab_aload_n X 3 d_RD_readTime_54 rfl rfl ?_
                    refine ab_bipush (v := 48) X d_RD_readTime_55 (by decide) ?_
                    refine ab_bipush (v := 57) X d_RD_readTime_57 (by decide) ?_
                    refine ab_callV (as := [ab_I 48, ab_I 57]) X (fun h => by cases h) (s_RD_oneOf u1 48 57 P1.1) lk_RD_114 d_RD_readTime_59 rfl rfl (by first | assumption | decide | (show _ < 124; omega) | (show _ < 61; omega) | (show _ < 20; omega)) ⟨by first | exact Nat.le_of_ble_eq_true rfl | (simp only [ab_rm]; omega), by first | exact Nat.le_of_ble_eq_true rfl | (simp only [ab_rm]; omega)⟩ ⟨by first | exact Nat.le_of_ble_eq_true rfl | (simp only [ab_rm]; omega), by first | exact Nat.le_of_ble_eq_true rfl | (simp only [ab_rm]; omega)⟩ (Nat.le_of_ble_eq_true rfl) (fun u59 r59 h59 => ?_)
                    obtain ⟨q59, x59, rfl⟩ := h59
                    have P59 := P1.trans q59 (by decide)
                    refine ab_istore4 X 0 1 2 3 d_RD_readTime_62 (by decide) rfl rfl rfl rfl rfl rfl rfl rfl ?_
                    refine ab_iload X 0 d_RD_readTime_64 rfl ?_
                    refine ab_if_ge X 80 d_RD_readTime_66 rfl (fun h66 => ?_) (fun h66 => ?_)
                    ·
                      refine ab_bipush (v := 10) X d_RD_readTime_80 (by decide) ?_
                      refine ab_iload_n X 3 d_RD_readTime_82 rfl rfl ?_
                      refine ab_imul X d_RD_readTime_83 ?_
                      refine ab_iload X 0 d_RD_readTime_84 rfl ?_
                      refine ab_iadd X d_RD_readTime_86 ?_
                      refine ab_istore_n4 X 0 1 2 4 d_RD_readTime_87 rfl (by decide) rfl rfl rfl rfl rfl rfl rfl rfl ?_
                      refine ab_iinc4 X 3 0 1 2 4 d_RD_readTime_88 rfl (by decide) rfl rfl rfl rfl rfl rfl rfl rfl ?_
                      refine ab_goto X 4 d_RD_readTime_91 rfl ?_
                      refine ab_lv (List.forall_mem_cons.mpr ⟨List.mem_of_getElem? (i := 0) rfl, List.forall_mem_cons.mpr ⟨List.mem_of_getElem? (i := 1) rfl, List.forall_mem_cons.mpr ⟨List.mem_of_getElem? (i := 4) rfl, fun _ h => absurd h List.not_mem_nil⟩⟩⟩) ?_
                      rw [show nI j + Int32.ofInt 1 = nI (j + 1) from nI_1 j]
                      exact ih (j + 1) _ _ (by omega) P59
                    ·
                      refine ab_aload_n X 4 d_RD_readTime_69 rfl rfl ?_
                      refine ab_aload_n X 4 d_RD_readTime_70 rfl rfl ?_
                      refine ab_gI X fl_RD_30 d_RD_readTime_71 (by first | assumption | decide | (show _ < 124; omega) | (show _ < 61; omega) | (show _ < 20; omega)) (rfl) ?_
                      refine ab_callV (as := [ab_I _]) X (fun h => by cases h) (s_RD_refuse u59 _ P59.1) lk_RD_46 d_RD_readTime_74 rfl rfl (by first | assumption | decide | (show _ < 124; omega) | (show _ < 61; omega) | (show _ < 20; omega)) ⟨by first | exact Nat.le_of_ble_eq_true rfl | (simp only [ab_rm]; omega), by first | exact Nat.le_of_ble_eq_true rfl | (simp only [ab_rm]; omega)⟩ ⟨by first | exact Nat.le_of_ble_eq_true rfl | (simp only [ab_rm]; omega), by first | exact Nat.le_of_ble_eq_true rfl | (simp only [ab_rm]; omega)⟩ (Nat.le_of_ble_eq_true rfl) (fun u74 r74 h74 => ?_)
                      obtain ⟨q74, b74, hb74, rfl⟩ := h74
                      have P74 := P59.trans q74 (by decide)
                      refine ab_pop X d_RD_readTime_77 rfl ?_
                      refine ab_iconst (v := (-1)) X d_RD_readTime_78 (by decide) ?_
                      exact ab_reti X hr0 hlk d_RD_readTime_79 ⟨P74, _, rfl⟩
                  ·
                    refine ab_iconst (v := (-1)) X d_RD_readTime_50 (by decide) ?_
                    refine ab_goto X 62 d_RD_readTime_51 rfl ?_
                    refine ab_istore4 X 0 1 2 3 d_RD_readTime_62 (by decide) rfl rfl rfl rfl rfl rfl rfl rfl ?_
                    refine ab_iload X 0 d_RD_readTime_64 rfl ?_
                    refine ab_if_ge X 80 d_RD_readTime_66 rfl (fun h66 => ?_) (fun h66 => ?_)
                    ·
                      refine ab_bipush (v := 10) X d_RD_readTime_80 (by decide) ?_
                      refine ab_iload_n X 3 d_RD_readTime_82 rfl rfl ?_
                      refine ab_imul X d_RD_readTime_83 ?_
                      refine ab_iload X 0 d_RD_readTime_84 rfl ?_
                      refine ab_iadd X d_RD_readTime_86 ?_
                      refine ab_istore_n4 X 0 1 2 4 d_RD_readTime_87 rfl (by decide) rfl rfl rfl rfl rfl rfl rfl rfl ?_
                      refine ab_iinc4 X 3 0 1 2 4 d_RD_readTime_88 rfl (by decide) rfl rfl rfl rfl rfl rfl rfl rfl ?_
                      refine ab_goto X 4 d_RD_readTime_91 rfl ?_
                      refine ab_lv (List.forall_mem_cons.mpr ⟨List.mem_of_getElem? (i := 0) rfl, List.forall_mem_cons.mpr ⟨List.mem_of_getElem? (i := 1) rfl, List.forall_mem_cons.mpr ⟨List.mem_of_getElem? (i := 4) rfl, fun _ h => absurd h List.not_mem_nil⟩⟩⟩) ?_
                      rw [show nI j + Int32.ofInt 1 = nI (j + 1) from nI_1 j]
                      exact ih (j + 1) _ _ (by omega) P1
                    ·
                      refine ab_aload_n X 4 d_RD_readTime_69 rfl rfl ?_
                      refine ab_aload_n X 4 d_RD_readTime_70 rfl rfl ?_
                      refine ab_gI X fl_RD_30 d_RD_readTime_71 (by first | assumption | decide | (show _ < 124; omega) | (show _ < 61; omega) | (show _ < 20; omega)) (rfl) ?_
                      refine ab_callV (as := [ab_I _]) X (fun h => by cases h) (s_RD_refuse u1 _ P1.1) lk_RD_46 d_RD_readTime_74 rfl rfl (by first | assumption | decide | (show _ < 124; omega) | (show _ < 61; omega) | (show _ < 20; omega)) ⟨by first | exact Nat.le_of_ble_eq_true rfl | (simp only [ab_rm]; omega), by first | exact Nat.le_of_ble_eq_true rfl | (simp only [ab_rm]; omega)⟩ ⟨by first | exact Nat.le_of_ble_eq_true rfl | (simp only [ab_rm]; omega), by first | exact Nat.le_of_ble_eq_true rfl | (simp only [ab_rm]; omega)⟩ (Nat.le_of_ble_eq_true rfl) (fun u74 r74 h74 => ?_)
                      obtain ⟨q74, b74, hb74, rfl⟩ := h74
                      have P74 := P1.trans q74 (by decide)
                      refine ab_pop X d_RD_readTime_77 rfl ?_
                      refine ab_iconst (v := (-1)) X d_RD_readTime_78 (by decide) ?_
                      exact ab_reti X hr0 hlk d_RD_readTime_79 ⟨P74, _, rfl⟩
                ·
                  refine ab_iconst (v := 1) X d_RD_readTime_40 (by decide) ?_
                  refine ab_goto X 45 d_RD_readTime_41 rfl ?_
                  refine ab_istore_n3 X 0 1 2 d_RD_readTime_45 rfl (by decide) rfl rfl rfl rfl rfl rfl ?_
                  refine ab_iload_n X 0 d_RD_readTime_46 rfl rfl ?_
                  refine ab_if_eq X 54 d_RD_readTime_47 rfl (fun h47 => ?_) (fun h47 => ?_)
                  ·
                    refine ab_aload_n X 3 d_RD_readTime_54 rfl rfl ?_
                    refine ab_bipush (v := 48) X d_RD_readTime_55 (by decide) ?_
                    refine ab_bipush (v := 57) X d_RD_readTime_57 (by decide) ?_
                    refine ab_callV (as := [ab_I 48, ab_I 57]) X (fun h => by cases h) (s_RD_oneOf u1 48 57 P1.1) lk_RD_114 d_RD_readTime_59 rfl rfl (by first | assumption | decide | (show _ < 124; omega) | (show _ < 61; omega) | (show _ < 20; omega)) ⟨by first | exact Nat.le_of_ble_eq_true rfl | (simp only [ab_rm]; omega), by first | exact Nat.le_of_ble_eq_true rfl | (simp only [ab_rm]; omega)⟩ ⟨by first | exact Nat.le_of_ble_eq_true rfl | (simp only [ab_rm]; omega), by first | exact Nat.le_of_ble_eq_true rfl | (simp only [ab_rm]; omega)⟩ (Nat.le_of_ble_eq_true rfl) (fun u59 r59 h59 => ?_)
                    obtain ⟨q59, x59, rfl⟩ := h59
                    have P59 := P1.trans q59 (by decide)
                    refine ab_istore4 X 0 1 2 3 d_RD_readTime_62 (by decide) rfl rfl rfl rfl rfl rfl rfl rfl ?_
                    refine ab_iload X 0 d_RD_readTime_64 rfl ?_
                    refine ab_if_ge X 80 d_RD_readTime_66 rfl (fun h66 => ?_) (fun h66 => ?_)
                    ·
                      refine ab_bipush (v := 10) X d_RD_readTime_80 (by decide) ?_
                      refine ab_iload_n X 3 d_RD_readTime_82 rfl rfl ?_
                      refine ab_imul X d_RD_readTime_83 ?_
                      refine ab_iload X 0 d_RD_readTime_84 rfl ?_
                      refine ab_iadd X d_RD_readTime_86 ?_
                      refine ab_istore_n4 X 0 1 2 4 d_RD_readTime_87 rfl (by decide) rfl rfl rfl rfl rfl rfl rfl rfl ?_
                      refine ab_iinc4 X 3 0 1 2 4 d_RD_readTime_88 rfl (by decide) rfl rfl rfl rfl rfl rfl rfl rfl ?_
                      refine ab_goto X 4 d_RD_readTime_91 rfl ?_
                      refine ab_lv (List.forall_mem_cons.mpr ⟨List.mem_of_getElem? (i := 0) rfl, List.forall_mem_cons.mpr ⟨List.mem_of_getElem? (i := 1) rfl, List.forall_mem_cons.mpr ⟨List.mem_of_getElem? (i := 4) rfl, fun _ h => absurd h List.not_mem_nil⟩⟩⟩) ?_
                      rw [show nI j + Int32.ofInt 1 = nI (j + 1) from nI_1 j]
                      exact ih (j + 1) _ _ (by omega) P59
                    ·
                      refine ab_aload_n X 4 d_RD_readTime_69 rfl rfl ?_
                      refine ab_aload_n X 4 d_RD_readTime_70 rfl rfl ?_
                      refine ab_gI X fl_RD_30 d_RD_readTime_71 (by first | assumption | decide | (show _ < 124; omega) | (show _ < 61; omega) | (show _ < 20; omega)) (rfl) ?_
                      refine ab_callV (as := [ab_I _]) X (fun h => by cases h) (s_RD_refuse u59 _ P59.1) lk_RD_46 d_RD_readTime_74 rfl rfl (by first | assumption | decide | (show _ < 124; omega) | (show _ < 61; omega) | (show _ < 20; omega)) ⟨by first | exact Nat.le_of_ble_eq_true rfl | (simp only [ab_rm]; omega), by first | exact Nat.le_of_ble_eq_true rfl | (simp only [ab_rm]; omega)⟩ ⟨by first | exact Nat.le_of_ble_eq_true rfl | (simp only [ab_rm]; omega), by first | exact Nat.le_of_ble_eq_true rfl | (simp only [ab_rm]; omega)⟩ (Nat.le_of_ble_eq_true rfl) (fun u74 r74 h74 => ?_)
                      obtain ⟨q74, b74, hb74, rfl⟩ := h74
                      have P74 := P59.trans q74 (by decide)
                      refine ab_pop X d_RD_readTime_77 rfl ?_
                      refine ab_iconst (v := (-1)) X d_RD_readTime_78 (by decide) ?_
                      exact ab_reti X hr0 hlk d_RD_readTime_79 ⟨P74, _, rfl⟩
                  ·
                    refine ab_iconst (v := (-1)) X d_RD_readTime_50 (by decide) ?_
                    refine ab_goto X 62 d_RD_readTime_51 rfl ?_
                    refine ab_istore4 X 0 1 2 3 d_RD_readTime_62 (by decide) rfl rfl rfl rfl rfl rfl rfl rfl ?_
                    refine ab_iload X 0 d_RD_readTime_64 rfl ?_
                    refine ab_if_ge X 80 d_RD_readTime_66 rfl (fun h66 => ?_) (fun h66 => ?_)
                    ·
                      refine ab_bipush (v := 10) X d_RD_readTime_80 (by decide) ?_
                      refine ab_iload_n X 3 d_RD_readTime_82 rfl rfl ?_
                      refine ab_imul X d_RD_readTime_83 ?_
                      refine ab_iload X 0 d_RD_readTime_84 rfl ?_
                      refine ab_iadd X d_RD_readTime_86 ?_
                      refine ab_istore_n4 X 0 1 2 4 d_RD_readTime_87 rfl (by decide) rfl rfl rfl rfl rfl rfl rfl rfl ?_
                      refine ab_iinc4 X 3 0 1 2 4 d_RD_readTime_88 rfl (by decide) rfl rfl rfl rfl rfl rfl rfl rfl ?_
                      refine ab_goto X 4 d_RD_readTime_91 rfl ?_
                      refine ab_lv (List.forall_mem_cons.mpr ⟨List.mem_of_getElem? (i := 0) rfl, List.forall_mem_cons.mpr ⟨List.mem_of_getElem? (i := 1) rfl, List.forall_mem_cons.mpr ⟨List.mem_of_getElem? (i := 4) rfl, fun _ h => absurd h List.not_mem_nil⟩⟩⟩) ?_
                      rw [show nI j + Int32.ofInt 1 = nI (j + 1) from nI_1 j]
                      exact ih (j + 1) _ _ (by omega) P1
                    ·
                      refine ab_aload_n X 4 d_RD_readTime_69 rfl rfl ?_
                      refine ab_aload_n X 4 d_RD_readTime_70 rfl rfl ?_
                      refine ab_gI X fl_RD_30 d_RD_readTime_71 (by first | assumption | decide | (show _ < 124; omega) | (show _ < 61; omega) | (show _ < 20; omega)) (rfl) ?_
                      refine ab_callV (as := [ab_I _]) X (fun h => by cases h) (s_RD_refuse u1 _ P1.1) lk_RD_46 d_RD_readTime_74 rfl rfl (by first | assumption | decide | (show _ < 124; omega) | (show _ < 61; omega) | (show _ < 20; omega)) ⟨by first | exact Nat.le_of_ble_eq_true rfl | (simp only [ab_rm]; omega), by first | exact Nat.le_of_ble_eq_true rfl | (simp only [ab_rm]; omega)⟩ ⟨by first | exact Nat.le_of_ble_eq_true rfl | (simp only [ab_rm]; omega), by first | exact Nat.le_of_ble_eq_true rfl | (simp only [ab_rm]; omega)⟩ (Nat.le_of_ble_eq_true rfl) (fun u74 r74 h74 => ?_)
                      obtain ⟨q74, b74, hb74, rfl⟩ := h74
                      have P74 := P1.trans q74 (by decide)
                      refine ab_pop X d_RD_readTime_77 rfl ?_
                      refine ab_iconst (v := (-1)) X d_RD_readTime_78 (by decide) ?_
                      exact ab_reti X hr0 hlk d_RD_readTime_79 ⟨P74, _, rfl⟩
  refine ab_iconst (v := 0) X d_RD_readTime_0 (by decide) ?_
  refine ab_istore_n1 X 0 d_RD_readTime_1 rfl (by decide) rfl rfl ?_
  refine ab_iconst (v := 0) X d_RD_readTime_2 (by decide) ?_
  refine ab_istore_n2 X 0 1 d_RD_readTime_3 rfl (by decide) rfl rfl rfl rfl ?_
  exact loop 3 0 _ _ rfl P0
abbrev b_RD_readLeaf : ByteArray := prog_6_method_9_code
def y_RD_readLeaf : MethodName := ⟨"PolicyForge$Reader", "readLeaf", "(LPolicyForge$Part;I)Z"⟩
theorem d_RD_readLeaf_0 : decode b_RD_readLeaf 0 = .ok (.aload_n 0, 1) := by decide +kernel
theorem d_RD_readLeaf_1 : decode b_RD_readLeaf 1 = .ok (.dup, 1) := by decide +kernel
theorem d_RD_readLeaf_2 : decode b_RD_readLeaf 2 = .ok (.getfield 36, 3) := by decide +kernel
theorem d_RD_readLeaf_5 : decode b_RD_readLeaf 5 = .ok (.iconst 1, 1) := by decide +kernel
theorem d_RD_readLeaf_6 : decode b_RD_readLeaf 6 = .ok (.iadd, 1) := by decide +kernel
theorem d_RD_readLeaf_7 : decode b_RD_readLeaf 7 = .ok (.putfield 36, 3) := by decide +kernel
theorem d_RD_readLeaf_10 : decode b_RD_readLeaf 10 = .ok (.aload_n 0, 1) := by decide +kernel
theorem d_RD_readLeaf_11 : decode b_RD_readLeaf 11 = .ok (.getfield 36, 3) := by decide +kernel
theorem d_RD_readLeaf_14 : decode b_RD_readLeaf 14 = .ok (.bipush 10, 2) := by decide +kernel
theorem d_RD_readLeaf_16 : decode b_RD_readLeaf 16 = .ok (.if_icmp .le 9, 3) := by decide +kernel
theorem d_RD_readLeaf_19 : decode b_RD_readLeaf 19 = .ok (.aload_n 0, 1) := by decide +kernel
theorem d_RD_readLeaf_20 : decode b_RD_readLeaf 20 = .ok (.iload_n 2, 1) := by decide +kernel
theorem d_RD_readLeaf_21 : decode b_RD_readLeaf 21 = .ok (.invokevirtual 46, 3) := by decide +kernel
theorem d_RD_readLeaf_24 : decode b_RD_readLeaf 24 = .ok (.ireturn, 1) := by decide +kernel
theorem d_RD_readLeaf_25 : decode b_RD_readLeaf 25 = .ok (.aload_n 1, 1) := by decide +kernel
theorem d_RD_readLeaf_26 : decode b_RD_readLeaf 26 = .ok (.getfield 111, 3) := by decide +kernel
theorem d_RD_readLeaf_29 : decode b_RD_readLeaf 29 = .ok (.iconst 1, 1) := by decide +kernel
theorem d_RD_readLeaf_30 : decode b_RD_readLeaf 30 = .ok (.if_icmp .ne 18, 3) := by decide +kernel
theorem d_RD_readLeaf_33 : decode b_RD_readLeaf 33 = .ok (.aload_n 1, 1) := by decide +kernel
theorem d_RD_readLeaf_34 : decode b_RD_readLeaf 34 = .ok (.aload_n 0, 1) := by decide +kernel
theorem d_RD_readLeaf_35 : decode b_RD_readLeaf 35 = .ok (.bipush 65, 2) := by decide +kernel
theorem d_RD_readLeaf_37 : decode b_RD_readLeaf 37 = .ok (.bipush 72, 2) := by decide +kernel
theorem d_RD_readLeaf_39 : decode b_RD_readLeaf 39 = .ok (.invokevirtual 114, 3) := by decide +kernel
theorem d_RD_readLeaf_42 : decode b_RD_readLeaf 42 = .ok (.putfield 118, 3) := by decide +kernel
theorem d_RD_readLeaf_45 : decode b_RD_readLeaf 45 = .ok (.goto 34, 3) := by decide +kernel
theorem d_RD_readLeaf_48 : decode b_RD_readLeaf 48 = .ok (.aload_n 1, 1) := by decide +kernel
theorem d_RD_readLeaf_49 : decode b_RD_readLeaf 49 = .ok (.getfield 111, 3) := by decide +kernel
theorem d_RD_readLeaf_52 : decode b_RD_readLeaf 52 = .ok (.iconst 2, 1) := by decide +kernel
theorem d_RD_readLeaf_53 : decode b_RD_readLeaf 53 = .ok (.if_icmp .ne 18, 3) := by decide +kernel
theorem d_RD_readLeaf_56 : decode b_RD_readLeaf 56 = .ok (.aload_n 1, 1) := by decide +kernel
theorem d_RD_readLeaf_57 : decode b_RD_readLeaf 57 = .ok (.aload_n 0, 1) := by decide +kernel
theorem d_RD_readLeaf_58 : decode b_RD_readLeaf 58 = .ok (.bipush 48, 2) := by decide +kernel
theorem d_RD_readLeaf_60 : decode b_RD_readLeaf 60 = .ok (.bipush 57, 2) := by decide +kernel
theorem d_RD_readLeaf_62 : decode b_RD_readLeaf 62 = .ok (.invokevirtual 114, 3) := by decide +kernel
theorem d_RD_readLeaf_65 : decode b_RD_readLeaf 65 = .ok (.putfield 118, 3) := by decide +kernel
theorem d_RD_readLeaf_68 : decode b_RD_readLeaf 68 = .ok (.goto 11, 3) := by decide +kernel
theorem d_RD_readLeaf_71 : decode b_RD_readLeaf 71 = .ok (.aload_n 1, 1) := by decide +kernel
theorem d_RD_readLeaf_72 : decode b_RD_readLeaf 72 = .ok (.aload_n 0, 1) := by decide +kernel
theorem d_RD_readLeaf_73 : decode b_RD_readLeaf 73 = .ok (.invokevirtual 121, 3) := by decide +kernel
theorem d_RD_readLeaf_76 : decode b_RD_readLeaf 76 = .ok (.putfield 118, 3) := by decide +kernel
theorem d_RD_readLeaf_79 : decode b_RD_readLeaf 79 = .ok (.aload_n 1, 1) := by decide +kernel
theorem d_RD_readLeaf_80 : decode b_RD_readLeaf 80 = .ok (.getfield 118, 3) := by decide +kernel
theorem d_RD_readLeaf_83 : decode b_RD_readLeaf 83 = .ok (.ifCond .lt 16, 3) := by decide +kernel
theorem d_RD_readLeaf_86 : decode b_RD_readLeaf 86 = .ok (.aload_n 0, 1) := by decide +kernel
theorem d_RD_readLeaf_87 : decode b_RD_readLeaf 87 = .ok (.bipush 41, 2) := by decide +kernel
theorem d_RD_readLeaf_89 : decode b_RD_readLeaf 89 = .ok (.invokevirtual 124, 3) := by decide +kernel
theorem d_RD_readLeaf_92 : decode b_RD_readLeaf 92 = .ok (.ifCond .eq 7, 3) := by decide +kernel
theorem d_RD_readLeaf_95 : decode b_RD_readLeaf 95 = .ok (.iconst 1, 1) := by decide +kernel
theorem d_RD_readLeaf_96 : decode b_RD_readLeaf 96 = .ok (.goto 4, 3) := by decide +kernel
theorem d_RD_readLeaf_99 : decode b_RD_readLeaf 99 = .ok (.iconst 0, 1) := by decide +kernel
theorem d_RD_readLeaf_100 : decode b_RD_readLeaf 100 = .ok (.ireturn, 1) := by decide +kernel
theorem fl_RD_36 : ab_fl "PolicyForge$Reader" 36 1 6 0 := ⟨rfl, R_RD, T_RD, 8, rfl, uw_RD, by decide, rfl, (ab_in 252 (by decide +kernel) (by decide +kernel))⟩
theorem fl_RD_111 : ab_fl "PolicyForge$Reader" 111 2 4 0 := ⟨rfl, R_PT, T_PT, 8, rfl, uw_PT, by decide, rfl, (ab_in 220 (by decide +kernel) (by decide +kernel))⟩
theorem fp_RD_118 : ab_fp "PolicyForge$Reader" 118 2 5 0 .int := ⟨rfl, R_PT, T_PT, 8, t_PT, rfl, uw_PT, by decide, rfl, (ab_in 222 (by decide +kernel) (by decide +kernel)), t_PT_ok, n_PT, rfl, rfl⟩
theorem lk_RD_121 : ab_lk "PolicyForge$Reader" 121 y_RD_readTime b_RD_readTime 5 (some FieldType.int) 0 1 := ⟨⟨rfl, T_RD, 8, rfl⟩, List.forall_mem_cons.mpr ⟨(ab_in 514 (by decide +kernel) (by decide +kernel)), List.forall_mem_cons.mpr ⟨(ab_in 516 (by decide +kernel) (by decide +kernel)), List.forall_mem_cons.mpr ⟨(ab_in 7 (by decide +kernel) (by decide +kernel)), List.forall_mem_cons.mpr ⟨(ab_in 93 (by decide +kernel) (by decide +kernel)), List.forall_mem_cons.mpr ⟨(ab_in 517 (by decide +kernel) (by decide +kernel)), fun _ h => absurd h List.not_mem_nil⟩⟩⟩⟩⟩, ⟨by decide +kernel, by decide +kernel, by decide +kernel⟩, by decide⟩
theorem fl_RD_118 : ab_fl "PolicyForge$Reader" 118 2 5 0 := ⟨rfl, R_PT, T_PT, 8, rfl, uw_PT, by decide, rfl, (ab_in 222 (by decide +kernel) (by decide +kernel))⟩
theorem lk_RD_124 : ab_lk "PolicyForge$Reader" 124 y_RD_expect b_RD_expect 2 (some FieldType.boolean) 1 1 := ⟨⟨rfl, T_RD, 8, rfl⟩, List.forall_mem_cons.mpr ⟨(ab_in 522 (by decide +kernel) (by decide +kernel)), List.forall_mem_cons.mpr ⟨(ab_in 524 (by decide +kernel) (by decide +kernel)), List.forall_mem_cons.mpr ⟨(ab_in 9 (by decide +kernel) (by decide +kernel)), List.forall_mem_cons.mpr ⟨(ab_in 93 (by decide +kernel) (by decide +kernel)), List.forall_mem_cons.mpr ⟨(ab_in 525 (by decide +kernel) (by decide +kernel)), fun _ h => absurd h List.not_mem_nil⟩⟩⟩⟩⟩, ⟨by decide +kernel, by decide +kernel, by decide +kernel⟩, by decide⟩
set_option maxRecDepth 100000 in
set_option maxHeartbeats 1000000 in
theorem s_RD_readLeaf (u : ab_S) (p1 : Nat) (x : Int32) (h : CI u) (hp : p1 < 20) : ab_C false l D ca y_RD_readLeaf b_RD_readLeaf 3 (some FieldType.boolean) 3 ab_nQ u [ab_O 1 0, ab_O 2 p1, ab_I x] (fun u' v => cP [1, 2, 10] u u' ∧ ∃ b : Int32, (b = 0 ∨ b = 1) ∧ v = some (ab_I b)) := by
  refine ab_C.of (by decide) (Nat.le_of_ble_eq_true rfl) ?_
  intro p e s m args below meth c ad X hZ hr0 hlk
  have P0 : cP [1, 2, 10] u u := cQ.rf h
  refine ab_aload_n X 0 d_RD_readLeaf_0 rfl rfl ?_
  refine ab_dup X d_RD_readLeaf_1 rfl ?_
  refine ab_gI X fl_RD_36 d_RD_readLeaf_2 (by first | assumption | decide | (show _ < 124; omega) | (show _ < 61; omega) | (show _ < 20; omega)) (rfl) ?_
  refine ab_iconst (v := 1) X d_RD_readLeaf_5 (by decide) ?_
  refine ab_iadd X d_RD_readLeaf_6 ?_
  refine ab_putI X fp_RD_36 d_RD_readLeaf_7 (by first | assumption | decide | (show _ < 124; omega) | (show _ < 61; omega) | (show _ < 20; omega)) rfl rfl ?_
  refine ab_gen (fun u7 e7 => ?_)
  have P7 : cP [1, 2, 10] u u7 := by rw [e7]; exact P0.ui rfl (by decide)
  refine ab_aload_n X 0 d_RD_readLeaf_10 rfl rfl ?_
  refine ab_gI X fl_RD_36 d_RD_readLeaf_11 (by first | assumption | decide | (show _ < 124; omega) | (show _ < 61; omega) | (show _ < 20; omega)) (rfl) ?_
  refine ab_bipush (v := 10) X d_RD_readLeaf_14 (by decide) ?_
  refine ab_icmp_le X 25 d_RD_readLeaf_16 rfl (fun h16 => ?_) (fun h16 => ?_)
  ·
    refine ab_aload_n X 1 d_RD_readLeaf_25 rfl rfl ?_
    refine ab_gI X fl_RD_111 d_RD_readLeaf_26 (by first | assumption | decide | (show _ < 124; omega) | (show _ < 61; omega) | (show _ < 20; omega)) (rfl) ?_
    refine ab_iconst (v := 1) X d_RD_readLeaf_29 (by decide) ?_
    refine ab_icmp_ne X 48 d_RD_readLeaf_30 rfl (fun h30 => ?_) (fun h30 => ?_)
    ·
      refine ab_aload_n X 1 d_RD_readLeaf_48 rfl rfl ?_
      refine ab_gI X fl_RD_111 d_RD_readLeaf_49 (by first | assumption | decide | (show _ < 124; omega) | (show _ < 61; omega) | (show _ < 20; omega)) (rfl) ?_
      refine ab_iconst (v := 2) X d_RD_readLeaf_52 (by decide) ?_
      refine ab_icmp_ne X 71 d_RD_readLeaf_53 rfl (fun h53 => ?_) (fun h53 => ?_)
      ·
        refine ab_aload_n X 1 d_RD_readLeaf_71 rfl rfl ?_
        refine ab_aload_n X 0 d_RD_readLeaf_72 rfl rfl ?_
        refine ab_callV (as := []) X (fun h => by cases h) (s_RD_readTime u7 P7.1) lk_RD_121 d_RD_readLeaf_73 rfl rfl (by first | assumption | decide | (show _ < 124; omega) | (show _ < 61; omega) | (show _ < 20; omega)) ⟨by first | exact Nat.le_of_ble_eq_true rfl | (simp only [ab_rm]; omega), by first | exact Nat.le_of_ble_eq_true rfl | (simp only [ab_rm]; omega)⟩ ⟨by first | exact Nat.le_of_ble_eq_true rfl | (simp only [ab_rm]; omega), by first | exact Nat.le_of_ble_eq_true rfl | (simp only [ab_rm]; omega)⟩ (Nat.le_of_ble_eq_true rfl) (fun u73 r73 h73 => ?_)
        obtain ⟨q73, x73, rfl⟩ := h73
        have P73 := P7.trans q73 (by decide)
        refine ab_putI X fp_RD_118 d_RD_readLeaf_76 (by first | assumption | decide | (show _ < 124; omega) | (show _ < 61; omega) | (show _ < 20; omega)) rfl rfl ?_
        refine ab_gen (fun u76 e76 => ?_)
        have P76 : cP [1, 2, 10] u u76 := by rw [e76]; exact P73.ui rfl (by decide)
        refine ab_aload_n X 1 d_RD_readLeaf_79 rfl rfl ?_
        refine ab_gI X fl_RD_118 d_RD_readLeaf_80 (by first | assumption | decide | (show _ < 124; omega) | (show _ < 61; omega) | (show _ < 20; omega)) (rfl) ?_
        refine ab_if_lt X 99 d_RD_readLeaf_83 rfl (fun h83 => ?_) (fun h83 => ?_)
        ·
          refine ab_iconst (v := 0) X d_RD_readLeaf_99 (by decide) ?_
          exact ab_retz X hr0 hlk (by first | exact Or.inl rfl | exact Or.inr rfl) d_RD_readLeaf_100 ⟨P76, _, by first | exact Or.inl rfl | exact Or.inr rfl, rfl⟩
        ·
          refine ab_aload_n X 0 d_RD_readLeaf_86 rfl rfl ?_
          refine ab_bipush (v := 41) X d_RD_readLeaf_87 (by decide) ?_
          refine ab_callV (as := [ab_I 41]) X (fun h => by cases h) (s_RD_expect u76 41 P76.1) lk_RD_124 d_RD_readLeaf_89 rfl rfl (by first | assumption | decide | (show _ < 124; omega) | (show _ < 61; omega) | (show _ < 20; omega)) ⟨by first | exact Nat.le_of_ble_eq_true rfl | (simp only [ab_rm]; omega), by first | exact Nat.le_of_ble_eq_true rfl | (simp only [ab_rm]; omega)⟩ ⟨by first | exact Nat.le_of_ble_eq_true rfl | (simp only [ab_rm]; omega), by first | exact Nat.le_of_ble_eq_true rfl | (simp only [ab_rm]; omega)⟩ (Nat.le_of_ble_eq_true rfl) (fun u89 r89 h89 => ?_)
          obtain ⟨q89, b89, hb89, rfl⟩ := h89
          have P89 := P76.trans q89 (by decide)
          refine ab_if_eq X 99 d_RD_readLeaf_92 rfl (fun h92 => ?_) (fun h92 => ?_)
          ·
            refine ab_iconst (v := 0) X d_RD_readLeaf_99 (by decide) ?_
            exact ab_retz X hr0 hlk (by first | exact Or.inl rfl | exact Or.inr rfl) d_RD_readLeaf_100 ⟨P89, _, by first | exact Or.inl rfl | exact Or.inr rfl, rfl⟩
          ·
            refine ab_iconst (v := 1) X d_RD_readLeaf_95 (by decide) ?_
            refine ab_goto X 100 d_RD_readLeaf_96 rfl ?_
            exact ab_retz X hr0 hlk (by first | exact Or.inl rfl | exact Or.inr rfl) d_RD_readLeaf_100 ⟨P89, _, by first | exact Or.inl rfl | exact Or.inr rfl, rfl⟩
      ·
        refine ab_aload_n X 1 d_RD_readLeaf_56 rfl rfl ?_
        refine ab_aload_n X 0 d_RD_readLeaf_57 rfl rfl ?_
        refine ab_bipush (v := 48) X d_RD_readLeaf_58 (by decide) ?_
        refine ab_bipush (v := 57) X d_RD_readLeaf_60 (by decide) ?_
        refine ab_callV (as := [ab_I 48, ab_I 57]) X (fun h => by cases h) (s_RD_oneOf u7 48 57 P7.1) lk_RD_114 d_RD_readLeaf_62 rfl rfl (by first | assumption | decide | (show _ < 124; omega) | (show _ < 61; omega) | (show _ < 20; omega)) ⟨by first | exact Nat.le_of_ble_eq_true rfl | (simp only [ab_rm]; omega), by first | exact Nat.le_of_ble_eq_true rfl | (simp only [ab_rm]; omega)⟩ ⟨by first | exact Nat.le_of_ble_eq_true rfl | (simp only [ab_rm]; omega), by first | exact Nat.le_of_ble_eq_true rfl | (simp only [ab_rm]; omega)⟩ (Nat.le_of_ble_eq_true rfl) (fun u62 r62 h62 => ?_)
        obtain ⟨q62, x62, rfl⟩ := h62
        have P62 := P7.trans q62 (by decide)
        refine ab_putI X fp_RD_118 d_RD_readLeaf_65 (by first | assumption | decide | (show _ < 124; omega) | (show _ < 61; omega) | (show _ < 20; omega)) rfl rfl ?_
        refine ab_gen (fun u65 e65 => ?_)
        have P65 : cP [1, 2, 10] u u65 := by rw [e65]; exact P62.ui rfl (by decide)
        refine ab_goto X 79 d_RD_readLeaf_68 rfl ?_
        refine ab_aload_n X 1 d_RD_readLeaf_79 rfl rfl ?_
        refine ab_gI X fl_RD_118 d_RD_readLeaf_80 (by first | assumption | decide | (show _ < 124; omega) | (show _ < 61; omega) | (show _ < 20; omega)) (rfl) ?_
        refine ab_if_lt X 99 d_RD_readLeaf_83 rfl (fun h83 => ?_) (fun h83 => ?_)
        ·
          refine ab_iconst (v := 0) X d_RD_readLeaf_99 (by decide) ?_
          exact ab_retz X hr0 hlk (by first | exact Or.inl rfl | exact Or.inr rfl) d_RD_readLeaf_100 ⟨P65, _, by first | exact Or.inl rfl | exact Or.inr rfl, rfl⟩
        ·
          refine ab_aload_n X 0 d_RD_readLeaf_86 rfl rfl ?_
          refine ab_bipush (v := 41) X d_RD_readLeaf_87 (by decide) ?_
          refine ab_callV (as := [ab_I 41]) X (fun h => by cases h) (s_RD_expect u65 41 P65.1) lk_RD_124 d_RD_readLeaf_89 rfl rfl (by first | assumption | decide | (show _ < 124; omega) | (show _ < 61; omega) | (show _ < 20; omega)) ⟨by first | exact Nat.le_of_ble_eq_true rfl | (simp only [ab_rm]; omega), by first | exact Nat.le_of_ble_eq_true rfl | (simp only [ab_rm]; omega)⟩ ⟨by first | exact Nat.le_of_ble_eq_true rfl | (simp only [ab_rm]; omega), by first | exact Nat.le_of_ble_eq_true rfl | (simp only [ab_rm]; omega)⟩ (Nat.le_of_ble_eq_true rfl) (fun u89 r89 h89 => ?_)
          obtain ⟨q89, b89, hb89, rfl⟩ := h89
          have P89 := P65.trans q89 (by decide)
          refine ab_if_eq X 99 d_RD_readLeaf_92 rfl (fun h92 => ?_) (fun h92 => ?_)
          ·
            refine ab_iconst (v := 0) X d_RD_readLeaf_99 (by decide) ?_
            exact ab_retz X hr0 hlk (by first | exact Or.inl rfl | exact Or.inr rfl) d_RD_readLeaf_100 ⟨P89, _, by first | exact Or.inl rfl | exact Or.inr rfl, rfl⟩
          ·
            refine ab_iconst (v := 1) X d_RD_readLeaf_95 (by decide) ?_
            refine ab_goto X 100 d_RD_readLeaf_96 rfl ?_
            exact ab_retz X hr0 hlk (by first | exact Or.inl rfl | exact Or.inr rfl) d_RD_readLeaf_100 ⟨P89, _, by first | exact Or.inl rfl | exact Or.inr rfl, rfl⟩
    ·
      refine ab_aload_n X 1 d_RD_readLeaf_33 rfl rfl ?_
      refine ab_aload_n X 0 d_RD_readLeaf_34 rfl rfl ?_
      refine ab_bipush (v := 65) X d_RD_readLeaf_35 (by decide) ?_
      refine ab_bipush (v := 72) X d_RD_readLeaf_37 (by decide) ?_
      refine ab_callV (as := [ab_I 65, ab_I 72]) X (fun h => by cases h) (s_RD_oneOf u7 65 72 P7.1) lk_RD_114 d_RD_readLeaf_39 rfl rfl (by first | assumption | decide | (show _ < 124; omega) | (show _ < 61; omega) | (show _ < 20; omega)) ⟨by first | exact Nat.le_of_ble_eq_true rfl | (simp only [ab_rm]; omega), by first | exact Nat.le_of_ble_eq_true rfl | (simp only [ab_rm]; omega)⟩ ⟨by first | exact Nat.le_of_ble_eq_true rfl | (simp only [ab_rm]; omega), by first | exact Nat.le_of_ble_eq_true rfl | (simp only [ab_rm]; omega)⟩ (Nat.le_of_ble_eq_true rfl) (fun u39 r39 h39 => ?_)
      obtain ⟨q39, x39, rfl⟩ := h39
      have P39 := P7.trans q39 (by decide)
      refine ab_putI X fp_RD_118 d_RD_readLeaf_42 (by first | assumption | decide | (show _ < 124; omega) | (show _ < 61; omega) | (show _ < 20; omega)) rfl rfl ?_
      refine ab_gen (fun u42 e42 => ?_)
      have P42 : cP [1, 2, 10] u u42 := by rw [e42]; exact P39.ui rfl (by decide)
      refine ab_goto X 79 d_RD_readLeaf_45 rfl ?_
      refine ab_aload_n X 1 d_RD_readLeaf_79 rfl rfl ?_
      refine ab_gI X fl_RD_118 d_RD_readLeaf_80 (by first | assumption | decide | (show _ < 124; omega) | (show _ < 61; omega) | (show _ < 20; omega)) (rfl) ?_
      refine ab_if_lt X 99 d_RD_readLeaf_83 rfl (fun h83 => ?_) (fun h83 => ?_)
      ·
        refine ab_iconst (v := 0) X d_RD_readLeaf_99 (by decide) ?_
        exact ab_retz X hr0 hlk (by first | exact Or.inl rfl | exact Or.inr rfl) d_RD_readLeaf_100 ⟨P42, _, by first | exact Or.inl rfl | exact Or.inr rfl, rfl⟩
      ·
        refine ab_aload_n X 0 d_RD_readLeaf_86 rfl rfl ?_
        refine ab_bipush (v := 41) X d_RD_readLeaf_87 (by decide) ?_
        refine ab_callV (as := [ab_I 41]) X (fun h => by cases h) (s_RD_expect u42 41 P42.1) lk_RD_124 d_RD_readLeaf_89 rfl rfl (by first | assumption | decide | (show _ < 124; omega) | (show _ < 61; omega) | (show _ < 20; omega)) ⟨by first | exact Nat.le_of_ble_eq_true rfl | (simp only [ab_rm]; omega), by first | exact Nat.le_of_ble_eq_true rfl | (simp only [ab_rm]; omega)⟩ ⟨by first | exact Nat.le_of_ble_eq_true rfl | (simp only [ab_rm]; omega), by first | exact Nat.le_of_ble_eq_true rfl | (simp only [ab_rm]; omega)⟩ (Nat.le_of_ble_eq_true rfl) (fun u89 r89 h89 => ?_)
        obtain ⟨q89, b89, hb89, rfl⟩ := h89
        have P89 := P42.trans q89 (by decide)
        refine ab_if_eq X 99 d_RD_readLeaf_92 rfl (fun h92 => ?_) (fun h92 => ?_)
        ·
          refine ab_iconst (v := 0) X d_RD_readLeaf_99 (by decide) ?_
          exact ab_retz X hr0 hlk (by first | exact Or.inl rfl | exact Or.inr rfl) d_RD_readLeaf_100 ⟨P89, _, by first | exact Or.inl rfl | exact Or.inr rfl, rfl⟩
        ·
          refine ab_iconst (v := 1) X d_RD_readLeaf_95 (by decide) ?_
          refine ab_goto X 100 d_RD_readLeaf_96 rfl ?_
          exact ab_retz X hr0 hlk (by first | exact Or.inl rfl | exact Or.inr rfl) d_RD_readLeaf_100 ⟨P89, _, by first | exact Or.inl rfl | exact Or.inr rfl, rfl⟩
  ·
    refine ab_aload_n X 0 d_RD_readLeaf_19 rfl rfl ?_
    refine ab_iload_n X 2 d_RD_readLeaf_20 rfl rfl ?_
    refine ab_callV (as := [ab_I x]) X (fun h => by cases h) (s_RD_refuse u7 x P7.1) lk_RD_46 d_RD_readLeaf_21 rfl rfl (by first | assumption | decide | (show _ < 124; omega) | (show _ < 61; omega) | (show _ < 20; omega)) ⟨by first | exact Nat.le_of_ble_eq_true rfl | (simp only [ab_rm]; omega), by first | exact Nat.le_of_ble_eq_true rfl | (simp only [ab_rm]; omega)⟩ ⟨by first | exact Nat.le_of_ble_eq_true rfl | (simp only [ab_rm]; omega), by first | exact Nat.le_of_ble_eq_true rfl | (simp only [ab_rm]; omega)⟩ (Nat.le_of_ble_eq_true rfl) (fun u21 r21 h21 => ?_)
    obtain ⟨q21, b21, hb21, rfl⟩ := h21
    have P21 := P7.trans q21 (by decide)
    exact ab_retz X hr0 hlk hb21 d_RD_readLeaf_24 ⟨P21, b21, hb21, rfl⟩
abbrev b_RD_newPart : ByteArray := prog_6_method_5_code
def y_RD_newPart : MethodName := ⟨"PolicyForge$Reader", "newPart", "(I)LPolicyForge$Part;"⟩
theorem d_RD_newPart_0 : decode b_RD_newPart 0 = .ok (.aload_n 0, 1) := by decide +kernel
theorem d_RD_newPart_1 : decode b_RD_newPart 1 = .ok (.getfield 22, 3) := by decide +kernel
theorem d_RD_newPart_4 : decode b_RD_newPart 4 = .ok (.astore_n 2, 1) := by decide +kernel
theorem d_RD_newPart_5 : decode b_RD_newPart 5 = .ok (.aload_n 0, 1) := by decide +kernel
theorem d_RD_newPart_6 : decode b_RD_newPart 6 = .ok (.getfield 39, 3) := by decide +kernel
theorem d_RD_newPart_9 : decode b_RD_newPart 9 = .ok (.bipush 19, 2) := by decide +kernel
theorem d_RD_newPart_11 : decode b_RD_newPart 11 = .ok (.if_icmp .ge 23, 3) := by decide +kernel
theorem d_RD_newPart_14 : decode b_RD_newPart 14 = .ok (.aload_n 0, 1) := by decide +kernel
theorem d_RD_newPart_15 : decode b_RD_newPart 15 = .ok (.getfield 17, 3) := by decide +kernel
theorem d_RD_newPart_18 : decode b_RD_newPart 18 = .ok (.aload_n 0, 1) := by decide +kernel
theorem d_RD_newPart_19 : decode b_RD_newPart 19 = .ok (.getfield 39, 3) := by decide +kernel
theorem d_RD_newPart_22 : decode b_RD_newPart 22 = .ok (.aaload, 1) := by decide +kernel
theorem d_RD_newPart_23 : decode b_RD_newPart 23 = .ok (.astore_n 2, 1) := by decide +kernel
theorem d_RD_newPart_24 : decode b_RD_newPart 24 = .ok (.aload_n 0, 1) := by decide +kernel
theorem d_RD_newPart_25 : decode b_RD_newPart 25 = .ok (.dup, 1) := by decide +kernel
theorem d_RD_newPart_26 : decode b_RD_newPart 26 = .ok (.getfield 39, 3) := by decide +kernel
theorem d_RD_newPart_29 : decode b_RD_newPart 29 = .ok (.iconst 1, 1) := by decide +kernel
theorem d_RD_newPart_30 : decode b_RD_newPart 30 = .ok (.iadd, 1) := by decide +kernel
theorem d_RD_newPart_31 : decode b_RD_newPart 31 = .ok (.putfield 39, 3) := by decide +kernel
theorem d_RD_newPart_34 : decode b_RD_newPart 34 = .ok (.aload_n 2, 1) := by decide +kernel
theorem d_RD_newPart_35 : decode b_RD_newPart 35 = .ok (.iload_n 1, 1) := by decide +kernel
theorem d_RD_newPart_36 : decode b_RD_newPart 36 = .ok (.invokevirtual 68, 3) := by decide +kernel
theorem d_RD_newPart_39 : decode b_RD_newPart 39 = .ok (.aload_n 2, 1) := by decide +kernel
theorem d_RD_newPart_40 : decode b_RD_newPart 40 = .ok (.areturn, 1) := by decide +kernel
theorem fl_RD_22 : ab_fl "PolicyForge$Reader" 22 1 2 1 := ⟨rfl, R_RD, T_RD, 8, rfl, uw_RD, by decide, rfl, (ab_in 246 (by decide +kernel) (by decide +kernel))⟩
theorem fl_RD_39 : ab_fl "PolicyForge$Reader" 39 1 7 0 := ⟨rfl, R_RD, T_RD, 8, rfl, uw_RD, by decide, rfl, (ab_in 254 (by decide +kernel) (by decide +kernel))⟩
theorem lk_RD_68 : ab_lk "PolicyForge$Reader" 68 y_PT_start b_PT_start 2 none 1 2 := ⟨⟨rfl, T_PT, 8, rfl⟩, List.forall_mem_cons.mpr ⟨(ab_in 499 (by decide +kernel) (by decide +kernel)), List.forall_mem_cons.mpr ⟨(ab_in 500 (by decide +kernel) (by decide +kernel)), List.forall_mem_cons.mpr ⟨(ab_in 501 (by decide +kernel) (by decide +kernel)), List.forall_mem_cons.mpr ⟨(ab_in 94 (by decide +kernel) (by decide +kernel)), List.forall_mem_cons.mpr ⟨(ab_in 502 (by decide +kernel) (by decide +kernel)), fun _ h => absurd h List.not_mem_nil⟩⟩⟩⟩⟩, ⟨by decide +kernel, by decide +kernel, by decide +kernel⟩, by decide⟩
set_option maxRecDepth 100000 in
set_option maxHeartbeats 1000000 in
theorem s_RD_newPart (u : ab_S) (x : Int32) (h : CI u) : ab_C false l D ca y_RD_newPart b_RD_newPart 3 (some (FieldType.object "PolicyForge$Part")) 1 ab_nQ u [ab_O 1 0, ab_I x] (fun u' v => cP [1, 2, 10] u u' ∧ ∃ q, q < 20 ∧ v = some (ab_O 2 q)) := by
  refine ab_C.of (by decide) (Nat.le_of_ble_eq_true rfl) ?_
  intro p e s m args below meth c ad X hZ hr0 hlk
  have P0 : cP [1, 2, 10] u u := cQ.rf h
  obtain ⟨-, -, n, hn, en⟩ := h.rd
  refine ab_aload_n X 0 d_RD_newPart_0 rfl rfl ?_
  refine ab_gR X fl_RD_22 d_RD_newPart_1 (by first | assumption | decide | (show _ < 124; omega) | (show _ < 61; omega) | (show _ < 20; omega)) (P0.1.rd2) ?_
  refine ab_astore_n2 X 0 1 d_RD_newPart_4 rfl (by decide) rfl rfl rfl rfl ?_
  refine ab_aload_n X 1 d_RD_newPart_5 rfl rfl ?_
  refine ab_gI X fl_RD_39 d_RD_newPart_6 (by first | assumption | decide | (show _ < 124; omega) | (show _ < 61; omega) | (show _ < 20; omega)) (en) ?_
  refine ab_bipush (v := 19) X d_RD_newPart_9 (by decide) ?_
  refine ab_icmp_ge X 34 d_RD_newPart_11 rfl (fun h11 => ?_) (fun h11 => ?_)
  ·
    refine ab_aload_n X 0 d_RD_newPart_34 rfl rfl ?_
    refine ab_iload_n X 2 d_RD_newPart_35 rfl rfl ?_
    refine ab_callV (as := [ab_I x]) X (fun h => by cases h) (s_PT_start u _ x P0.1 (by omega)) lk_RD_68 d_RD_newPart_36 rfl rfl (by first | assumption | decide | (show _ < 124; omega) | (show _ < 61; omega) | (show _ < 20; omega)) ⟨by first | exact Nat.le_of_ble_eq_true rfl | (simp only [ab_rm]; omega), by first | exact Nat.le_of_ble_eq_true rfl | (simp only [ab_rm]; omega)⟩ ⟨by first | exact Nat.le_of_ble_eq_true rfl | (simp only [ab_rm]; omega), by first | exact Nat.le_of_ble_eq_true rfl | (simp only [ab_rm]; omega)⟩ (Nat.le_of_ble_eq_true rfl) (fun u36 r36 h36 => ?_)
    obtain ⟨q36, rfl⟩ := h36
    have P36 := P0.trans q36 (by decide)
    refine ab_aload_n X 0 d_RD_newPart_39 rfl rfl ?_
    exact ab_retr X hr0 hlk d_RD_newPart_40 ⟨P36, _, by omega, rfl⟩
  ·
    have hn1 := nI_lt_of (b := 19) h11 (by omega)
    refine ab_aload_n X 1 d_RD_newPart_14 rfl rfl ?_
    refine ab_gR X fl_RD_17 d_RD_newPart_15 (by first | assumption | decide | (show _ < 124; omega) | (show _ < 61; omega) | (show _ < 20; omega)) (P0.1.rd1) ?_
    refine ab_aload_n X 1 d_RD_newPart_18 rfl rfl ?_
    refine ab_gI X fl_RD_39 d_RD_newPart_19 (by first | assumption | decide | (show _ < 124; omega) | (show _ < 61; omega) | (show _ < 20; omega)) (en) ?_
    refine ab_aalv X (n) ⟨rfl, _, fun _ => rfl⟩ d_RD_newPart_22 (by first | assumption | decide | (show _ < 124; omega) | (show _ < 61; omega) | (show _ < 20; omega)) (rfl) (hn1) (ab_ln_lt _ _) (h.rp hn1) ?_
    refine ab_astore_n2 X 1 2 d_RD_newPart_23 rfl (by decide) rfl rfl rfl rfl ?_
    refine ab_aload_n X 1 d_RD_newPart_24 rfl rfl ?_
    refine ab_dup X d_RD_newPart_25 rfl ?_
    refine ab_gI X fl_RD_39 d_RD_newPart_26 (by first | assumption | decide | (show _ < 124; omega) | (show _ < 61; omega) | (show _ < 20; omega)) (en) ?_
    refine ab_iconst (v := 1) X d_RD_newPart_29 (by decide) ?_
    refine ab_iadd X d_RD_newPart_30 ?_
    refine ab_top (nI_1 _) ?_
    refine ab_putI X fp_RD_39 d_RD_newPart_31 (by first | assumption | decide | (show _ < 124; omega) | (show _ < 61; omega) | (show _ < 20; omega)) rfl rfl ?_
    refine ab_gen (fun u31 e31 => ?_)
    have P31 : cP [1, 2, 10] u u31 := by rw [e31]; exact P0.used (by decide) (by omega)
    refine ab_aload_n X 0 d_RD_newPart_34 rfl rfl ?_
    refine ab_iload_n X 2 d_RD_newPart_35 rfl rfl ?_
    refine ab_callV (as := [ab_I x]) X (fun h => by cases h) (s_PT_start u31 _ x P31.1 (by omega)) lk_RD_68 d_RD_newPart_36 rfl rfl (by first | assumption | decide | (show _ < 124; omega) | (show _ < 61; omega) | (show _ < 20; omega)) ⟨by first | exact Nat.le_of_ble_eq_true rfl | (simp only [ab_rm]; omega), by first | exact Nat.le_of_ble_eq_true rfl | (simp only [ab_rm]; omega)⟩ ⟨by first | exact Nat.le_of_ble_eq_true rfl | (simp only [ab_rm]; omega), by first | exact Nat.le_of_ble_eq_true rfl | (simp only [ab_rm]; omega)⟩ (Nat.le_of_ble_eq_true rfl) (fun u36 r36 h36 => ?_)
    obtain ⟨q36, rfl⟩ := h36
    have P36 := P31.trans q36 (by decide)
    refine ab_aload_n X 0 d_RD_newPart_39 rfl rfl ?_
    exact ab_retr X hr0 hlk d_RD_newPart_40 ⟨P36, _, by omega, rfl⟩
abbrev b_RD_readPart : ByteArray := prog_6_method_4_code
def y_RD_readPart : MethodName := ⟨"PolicyForge$Reader", "readPart", "(I)LPolicyForge$Part;"⟩
theorem d_RD_readPart_0 : decode b_RD_readPart 0 = .ok (.aload_n 0, 1) := by decide +kernel
theorem d_RD_readPart_1 : decode b_RD_readPart 1 = .ok (.getfield 30, 3) := by decide +kernel
theorem d_RD_readPart_4 : decode b_RD_readPart 4 = .ok (.istore_n 2, 1) := by decide +kernel
theorem d_RD_readPart_5 : decode b_RD_readPart 5 = .ok (.iload_n 1, 1) := by decide +kernel
theorem d_RD_readPart_6 : decode b_RD_readPart 6 = .ok (.bipush 40, 2) := by decide +kernel
theorem d_RD_readPart_8 : decode b_RD_readPart 8 = .ok (.if_icmp .le 14, 3) := by decide +kernel
theorem d_RD_readPart_11 : decode b_RD_readPart 11 = .ok (.aload_n 0, 1) := by decide +kernel
theorem d_RD_readPart_12 : decode b_RD_readPart 12 = .ok (.aload_n 0, 1) := by decide +kernel
theorem d_RD_readPart_13 : decode b_RD_readPart 13 = .ok (.getfield 30, 3) := by decide +kernel
theorem d_RD_readPart_16 : decode b_RD_readPart 16 = .ok (.invokevirtual 46, 3) := by decide +kernel
theorem d_RD_readPart_19 : decode b_RD_readPart 19 = .ok (.pop, 1) := by decide +kernel
theorem d_RD_readPart_20 : decode b_RD_readPart 20 = .ok (.aconst_null, 1) := by decide +kernel
theorem d_RD_readPart_21 : decode b_RD_readPart 21 = .ok (.areturn, 1) := by decide +kernel
theorem d_RD_readPart_22 : decode b_RD_readPart 22 = .ok (.aload_n 0, 1) := by decide +kernel
theorem d_RD_readPart_23 : decode b_RD_readPart 23 = .ok (.invokevirtual 50, 3) := by decide +kernel
theorem d_RD_readPart_26 : decode b_RD_readPart 26 = .ok (.istore_n 3, 1) := by decide +kernel
theorem d_RD_readPart_27 : decode b_RD_readPart 27 = .ok (.iload_n 3, 1) := by decide +kernel
theorem d_RD_readPart_28 : decode b_RD_readPart 28 = .ok (.ifCond .ne 5, 3) := by decide +kernel
theorem d_RD_readPart_31 : decode b_RD_readPart 31 = .ok (.aconst_null, 1) := by decide +kernel
theorem d_RD_readPart_32 : decode b_RD_readPart 32 = .ok (.areturn, 1) := by decide +kernel
theorem d_RD_readPart_33 : decode b_RD_readPart 33 = .ok (.aload_n 0, 1) := by decide +kernel
theorem d_RD_readPart_34 : decode b_RD_readPart 34 = .ok (.iload_n 3, 1) := by decide +kernel
theorem d_RD_readPart_35 : decode b_RD_readPart 35 = .ok (.invokevirtual 54, 3) := by decide +kernel
theorem d_RD_readPart_38 : decode b_RD_readPart 38 = .ok (.astore 4, 2) := by decide +kernel
theorem d_RD_readPart_40 : decode b_RD_readPart 40 = .ok (.iload_n 3, 1) := by decide +kernel
theorem d_RD_readPart_41 : decode b_RD_readPart 41 = .ok (.invokestatic 57, 3) := by decide +kernel
theorem d_RD_readPart_44 : decode b_RD_readPart 44 = .ok (.ifCond .eq 13, 3) := by decide +kernel
theorem d_RD_readPart_47 : decode b_RD_readPart 47 = .ok (.aload_n 0, 1) := by decide +kernel
theorem d_RD_readPart_48 : decode b_RD_readPart 48 = .ok (.aload 4, 2) := by decide +kernel
theorem d_RD_readPart_50 : decode b_RD_readPart 50 = .ok (.iload_n 2, 1) := by decide +kernel
theorem d_RD_readPart_51 : decode b_RD_readPart 51 = .ok (.invokevirtual 60, 3) := by decide +kernel
theorem d_RD_readPart_54 : decode b_RD_readPart 54 = .ok (.goto 11, 3) := by decide +kernel
theorem d_RD_readPart_57 : decode b_RD_readPart 57 = .ok (.aload_n 0, 1) := by decide +kernel
theorem d_RD_readPart_58 : decode b_RD_readPart 58 = .ok (.aload 4, 2) := by decide +kernel
theorem d_RD_readPart_60 : decode b_RD_readPart 60 = .ok (.iload_n 3, 1) := by decide +kernel
theorem d_RD_readPart_61 : decode b_RD_readPart 61 = .ok (.iload_n 1, 1) := by decide +kernel
theorem d_RD_readPart_62 : decode b_RD_readPart 62 = .ok (.invokevirtual 64, 3) := by decide +kernel
theorem d_RD_readPart_65 : decode b_RD_readPart 65 = .ok (.istore 5, 2) := by decide +kernel
theorem d_RD_readPart_67 : decode b_RD_readPart 67 = .ok (.iload 5, 2) := by decide +kernel
theorem d_RD_readPart_69 : decode b_RD_readPart 69 = .ok (.ifCond .eq 8, 3) := by decide +kernel
theorem d_RD_readPart_72 : decode b_RD_readPart 72 = .ok (.aload 4, 2) := by decide +kernel
theorem d_RD_readPart_74 : decode b_RD_readPart 74 = .ok (.goto 4, 3) := by decide +kernel
theorem d_RD_readPart_77 : decode b_RD_readPart 77 = .ok (.aconst_null, 1) := by decide +kernel
theorem d_RD_readPart_78 : decode b_RD_readPart 78 = .ok (.areturn, 1) := by decide +kernel
theorem lk_RD_50 : ab_lk "PolicyForge$Reader" 50 y_RD_kindHere b_RD_kindHere 8 (some FieldType.int) 0 1 := ⟨⟨rfl, T_RD, 8, rfl⟩, List.forall_mem_cons.mpr ⟨(ab_in 424 (by decide +kernel) (by decide +kernel)), List.forall_mem_cons.mpr ⟨(ab_in 426 (by decide +kernel) (by decide +kernel)), List.forall_mem_cons.mpr ⟨(ab_in 2 (by decide +kernel) (by decide +kernel)), List.forall_mem_cons.mpr ⟨(ab_in 93 (by decide +kernel) (by decide +kernel)), List.forall_mem_cons.mpr ⟨(ab_in 427 (by decide +kernel) (by decide +kernel)), fun _ h => absurd h List.not_mem_nil⟩⟩⟩⟩⟩, ⟨by decide +kernel, by decide +kernel, by decide +kernel⟩, by decide⟩
theorem lk_RD_54 : ab_lk "PolicyForge$Reader" 54 y_RD_newPart b_RD_newPart 3 (some (FieldType.object "PolicyForge$Part")) 1 1 := ⟨⟨rfl, T_RD, 8, rfl⟩, List.forall_mem_cons.mpr ⟨(ab_in 495 (by decide +kernel) (by decide +kernel)), List.forall_mem_cons.mpr ⟨(ab_in 497 (by decide +kernel) (by decide +kernel)), List.forall_mem_cons.mpr ⟨(ab_in 4 (by decide +kernel) (by decide +kernel)), List.forall_mem_cons.mpr ⟨(ab_in 93 (by decide +kernel) (by decide +kernel)), List.forall_mem_cons.mpr ⟨(ab_in 498 (by decide +kernel) (by decide +kernel)), fun _ h => absurd h List.not_mem_nil⟩⟩⟩⟩⟩, ⟨by decide +kernel, by decide +kernel, by decide +kernel⟩, by decide⟩
theorem ls_RD_57 : ab_lSN "PolicyForge$Reader" 57 y_PF_isLeaf "PolicyForge" b_PF_isLeaf 1 (some FieldType.boolean) 1 := ⟨(List.mem_filter.mpr ⟨List.mem_of_getElem? (i := 503) (by decide +kernel), by decide +kernel⟩), List.forall_mem_cons.mpr ⟨(ab_in 504 (by decide +kernel) (by decide +kernel)), List.forall_mem_cons.mpr ⟨(ab_in 92 (by decide +kernel) (by decide +kernel)), List.forall_mem_cons.mpr ⟨(ab_in 505 (by decide +kernel) (by decide +kernel)), fun _ h => absurd h List.not_mem_nil⟩⟩⟩, ⟨by decide +kernel, by decide +kernel, by decide +kernel⟩, by decide⟩
theorem lk_RD_60 : ab_lk "PolicyForge$Reader" 60 y_RD_readLeaf b_RD_readLeaf 3 (some FieldType.boolean) 2 1 := ⟨⟨rfl, T_RD, 8, rfl⟩, List.forall_mem_cons.mpr ⟨(ab_in 506 (by decide +kernel) (by decide +kernel)), List.forall_mem_cons.mpr ⟨(ab_in 508 (by decide +kernel) (by decide +kernel)), List.forall_mem_cons.mpr ⟨(ab_in 5 (by decide +kernel) (by decide +kernel)), List.forall_mem_cons.mpr ⟨(ab_in 93 (by decide +kernel) (by decide +kernel)), List.forall_mem_cons.mpr ⟨(ab_in 509 (by decide +kernel) (by decide +kernel)), fun _ h => absurd h List.not_mem_nil⟩⟩⟩⟩⟩, ⟨by decide +kernel, by decide +kernel, by decide +kernel⟩, by decide⟩
abbrev b_RD_readBranches : ByteArray := prog_6_method_10_code
def y_RD_readBranches : MethodName := ⟨"PolicyForge$Reader", "readBranches", "(LPolicyForge$Part;II)Z"⟩
theorem lk_RD_64 : ab_lk "PolicyForge$Reader" 64 y_RD_readBranches b_RD_readBranches 8 (some FieldType.boolean) 3 1 := ⟨⟨rfl, T_RD, 8, rfl⟩, List.forall_mem_cons.mpr ⟨(ab_in 526 (by decide +kernel) (by decide +kernel)), List.forall_mem_cons.mpr ⟨(ab_in 528 (by decide +kernel) (by decide +kernel)), List.forall_mem_cons.mpr ⟨(ab_in 10 (by decide +kernel) (by decide +kernel)), List.forall_mem_cons.mpr ⟨(ab_in 93 (by decide +kernel) (by decide +kernel)), List.forall_mem_cons.mpr ⟨(ab_in 529 (by decide +kernel) (by decide +kernel)), fun _ h => absurd h List.not_mem_nil⟩⟩⟩⟩⟩, ⟨by decide +kernel, by decide +kernel, by decide +kernel⟩, by decide⟩
theorem d_RD_readBranches_0 : decode b_RD_readBranches 0 = .ok (.iload_n 2, 1) := by decide +kernel
theorem d_RD_readBranches_1 : decode b_RD_readBranches 1 = .ok (.bipush 6, 2) := by decide +kernel
theorem d_RD_readBranches_3 : decode b_RD_readBranches 3 = .ok (.if_icmp .ne 7, 3) := by decide +kernel
theorem d_RD_readBranches_6 : decode b_RD_readBranches 6 = .ok (.iconst 2, 1) := by decide +kernel
theorem d_RD_readBranches_7 : decode b_RD_readBranches 7 = .ok (.goto 4, 3) := by decide +kernel
theorem d_RD_readBranches_10 : decode b_RD_readBranches 10 = .ok (.iconst 1, 1) := by decide +kernel
theorem d_RD_readBranches_11 : decode b_RD_readBranches 11 = .ok (.istore 4, 2) := by decide +kernel
theorem d_RD_readBranches_13 : decode b_RD_readBranches 13 = .ok (.iload_n 2, 1) := by decide +kernel
theorem d_RD_readBranches_14 : decode b_RD_readBranches 14 = .ok (.bipush 8, 2) := by decide +kernel
theorem d_RD_readBranches_16 : decode b_RD_readBranches 16 = .ok (.if_icmp .ne 7, 3) := by decide +kernel
theorem d_RD_readBranches_19 : decode b_RD_readBranches 19 = .ok (.iconst 4, 1) := by decide +kernel
theorem d_RD_readBranches_20 : decode b_RD_readBranches 20 = .ok (.goto 4, 3) := by decide +kernel
theorem d_RD_readBranches_23 : decode b_RD_readBranches 23 = .ok (.iconst 2, 1) := by decide +kernel
theorem d_RD_readBranches_24 : decode b_RD_readBranches 24 = .ok (.istore 5, 2) := by decide +kernel
theorem d_RD_readBranches_26 : decode b_RD_readBranches 26 = .ok (.iload_n 2, 1) := by decide +kernel
theorem d_RD_readBranches_27 : decode b_RD_readBranches 27 = .ok (.bipush 8, 2) := by decide +kernel
theorem d_RD_readBranches_29 : decode b_RD_readBranches 29 = .ok (.if_icmp .ne 32, 3) := by decide +kernel
theorem d_RD_readBranches_32 : decode b_RD_readBranches 32 = .ok (.iconst 1, 1) := by decide +kernel
theorem d_RD_readBranches_33 : decode b_RD_readBranches 33 = .ok (.aload_n 0, 1) := by decide +kernel
theorem d_RD_readBranches_34 : decode b_RD_readBranches 34 = .ok (.bipush 49, 2) := by decide +kernel
theorem d_RD_readBranches_36 : decode b_RD_readBranches 36 = .ok (.bipush 57, 2) := by decide +kernel
theorem d_RD_readBranches_38 : decode b_RD_readBranches 38 = .ok (.invokevirtual 114, 3) := by decide +kernel
theorem d_RD_readBranches_41 : decode b_RD_readBranches 41 = .ok (.iadd, 1) := by decide +kernel
theorem d_RD_readBranches_42 : decode b_RD_readBranches 42 = .ok (.istore 4, 2) := by decide +kernel
theorem d_RD_readBranches_44 : decode b_RD_readBranches 44 = .ok (.iload 4, 2) := by decide +kernel
theorem d_RD_readBranches_46 : decode b_RD_readBranches 46 = .ok (.iconst 1, 1) := by decide +kernel
theorem d_RD_readBranches_47 : decode b_RD_readBranches 47 = .ok (.if_icmp .lt 12, 3) := by decide +kernel
theorem d_RD_readBranches_50 : decode b_RD_readBranches 50 = .ok (.aload_n 0, 1) := by decide +kernel
theorem d_RD_readBranches_51 : decode b_RD_readBranches 51 = .ok (.bipush 44, 2) := by decide +kernel
theorem d_RD_readBranches_53 : decode b_RD_readBranches 53 = .ok (.invokevirtual 124, 3) := by decide +kernel
theorem d_RD_readBranches_56 : decode b_RD_readBranches 56 = .ok (.ifCond .ne 5, 3) := by decide +kernel
theorem d_RD_readBranches_59 : decode b_RD_readBranches 59 = .ok (.iconst 0, 1) := by decide +kernel
theorem d_RD_readBranches_60 : decode b_RD_readBranches 60 = .ok (.ireturn, 1) := by decide +kernel
theorem d_RD_readBranches_61 : decode b_RD_readBranches 61 = .ok (.aload_n 1, 1) := by decide +kernel
theorem d_RD_readBranches_62 : decode b_RD_readBranches 62 = .ok (.iload 4, 2) := by decide +kernel
theorem d_RD_readBranches_64 : decode b_RD_readBranches 64 = .ok (.putfield 118, 3) := by decide +kernel
theorem d_RD_readBranches_67 : decode b_RD_readBranches 67 = .ok (.iconst 0, 1) := by decide +kernel
theorem d_RD_readBranches_68 : decode b_RD_readBranches 68 = .ok (.istore 6, 2) := by decide +kernel
theorem d_RD_readBranches_70 : decode b_RD_readBranches 70 = .ok (.iload 6, 2) := by decide +kernel
theorem d_RD_readBranches_72 : decode b_RD_readBranches 72 = .ok (.iconst 2, 1) := by decide +kernel
theorem d_RD_readBranches_73 : decode b_RD_readBranches 73 = .ok (.if_icmp .lt 19, 3) := by decide +kernel
theorem d_RD_readBranches_76 : decode b_RD_readBranches 76 = .ok (.iload 6, 2) := by decide +kernel
theorem d_RD_readBranches_78 : decode b_RD_readBranches 78 = .ok (.iload 5, 2) := by decide +kernel
theorem d_RD_readBranches_80 : decode b_RD_readBranches 80 = .ok (.if_icmp .ge 56, 3) := by decide +kernel
theorem d_RD_readBranches_83 : decode b_RD_readBranches 83 = .ok (.aload_n 0, 1) := by decide +kernel
theorem d_RD_readBranches_84 : decode b_RD_readBranches 84 = .ok (.bipush 44, 2) := by decide +kernel
theorem d_RD_readBranches_86 : decode b_RD_readBranches 86 = .ok (.invokevirtual 128, 3) := by decide +kernel
theorem d_RD_readBranches_89 : decode b_RD_readBranches 89 = .ok (.ifCond .eq 47, 3) := by decide +kernel
theorem d_RD_readBranches_92 : decode b_RD_readBranches 92 = .ok (.iload 6, 2) := by decide +kernel
theorem d_RD_readBranches_94 : decode b_RD_readBranches 94 = .ok (.ifCond .le 14, 3) := by decide +kernel
theorem d_RD_readBranches_97 : decode b_RD_readBranches 97 = .ok (.aload_n 0, 1) := by decide +kernel
theorem d_RD_readBranches_98 : decode b_RD_readBranches 98 = .ok (.bipush 44, 2) := by decide +kernel
theorem d_RD_readBranches_100 : decode b_RD_readBranches 100 = .ok (.invokevirtual 124, 3) := by decide +kernel
theorem d_RD_readBranches_103 : decode b_RD_readBranches 103 = .ok (.ifCond .ne 5, 3) := by decide +kernel
theorem d_RD_readBranches_106 : decode b_RD_readBranches 106 = .ok (.iconst 0, 1) := by decide +kernel
theorem d_RD_readBranches_107 : decode b_RD_readBranches 107 = .ok (.ireturn, 1) := by decide +kernel
theorem d_RD_readBranches_108 : decode b_RD_readBranches 108 = .ok (.aload_n 0, 1) := by decide +kernel
theorem d_RD_readBranches_109 : decode b_RD_readBranches 109 = .ok (.iload_n 3, 1) := by decide +kernel
theorem d_RD_readBranches_110 : decode b_RD_readBranches 110 = .ok (.iconst 1, 1) := by decide +kernel
theorem d_RD_readBranches_111 : decode b_RD_readBranches 111 = .ok (.iadd, 1) := by decide +kernel
theorem d_RD_readBranches_112 : decode b_RD_readBranches 112 = .ok (.invokevirtual 42, 3) := by decide +kernel
theorem d_RD_readBranches_115 : decode b_RD_readBranches 115 = .ok (.astore 7, 2) := by decide +kernel
theorem d_RD_readBranches_117 : decode b_RD_readBranches 117 = .ok (.aload 7, 2) := by decide +kernel
theorem d_RD_readBranches_119 : decode b_RD_readBranches 119 = .ok (.ifnonnull 5, 3) := by decide +kernel
theorem d_RD_readBranches_122 : decode b_RD_readBranches 122 = .ok (.iconst 0, 1) := by decide +kernel
theorem d_RD_readBranches_123 : decode b_RD_readBranches 123 = .ok (.ireturn, 1) := by decide +kernel
theorem d_RD_readBranches_124 : decode b_RD_readBranches 124 = .ok (.aload_n 1, 1) := by decide +kernel
theorem d_RD_readBranches_125 : decode b_RD_readBranches 125 = .ok (.aload 7, 2) := by decide +kernel
theorem d_RD_readBranches_127 : decode b_RD_readBranches 127 = .ok (.invokevirtual 131, 3) := by decide +kernel
theorem d_RD_readBranches_130 : decode b_RD_readBranches 130 = .ok (.iinc 6 1, 3) := by decide +kernel
theorem d_RD_readBranches_133 : decode b_RD_readBranches 133 = .ok (.goto (-63), 3) := by decide +kernel
theorem d_RD_readBranches_136 : decode b_RD_readBranches 136 = .ok (.iload 6, 2) := by decide +kernel
theorem d_RD_readBranches_138 : decode b_RD_readBranches 138 = .ok (.iload 4, 2) := by decide +kernel
theorem d_RD_readBranches_140 : decode b_RD_readBranches 140 = .ok (.if_icmp .ge 14, 3) := by decide +kernel
theorem d_RD_readBranches_143 : decode b_RD_readBranches 143 = .ok (.aload_n 0, 1) := by decide +kernel
theorem d_RD_readBranches_144 : decode b_RD_readBranches 144 = .ok (.aload_n 0, 1) := by decide +kernel
theorem d_RD_readBranches_145 : decode b_RD_readBranches 145 = .ok (.getfield 30, 3) := by decide +kernel
theorem d_RD_readBranches_148 : decode b_RD_readBranches 148 = .ok (.invokevirtual 46, 3) := by decide +kernel
theorem d_RD_readBranches_151 : decode b_RD_readBranches 151 = .ok (.goto 9, 3) := by decide +kernel
theorem d_RD_readBranches_154 : decode b_RD_readBranches 154 = .ok (.aload_n 0, 1) := by decide +kernel
theorem d_RD_readBranches_155 : decode b_RD_readBranches 155 = .ok (.bipush 41, 2) := by decide +kernel
theorem d_RD_readBranches_157 : decode b_RD_readBranches 157 = .ok (.invokevirtual 124, 3) := by decide +kernel
theorem d_RD_readBranches_160 : decode b_RD_readBranches 160 = .ok (.ireturn, 1) := by decide +kernel
theorem lk_RD_42 : ab_lk "PolicyForge$Reader" 42 y_RD_readPart b_RD_readPart 6 (some (FieldType.object "PolicyForge$Part")) 1 1 := ⟨⟨rfl, T_RD, 8, rfl⟩, List.forall_mem_cons.mpr ⟨(ab_in 416 (by decide +kernel) (by decide +kernel)), List.forall_mem_cons.mpr ⟨(ab_in 418 (by decide +kernel) (by decide +kernel)), List.forall_mem_cons.mpr ⟨(ab_in 0 (by decide +kernel) (by decide +kernel)), List.forall_mem_cons.mpr ⟨(ab_in 93 (by decide +kernel) (by decide +kernel)), List.forall_mem_cons.mpr ⟨(ab_in 419 (by decide +kernel) (by decide +kernel)), fun _ h => absurd h List.not_mem_nil⟩⟩⟩⟩⟩, ⟨by decide +kernel, by decide +kernel, by decide +kernel⟩, by decide⟩
theorem lk_RD_131 : ab_lk "PolicyForge$Reader" 131 y_PT_join b_PT_join 2 none 1 2 := ⟨⟨rfl, T_PT, 8, rfl⟩, List.forall_mem_cons.mpr ⟨(ab_in 530 (by decide +kernel) (by decide +kernel)), List.forall_mem_cons.mpr ⟨(ab_in 531 (by decide +kernel) (by decide +kernel)), List.forall_mem_cons.mpr ⟨(ab_in 532 (by decide +kernel) (by decide +kernel)), List.forall_mem_cons.mpr ⟨(ab_in 94 (by decide +kernel) (by decide +kernel)), List.forall_mem_cons.mpr ⟨(ab_in 533 (by decide +kernel) (by decide +kernel)), fun _ h => absurd h List.not_mem_nil⟩⟩⟩⟩⟩, ⟨by decide +kernel, by decide +kernel, by decide +kernel⟩, by decide⟩
set_option maxRecDepth 100000 in
set_option maxHeartbeats 1000000 in
theorem s_RD_readBranches (d : Nat) (y : Int32) (W : ∀ (u : ab_S), CI u → ab_C true l D ca y_RD_readPart b_RD_readPart 6 (some (.object "PolicyForge$Part")) d ab_nQ u [ab_O 1 0, ab_I (y + 1)] (fun u' v => cP [1, 2, 10] u u' ∧ ∃ r : Option (Nat × Nat), (r = none ∨ ∃ q, q < 20 ∧ r = some (2, q)) ∧ v = some (ab_R r))) (u : ab_S) (p1 : Nat) (x : Int32) (h : CI u) (hp : p1 < 20) (hd : 2 ≤ d) : ab_C true l D ca y_RD_readBranches b_RD_readBranches 8 (some FieldType.boolean) (d + 1) ab_nQ u [ab_O 1 0, ab_O 2 p1, ab_I x, ab_I y] (fun u' v => cP [1, 2, 10] u u' ∧ ∃ b : Int32, (b = 0 ∨ b = 1) ∧ v = some (ab_I b)) := by
  refine ab_C.of (by decide) (Nat.le_of_ble_eq_true rfl) ?_
  intro p e s m args below meth c ad X hZ hr0 hlk
  have P0 : cP [1, 2, 10] u u := cQ.rf h
  have loop : ∀ (k j : Nat) (w z : Int32) (u1 : ab_S), k + j = 4 → (w = 2 ∨ w = 4) → cP [1, 2, 10] u u1 → ab_J p l e (ab_rm (d + 1) 0 0) s m args below meth c (MQ below (ab_Q D ca ad ab_nQ s.heap.size (fun u' v => cP [1, 2, 10] u u' ∧ ∃ b : Int32, (b = 0 ∨ b = 1) ∧ v = some (ab_I b))) args s 0 0 (ab_A ad ab_nQ s.heap.size)) D ca (ab_A ad ab_nQ s.heap.size) s.heap 8 0 0 ad ab_nQ u1 70 [(6, ab_I (nI j)), (5, ab_I w), (4, ab_I z), (0, ab_O 1 0), (1, ab_O 2 p1), (2, ab_I x), (3, ab_I y)] [] := by
    intro k
    induction k with
    | zero =>
      intro j w z u1 hj hw P1
      obtain rfl : j = 4 := by omega
      refine ab_iload X 0 d_RD_readBranches_70 rfl ?_
      refine ab_iconst (v := 2) X d_RD_readBranches_72 (by decide) ?_
      refine ab_icmp_lt X 92 d_RD_readBranches_73 rfl (fun hb => absurd hb ((by decide))) (fun _ => ?_)
      refine ab_iload X 0 d_RD_readBranches_76 rfl ?_
      refine ab_iload X 1 d_RD_readBranches_78 rfl ?_
      refine ab_icmp_ge X 136 d_RD_readBranches_80 rfl (fun _ => ?_) (fun hb => absurd ((by rcases hw with rfl | rfl <;> decide)) hb)
      refine ab_iload X 0 d_RD_readBranches_136 rfl ?_
      refine ab_iload X 2 d_RD_readBranches_138 rfl ?_
      refine ab_icmp_ge X 154 d_RD_readBranches_140 rfl (fun h140 => ?_) (fun h140 => ?_)
      ·
        refine ab_aload_n X 3 d_RD_readBranches_154 rfl rfl ?_
        refine ab_bipush (v := 41) X d_RD_readBranches_155 (by decide) ?_
        refine ab_callV (as := [ab_I 41]) X (fun h => by cases h) (s_RD_expect u1 41 P1.1) lk_RD_124 d_RD_readBranches_157 rfl rfl (by first | assumption | decide | (show _ < 124; omega) | (show _ < 61; omega) | (show _ < 20; omega)) ⟨by first | exact Nat.le_of_ble_eq_true rfl | (simp only [ab_rm]; omega), by first | exact Nat.le_of_ble_eq_true rfl | (simp only [ab_rm]; omega)⟩ ⟨by first | exact Nat.le_of_ble_eq_true rfl | (simp only [ab_rm]; omega), by first | exact Nat.le_of_ble_eq_true rfl | (simp only [ab_rm]; omega)⟩ (Nat.le_of_ble_eq_true rfl) (fun u157 r157 h157 => ?_)
        obtain ⟨q157, b157, hb157, rfl⟩ := h157
        have P157 := P1.trans q157 (by decide)
        first | exact ab_retz X hr0 hlk hb148 d_RD_readBranches_160 ⟨P157, b148, hb148, rfl⟩ | exact ab_retz X hr0 hlk hb157 d_RD_readBranches_160 ⟨P157, b157, hb157, rfl⟩
      ·
        refine ab_aload_n X 3 d_RD_readBranches_143 rfl rfl ?_
        refine ab_aload_n X 3 d_RD_readBranches_144 rfl rfl ?_
        refine ab_gI X fl_RD_30 d_RD_readBranches_145 (by first | assumption | decide | (show _ < 124; omega) | (show _ < 61; omega) | (show _ < 20; omega)) (rfl) ?_
        refine ab_callV (as := [ab_I _]) X (fun h => by cases h) (s_RD_refuse u1 _ P1.1) lk_RD_46 d_RD_readBranches_148 rfl rfl (by first | assumption | decide | (show _ < 124; omega) | (show _ < 61; omega) | (show _ < 20; omega)) ⟨by first | exact Nat.le_of_ble_eq_true rfl | (simp only [ab_rm]; omega), by first | exact Nat.le_of_ble_eq_true rfl | (simp only [ab_rm]; omega)⟩ ⟨by first | exact Nat.le_of_ble_eq_true rfl | (simp only [ab_rm]; omega), by first | exact Nat.le_of_ble_eq_true rfl | (simp only [ab_rm]; omega)⟩ (Nat.le_of_ble_eq_true rfl) (fun u148 r148 h148 => ?_)
        obtain ⟨q148, b148, hb148, rfl⟩ := h148
        have P148 := P1.trans q148 (by decide)
        refine ab_goto X 160 d_RD_readBranches_151 rfl ?_
        first | exact ab_retz X hr0 hlk hb148 d_RD_readBranches_160 ⟨P148, b148, hb148, rfl⟩ | exact ab_retz X hr0 hlk hb157 d_RD_readBranches_160 ⟨P148, b157, hb157, rfl⟩
    | succ k ih =>
      intro j w z u1 hj hw P1
      refine ab_iload X 0 d_RD_readBranches_70 rfl ?_
      refine ab_iconst (v := 2) X d_RD_readBranches_72 (by decide) ?_
      refine ab_icmp_lt X 92 d_RD_readBranches_73 rfl (fun h73 => ?_) (fun h73 => ?_)
      ·
        refine ab_iload X 0 d_RD_readBranches_92 rfl ?_
        refine ab_if_le X 108 d_RD_readBranches_94 rfl (fun h94 => ?_) (fun h94 => ?_)
        ·
          refine ab_aload_n X 3 d_RD_readBranches_108 rfl rfl ?_
          refine ab_iload_n X 6 d_RD_readBranches_109 rfl rfl ?_
          refine ab_iconst (v := 1) X d_RD_readBranches_110 (by decide) ?_
          refine ab_iadd X d_RD_readBranches_111 ?_
          refine ab_callV (as := [ab_I (y + 1)]) X (fun _ => hZ rfl) (W u1 P1.1) lk_RD_42 d_RD_readBranches_112 rfl rfl (by first | assumption | decide | (show _ < 124; omega) | (show _ < 61; omega) | (show _ < 20; omega)) ⟨by first | exact Nat.le_of_ble_eq_true rfl | (simp only [ab_rm]; omega), by first | exact Nat.le_of_ble_eq_true rfl | (simp only [ab_rm]; omega)⟩ ⟨by first | exact Nat.le_of_ble_eq_true rfl | (simp only [ab_rm]; omega), by first | exact Nat.le_of_ble_eq_true rfl | (simp only [ab_rm]; omega)⟩ (Nat.le_of_ble_eq_true rfl) (fun u112 r112 h112 => ?_)
          obtain ⟨q112, r112, hr112, rfl⟩ := h112
          have P112 := P1.trans q112 (by decide)
          refine ab_astore7 X 0 1 2 3 4 5 6 d_RD_readBranches_115 (by decide) rfl rfl rfl rfl rfl rfl rfl rfl rfl rfl rfl rfl rfl rfl ?_
          refine ab_aload X 0 d_RD_readBranches_117 rfl ?_
          refine ab_ifnonnull X 124 d_RD_readBranches_119 rfl (fun h119 => ?_) (fun h119 => ?_)
          ·
            obtain ⟨g, hg, rfl⟩ := hr112.resolve_left h119
            refine ab_aload_n X 5 d_RD_readBranches_124 rfl rfl ?_
            refine ab_aload X 0 d_RD_readBranches_125 rfl ?_
            refine ab_callV (as := [ab_O 2 g]) X (fun h => by cases h) (s_PT_join u112 p1 g P112.1 hp hg) lk_RD_131 d_RD_readBranches_127 rfl rfl (by first | assumption | decide | (show _ < 124; omega) | (show _ < 61; omega) | (show _ < 20; omega)) ⟨by first | exact Nat.le_of_ble_eq_true rfl | (simp only [ab_rm]; omega), by first | exact Nat.le_of_ble_eq_true rfl | (simp only [ab_rm]; omega)⟩ ⟨by first | exact Nat.le_of_ble_eq_true rfl | (simp only [ab_rm]; omega), by first | exact Nat.le_of_ble_eq_true rfl | (simp only [ab_rm]; omega)⟩ (Nat.le_of_ble_eq_true rfl) (fun u127 r127 h127 => ?_)
            obtain ⟨q127, rfl⟩ := h127
            have P127 := P112.trans q127 (by decide)
            refine ab_iinc7 X 1 0 2 3 4 5 6 7 d_RD_readBranches_130 rfl (by decide) rfl rfl rfl rfl rfl rfl rfl rfl rfl rfl rfl rfl rfl rfl ?_
            refine ab_goto X 70 d_RD_readBranches_133 rfl ?_
            refine ab_lv (List.forall_mem_cons.mpr ⟨List.mem_of_getElem? (i := 0) rfl, List.forall_mem_cons.mpr ⟨List.mem_of_getElem? (i := 2) rfl, List.forall_mem_cons.mpr ⟨List.mem_of_getElem? (i := 3) rfl, List.forall_mem_cons.mpr ⟨List.mem_of_getElem? (i := 4) rfl, List.forall_mem_cons.mpr ⟨List.mem_of_getElem? (i := 5) rfl, List.forall_mem_cons.mpr ⟨List.mem_of_getElem? (i := 6) rfl, List.forall_mem_cons.mpr ⟨List.mem_of_getElem? (i := 7) rfl, fun _ h => absurd h List.not_mem_nil⟩⟩⟩⟩⟩⟩⟩) ?_
            rw [show nI j + Int32.ofInt 1 = nI (j + 1) from nI_1 j]
            exact ih (j + 1) _ _ _ (by omega) hw P127
          ·
            refine ab_iconst (v := 0) X d_RD_readBranches_122 (by decide) ?_
            exact ab_retz X hr0 hlk (by first | exact Or.inl rfl | exact Or.inr rfl) d_RD_readBranches_123 ⟨P112, _, by first | exact Or.inl rfl | exact Or.inr rfl, rfl⟩
        ·
          refine ab_aload_n X 3 d_RD_readBranches_97 rfl rfl ?_
          refine ab_bipush (v := 44) X d_RD_readBranches_98 (by decide) ?_
          refine ab_callV (as := [ab_I 44]) X (fun h => by cases h) (s_RD_expect u1 44 P1.1) lk_RD_124 d_RD_readBranches_100 rfl rfl (by first | assumption | decide | (show _ < 124; omega) | (show _ < 61; omega) | (show _ < 20; omega)) ⟨by first | exact Nat.le_of_ble_eq_true rfl | (simp only [ab_rm]; omega), by first | exact Nat.le_of_ble_eq_true rfl | (simp only [ab_rm]; omega)⟩ ⟨by first | exact Nat.le_of_ble_eq_true rfl | (simp only [ab_rm]; omega), by first | exact Nat.le_of_ble_eq_true rfl | (simp only [ab_rm]; omega)⟩ (Nat.le_of_ble_eq_true rfl) (fun u100 r100 h100 => ?_)
          obtain ⟨q100, b100, hb100, rfl⟩ := h100
          have P100 := P1.trans q100 (by decide)
          refine ab_if_ne X 108 d_RD_readBranches_103 rfl (fun h103 => ?_) (fun h103 => ?_)
          ·
            refine ab_aload_n X 3 d_RD_readBranches_108 rfl rfl ?_
            refine ab_iload_n X 6 d_RD_readBranches_109 rfl rfl ?_
            refine ab_iconst (v := 1) X d_RD_readBranches_110 (by decide) ?_
            refine ab_iadd X d_RD_readBranches_111 ?_
            refine ab_callV (as := [ab_I (y + 1)]) X (fun _ => hZ rfl) (W u100 P100.1) lk_RD_42 d_RD_readBranches_112 rfl rfl (by first | assumption | decide | (show _ < 124; omega) | (show _ < 61; omega) | (show _ < 20; omega)) ⟨by first | exact Nat.le_of_ble_eq_true rfl | (simp only [ab_rm]; omega), by first | exact Nat.le_of_ble_eq_true rfl | (simp only [ab_rm]; omega)⟩ ⟨by first | exact Nat.le_of_ble_eq_true rfl | (simp only [ab_rm]; omega), by first | exact Nat.le_of_ble_eq_true rfl | (simp only [ab_rm]; omega)⟩ (Nat.le_of_ble_eq_true rfl) (fun u112 r112 h112 => ?_)
            obtain ⟨q112, r112, hr112, rfl⟩ := h112
            have P112 := P100.trans q112 (by decide)
            refine ab_astore7 X 0 1 2 3 4 5 6 d_RD_readBranches_115 (by decide) rfl rfl rfl rfl rfl rfl rfl rfl rfl rfl rfl rfl rfl rfl ?_
            refine ab_aload X 0 d_RD_readBranches_117 rfl ?_
            refine ab_ifnonnull X 124 d_RD_readBranches_119 rfl (fun h119 => ?_) (fun h119 => ?_)
            ·
              obtain ⟨g, hg, rfl⟩ := hr112.resolve_left h119
              refine ab_aload_n X 5 d_RD_readBranches_124 rfl rfl ?_
              refine ab_aload X 0 d_RD_readBranches_125 rfl ?_
              refine ab_callV (as := [ab_O 2 g]) X (fun h => by cases h) (s_PT_join u112 p1 g P112.1 hp hg) lk_RD_131 d_RD_readBranches_127 rfl rfl (by first | assumption | decide | (show _ < 124; omega) | (show _ < 61; omega) | (show _ < 20; omega)) ⟨by first | exact Nat.le_of_ble_eq_true rfl | (simp only [ab_rm]; omega), by first | exact Nat.le_of_ble_eq_true rfl | (simp only [ab_rm]; omega)⟩ ⟨by first | exact Nat.le_of_ble_eq_true rfl | (simp only [ab_rm]; omega), by first | exact Nat.le_of_ble_eq_true rfl | (simp only [ab_rm]; omega)⟩ (Nat.le_of_ble_eq_true rfl) (fun u127 r127 h127 => ?_)
              obtain ⟨q127, rfl⟩ := h127
              have P127 := P112.trans q127 (by decide)
              refine ab_iinc7 X 1 0 2 3 4 5 6 7 d_RD_readBranches_130 rfl (by decide) rfl rfl rfl rfl rfl rfl rfl rfl rfl rfl rfl rfl rfl rfl ?_
              refine ab_goto X 70 d_RD_readBranches_133 rfl ?_
              refine ab_lv (List.forall_mem_cons.mpr ⟨List.mem_of_getElem? (i := 0) rfl, List.forall_mem_cons.mpr ⟨List.mem_of_getElem? (i := 2) rfl, List.forall_mem_cons.mpr ⟨List.mem_of_getElem? (i := 3) rfl, List.forall_mem_cons.mpr ⟨List.mem_of_getElem? (i := 4) rfl, List.forall_mem_cons.mpr ⟨List.mem_of_getElem? (i := 5) rfl, List.forall_mem_cons.mpr ⟨List.mem_of_getElem? (i := 6) rfl, List.forall_mem_cons.mpr ⟨List.mem_of_getElem? (i := 7) rfl, fun _ h => absurd h List.not_mem_nil⟩⟩⟩⟩⟩⟩⟩) ?_
              rw [show nI j + Int32.ofInt 1 = nI (j + 1) from nI_1 j]
              exact ih (j + 1) _ _ _ (by omega) hw P127
            ·
              refine ab_iconst (v := 0) X d_RD_readBranches_122 (by decide) ?_
              exact ab_retz X hr0 hlk (by first | exact Or.inl rfl | exact Or.inr rfl) d_RD_readBranches_123 ⟨P112, _, by first | exact Or.inl rfl | exact Or.inr rfl, rfl⟩
          ·
            refine ab_iconst (v := 0) X d_RD_readBranches_106 (by decide) ?_
            exact ab_retz X hr0 hlk (by first | exact Or.inl rfl | exact Or.inr rfl) d_RD_readBranches_107 ⟨P100, _, by first | exact Or.inl rfl | exact Or.inr rfl, rfl⟩
      ·
        refine ab_iload X 0 d_RD_readBranches_76 rfl ?_
        refine ab_iload X 1 d_RD_readBranches_78 rfl ?_
        refine ab_icmp_ge X 136 d_RD_readBranches_80 rfl (fun h80 => ?_) (fun h80 => ?_)
        ·
          refine ab_iload X 0 d_RD_readBranches_136 rfl ?_
          refine ab_iload X 2 d_RD_readBranches_138 rfl ?_
          refine ab_icmp_ge X 154 d_RD_readBranches_140 rfl (fun h140 => ?_) (fun h140 => ?_)
          ·
            refine ab_aload_n X 3 d_RD_readBranches_154 rfl rfl ?_
            refine ab_bipush (v := 41) X d_RD_readBranches_155 (by decide) ?_
            refine ab_callV (as := [ab_I 41]) X (fun h => by cases h) (s_RD_expect u1 41 P1.1) lk_RD_124 d_RD_readBranches_157 rfl rfl (by first | assumption | decide | (show _ < 124; omega) | (show _ < 61; omega) | (show _ < 20; omega)) ⟨by first | exact Nat.le_of_ble_eq_true rfl | (simp only [ab_rm]; omega), by first | exact Nat.le_of_ble_eq_true rfl | (simp only [ab_rm]; omega)⟩ ⟨by first | exact Nat.le_of_ble_eq_true rfl | (simp only [ab_rm]; omega), by first | exact Nat.le_of_ble_eq_true rfl | (simp only [ab_rm]; omega)⟩ (Nat.le_of_ble_eq_true rfl) (fun u157 r157 h157 => ?_)
            obtain ⟨q157, b157, hb157, rfl⟩ := h157
            have P157 := P1.trans q157 (by decide)
            first | exact ab_retz X hr0 hlk hb148 d_RD_readBranches_160 ⟨P157, b148, hb148, rfl⟩ | exact ab_retz X hr0 hlk hb157 d_RD_readBranches_160 ⟨P157, b157, hb157, rfl⟩
          ·
            refine ab_aload_n X 3 d_RD_readBranches_143 rfl rfl ?_
            refine ab_aload_n X 3 d_RD_readBranches_144 rfl rfl ?_
            refine ab_gI X fl_RD_30 d_RD_readBranches_145 (by first | assumption | decide | (show _ < 124; omega) | (show _ < 61; omega) | (show _ < 20; omega)) (rfl) ?_
            refine ab_callV (as := [ab_I _]) X (fun h => by cases h) (s_RD_refuse u1 _ P1.1) lk_RD_46 d_RD_readBranches_148 rfl rfl (by first | assumption | decide | (show _ < 124; omega) | (show _ < 61; omega) | (show _ < 20; omega)) ⟨by first | exact Nat.le_of_ble_eq_true rfl | (simp only [ab_rm]; omega), by first | exact Nat.le_of_ble_eq_true rfl | (simp only [ab_rm]; omega)⟩ ⟨by first | exact Nat.le_of_ble_eq_true rfl | (simp only [ab_rm]; omega), by first | exact Nat.le_of_ble_eq_true rfl | (simp only [ab_rm]; omega)⟩ (Nat.le_of_ble_eq_true rfl) (fun u148 r148 h148 => ?_)
            obtain ⟨q148, b148, hb148, rfl⟩ := h148
            have P148 := P1.trans q148 (by decide)
            refine ab_goto X 160 d_RD_readBranches_151 rfl ?_
            first | exact ab_retz X hr0 hlk hb148 d_RD_readBranches_160 ⟨P148, b148, hb148, rfl⟩ | exact ab_retz X hr0 hlk hb157 d_RD_readBranches_160 ⟨P148, b157, hb157, rfl⟩
        ·
          refine ab_aload_n X 3 d_RD_readBranches_83 rfl rfl ?_
          refine ab_bipush (v := 44) X d_RD_readBranches_84 (by decide) ?_
          refine ab_callV (as := [ab_I 44]) X (fun h => by cases h) (t_RD_isHere u1 44 P1.1) lk_RD_128 d_RD_readBranches_86 rfl rfl (by first | assumption | decide | (show _ < 124; omega) | (show _ < 61; omega) | (show _ < 20; omega)) ⟨by first | exact Nat.le_of_ble_eq_true rfl | (simp only [ab_rm]; omega), by first | exact Nat.le_of_ble_eq_true rfl | (simp only [ab_rm]; omega)⟩ ⟨by first | exact Nat.le_of_ble_eq_true rfl | (simp only [ab_rm]; omega), by first | exact Nat.le_of_ble_eq_true rfl | (simp only [ab_rm]; omega)⟩ (Nat.le_of_ble_eq_true rfl) (fun u86 r86 h86 => ?_)
          obtain ⟨e86, b86, hb86, rfl⟩ := h86
          subst u86
          refine ab_if_eq X 136 d_RD_readBranches_89 rfl (fun h89 => ?_) (fun h89 => ?_)
          ·
            refine ab_iload X 0 d_RD_readBranches_136 rfl ?_
            refine ab_iload X 2 d_RD_readBranches_138 rfl ?_
            refine ab_icmp_ge X 154 d_RD_readBranches_140 rfl (fun h140 => ?_) (fun h140 => ?_)
            ·
              refine ab_aload_n X 3 d_RD_readBranches_154 rfl rfl ?_
              refine ab_bipush (v := 41) X d_RD_readBranches_155 (by decide) ?_
              refine ab_callV (as := [ab_I 41]) X (fun h => by cases h) (s_RD_expect u1 41 P1.1) lk_RD_124 d_RD_readBranches_157 rfl rfl (by first | assumption | decide | (show _ < 124; omega) | (show _ < 61; omega) | (show _ < 20; omega)) ⟨by first | exact Nat.le_of_ble_eq_true rfl | (simp only [ab_rm]; omega), by first | exact Nat.le_of_ble_eq_true rfl | (simp only [ab_rm]; omega)⟩ ⟨by first | exact Nat.le_of_ble_eq_true rfl | (simp only [ab_rm]; omega), by first | exact Nat.le_of_ble_eq_true rfl | (simp only [ab_rm]; omega)⟩ (Nat.le_of_ble_eq_true rfl) (fun u157 r157 h157 => ?_)
              obtain ⟨q157, b157, hb157, rfl⟩ := h157
              have P157 := P1.trans q157 (by decide)
              first | exact ab_retz X hr0 hlk hb148 d_RD_readBranches_160 ⟨P157, b148, hb148, rfl⟩ | exact ab_retz X hr0 hlk hb157 d_RD_readBranches_160 ⟨P157, b157, hb157, rfl⟩
            ·
              refine ab_aload_n X 3 d_RD_readBranches_143 rfl rfl ?_
              refine ab_aload_n X 3 d_RD_readBranches_144 rfl rfl ?_
              refine ab_gI X fl_RD_30 d_RD_readBranches_145 (by first | assumption | decide | (show _ < 124; omega) | (show _ < 61; omega) | (show _ < 20; omega)) (rfl) ?_
              refine ab_callV (as := [ab_I _]) X (fun h => by cases h) (s_RD_refuse u1 _ P1.1) lk_RD_46 d_RD_readBranches_148 rfl rfl (by first | assumption | decide | (show _ < 124; omega) | (show _ < 61; omega) | (show _ < 20; omega)) ⟨by first | exact Nat.le_of_ble_eq_true rfl | (simp only [ab_rm]; omega), by first | exact Nat.le_of_ble_eq_true rfl | (simp only [ab_rm]; omega)⟩ ⟨by first | exact Nat.le_of_ble_eq_true rfl | (simp only [ab_rm]; omega), by first | exact Nat.le_of_ble_eq_true rfl | (simp only [ab_rm]; omega)⟩ (Nat.le_of_ble_eq_true rfl) (fun u148 r148 h148 => ?_)
              obtain ⟨q148, b148, hb148, rfl⟩ := h148
              have P148 := P1.trans q148 (by decide)
              refine ab_goto X 160 d_RD_readBranches_151 rfl ?_
              first | exact ab_retz X hr0 hlk hb148 d_RD_readBranches_160 ⟨P148, b148, hb148, rfl⟩ | exact ab_retz X hr0 hlk hb157 d_RD_readBranches_160 ⟨P148, b157, hb157, rfl⟩
          ·
            refine ab_iload X 0 d_RD_readBranches_92 rfl ?_
            refine ab_if_le X 108 d_RD_readBranches_94 rfl (fun h94 => ?_) (fun h94 => ?_)
            ·
              refine ab_aload_n X 3 d_RD_readBranches_108 rfl rfl ?_
              refine ab_iload_n X 6 d_RD_readBranches_109 rfl rfl ?_
              refine ab_iconst (v := 1) X d_RD_readBranches_110 (by decide) ?_
              refine ab_iadd X d_RD_readBranches_111 ?_
              refine ab_callV (as := [ab_I (y + 1)]) X (fun _ => hZ rfl) (W u1 P1.1) lk_RD_42 d_RD_readBranches_112 rfl rfl (by first | assumption | decide | (show _ < 124; omega) | (show _ < 61; omega) | (show _ < 20; omega)) ⟨by first | exact Nat.le_of_ble_eq_true rfl | (simp only [ab_rm]; omega), by first | exact Nat.le_of_ble_eq_true rfl | (simp only [ab_rm]; omega)⟩ ⟨by first | exact Nat.le_of_ble_eq_true rfl | (simp only [ab_rm]; omega), by first | exact Nat.le_of_ble_eq_true rfl | (simp only [ab_rm]; omega)⟩ (Nat.le_of_ble_eq_true rfl) (fun u112 r112 h112 => ?_)
              obtain ⟨q112, r112, hr112, rfl⟩ := h112
              have P112 := P1.trans q112 (by decide)
              refine ab_astore7 X 0 1 2 3 4 5 6 d_RD_readBranches_115 (by decide) rfl rfl rfl rfl rfl rfl rfl rfl rfl rfl rfl rfl rfl rfl ?_
              refine ab_aload X 0 d_RD_readBranches_117 rfl ?_
              refine ab_ifnonnull X 124 d_RD_readBranches_119 rfl (fun h119 => ?_) (fun h119 => ?_)
              ·
                obtain ⟨g, hg, rfl⟩ := hr112.resolve_left h119
                refine ab_aload_n X 5 d_RD_readBranches_124 rfl rfl ?_
                refine ab_aload X 0 d_RD_readBranches_125 rfl ?_
                refine ab_callV (as := [ab_O 2 g]) X (fun h => by cases h) (s_PT_join u112 p1 g P112.1 hp hg) lk_RD_131 d_RD_readBranches_127 rfl rfl (by first | assumption | decide | (show _ < 124; omega) | (show _ < 61; omega) | (show _ < 20; omega)) ⟨by first | exact Nat.le_of_ble_eq_true rfl | (simp only [ab_rm]; omega), by first | exact Nat.le_of_ble_eq_true rfl | (simp only [ab_rm]; omega)⟩ ⟨by first | exact Nat.le_of_ble_eq_true rfl | (simp only [ab_rm]; omega), by first | exact Nat.le_of_ble_eq_true rfl | (simp only [ab_rm]; omega)⟩ (Nat.le_of_ble_eq_true rfl) (fun u127 r127 h127 => ?_)
                obtain ⟨q127, rfl⟩ := h127
                have P127 := P112.trans q127 (by decide)
                refine ab_iinc7 X 1 0 2 3 4 5 6 7 d_RD_readBranches_130 rfl (by decide) rfl rfl rfl rfl rfl rfl rfl rfl rfl rfl rfl rfl rfl rfl ?_
                refine ab_goto X 70 d_RD_readBranches_133 rfl ?_
                refine ab_lv (List.forall_mem_cons.mpr ⟨List.mem_of_getElem? (i := 0) rfl, List.forall_mem_cons.mpr ⟨List.mem_of_getElem? (i := 2) rfl, List.forall_mem_cons.mpr ⟨List.mem_of_getElem? (i := 3) rfl, List.forall_mem_cons.mpr ⟨List.mem_of_getElem? (i := 4) rfl, List.forall_mem_cons.mpr ⟨List.mem_of_getElem? (i := 5) rfl, List.forall_mem_cons.mpr ⟨List.mem_of_getElem? (i := 6) rfl, List.forall_mem_cons.mpr ⟨List.mem_of_getElem? (i := 7) rfl, fun _ h => absurd h List.not_mem_nil⟩⟩⟩⟩⟩⟩⟩) ?_
                rw [show nI j + Int32.ofInt 1 = nI (j + 1) from nI_1 j]
                exact ih (j + 1) _ _ _ (by omega) hw P127
              ·
                refine ab_iconst (v := 0) X d_RD_readBranches_122 (by decide) ?_
                exact ab_retz X hr0 hlk (by first | exact Or.inl rfl | exact Or.inr rfl) d_RD_readBranches_123 ⟨P112, _, by first | exact Or.inl rfl | exact Or.inr rfl, rfl⟩
            ·
              refine ab_aload_n X 3 d_RD_readBranches_97 rfl rfl ?_
              refine ab_bipush (v := 44) X d_RD_readBranches_98 (by decide) ?_
              refine ab_callV (as := [ab_I 44]) X (fun h => by cases h) (s_RD_expect u1 44 P1.1) lk_RD_124 d_RD_readBranches_100 rfl rfl (by first | assumption | decide | (show _ < 124; omega) | (show _ < 61; omega) | (show _ < 20; omega)) ⟨by first | exact Nat.le_of_ble_eq_true rfl | (simp only [ab_rm]; omega), by first | exact Nat.le_of_ble_eq_true rfl | (simp only [ab_rm]; omega)⟩ ⟨by first | exact Nat.le_of_ble_eq_true rfl | (simp only [ab_rm]; omega), by first | exact Nat.le_of_ble_eq_true rfl | (simp only [ab_rm]; omega)⟩ (Nat.le_of_ble_eq_true rfl) (fun u100 r100 h100 => ?_)
              obtain ⟨q100, b100, hb100, rfl⟩ := h100
              have P100 := P1.trans q100 (by decide)
              refine ab_if_ne X 108 d_RD_readBranches_103 rfl (fun h103 => ?_) (fun h103 => ?_)
              ·
                refine ab_aload_n X 3 d_RD_readBranches_108 rfl rfl ?_
                refine ab_iload_n X 6 d_RD_readBranches_109 rfl rfl ?_
                refine ab_iconst (v := 1) X d_RD_readBranches_110 (by decide) ?_
                refine ab_iadd X d_RD_readBranches_111 ?_
                refine ab_callV (as := [ab_I (y + 1)]) X (fun _ => hZ rfl) (W u100 P100.1) lk_RD_42 d_RD_readBranches_112 rfl rfl (by first | assumption | decide | (show _ < 124; omega) | (show _ < 61; omega) | (show _ < 20; omega)) ⟨by first | exact Nat.le_of_ble_eq_true rfl | (simp only [ab_rm]; omega), by first | exact Nat.le_of_ble_eq_true rfl | (simp only [ab_rm]; omega)⟩ ⟨by first | exact Nat.le_of_ble_eq_true rfl | (simp only [ab_rm]; omega), by first | exact Nat.le_of_ble_eq_true rfl | (simp only [ab_rm]; omega)⟩ (Nat.le_of_ble_eq_true rfl) (fun u112 r112 h112 => ?_)
                obtain ⟨q112, r112, hr112, rfl⟩ := h112
                have P112 := P100.trans q112 (by decide)
                refine ab_astore7 X 0 1 2 3 4 5 6 d_RD_readBranches_115 (by decide) rfl rfl rfl rfl rfl rfl rfl rfl rfl rfl rfl rfl rfl rfl ?_
                refine ab_aload X 0 d_RD_readBranches_117 rfl ?_
                refine ab_ifnonnull X 124 d_RD_readBranches_119 rfl (fun h119 => ?_) (fun h119 => ?_)
                ·
                  obtain ⟨g, hg, rfl⟩ := hr112.resolve_left h119
                  refine ab_aload_n X 5 d_RD_readBranches_124 rfl rfl ?_
                  refine ab_aload X 0 d_RD_readBranches_125 rfl ?_
                  refine ab_callV (as := [ab_O 2 g]) X (fun h => by cases h) (s_PT_join u112 p1 g P112.1 hp hg) lk_RD_131 d_RD_readBranches_127 rfl rfl (by first | assumption | decide | (show _ < 124; omega) | (show _ < 61; omega) | (show _ < 20; omega)) ⟨by first | exact Nat.le_of_ble_eq_true rfl | (simp only [ab_rm]; omega), by first | exact Nat.le_of_ble_eq_true rfl | (simp only [ab_rm]; omega)⟩ ⟨by first | exact Nat.le_of_ble_eq_true rfl | (simp only [ab_rm]; omega), by first | exact Nat.le_of_ble_eq_true rfl | (simp only [ab_rm]; omega)⟩ (Nat.le_of_ble_eq_true rfl) (fun u127 r127 h127 => ?_)
                  obtain ⟨q127, rfl⟩ := h127
                  have P127 := P112.trans q127 (by decide)
                  refine ab_iinc7 X 1 0 2 3 4 5 6 7 d_RD_readBranches_130 rfl (by decide) rfl rfl rfl rfl rfl rfl rfl rfl rfl rfl rfl rfl rfl rfl ?_
                  refine ab_goto X 70 d_RD_readBranches_133 rfl ?_
                  refine ab_lv (List.forall_mem_cons.mpr ⟨List.mem_of_getElem? (i := 0) rfl, List.forall_mem_cons.mpr ⟨List.mem_of_getElem? (i := 2) rfl, List.forall_mem_cons.mpr ⟨List.mem_of_getElem? (i := 3) rfl, List.forall_mem_cons.mpr ⟨List.mem_of_getElem? (i := 4) rfl, List.forall_mem_cons.mpr ⟨List.mem_of_getElem? (i := 5) rfl, List.forall_mem_cons.mpr ⟨List.mem_of_getElem? (i := 6) rfl, List.forall_mem_cons.mpr ⟨List.mem_of_getElem? (i := 7) rfl, fun _ h => absurd h List.not_mem_nil⟩⟩⟩⟩⟩⟩⟩) ?_
                  rw [show nI j + Int32.ofInt 1 = nI (j + 1) from nI_1 j]
                  exact ih (j + 1) _ _ _ (by omega) hw P127
                ·
                  refine ab_iconst (v := 0) X d_RD_readBranches_122 (by decide) ?_
                  exact ab_retz X hr0 hlk (by first | exact Or.inl rfl | exact Or.inr rfl) d_RD_readBranches_123 ⟨P112, _, by first | exact Or.inl rfl | exact Or.inr rfl, rfl⟩
              ·
                refine ab_iconst (v := 0) X d_RD_readBranches_106 (by decide) ?_
                exact ab_retz X hr0 hlk (by first | exact Or.inl rfl | exact Or.inr rfl) d_RD_readBranches_107 ⟨P100, _, by first | exact Or.inl rfl | exact Or.inr rfl, rfl⟩
  refine ab_iload_n X 2 d_RD_readBranches_0 rfl rfl ?_
  refine ab_bipush (v := 6) X d_RD_readBranches_1 (by decide) ?_
  refine ab_icmp_ne X 10 d_RD_readBranches_3 rfl (fun h3 => ?_) (fun h3 => ?_)
  ·
    refine ab_iconst (v := 1) X d_RD_readBranches_10 (by decide) ?_
    refine ab_istore4 X 0 1 2 3 d_RD_readBranches_11 (by decide) rfl rfl rfl rfl rfl rfl rfl rfl ?_
    refine ab_iload_n X 3 d_RD_readBranches_13 rfl rfl ?_
    refine ab_bipush (v := 8) X d_RD_readBranches_14 (by decide) ?_
    refine ab_icmp_ne X 23 d_RD_readBranches_16 rfl (fun h16 => ?_) (fun h16 => ?_)
    ·
      refine ab_iconst (v := 2) X d_RD_readBranches_23 (by decide) ?_
      refine ab_istore5 X 0 1 2 3 4 d_RD_readBranches_24 (by decide) rfl rfl rfl rfl rfl rfl rfl rfl rfl rfl ?_
      refine ab_iload_n X 4 d_RD_readBranches_26 rfl rfl ?_
      refine ab_bipush (v := 8) X d_RD_readBranches_27 (by decide) ?_
      refine ab_icmp_ne X 61 d_RD_readBranches_29 rfl (fun h29 => ?_) (fun h29 => ?_)
      ·
        refine ab_aload_n X 3 d_RD_readBranches_61 rfl rfl ?_
        refine ab_iload X 1 d_RD_readBranches_62 rfl ?_
        refine ab_putI X fp_RD_118 d_RD_readBranches_64 (by first | assumption | decide | (show _ < 124; omega) | (show _ < 61; omega) | (show _ < 20; omega)) rfl rfl ?_
        refine ab_gen (fun u64 e64 => ?_)
        have P64 : cP [1, 2, 10] u u64 := by rw [e64]; exact P0.ui rfl (by decide)
        refine ab_iconst (v := 0) X d_RD_readBranches_67 (by decide) ?_
        refine ab_istore6 X 0 1 2 3 4 5 d_RD_readBranches_68 (by decide) rfl rfl rfl rfl rfl rfl rfl rfl rfl rfl rfl rfl ?_
        exact loop 4 0 _ _ _ rfl (by first | exact Or.inl rfl | exact Or.inr rfl) P64
      ·
        refine ab_iconst (v := 1) X d_RD_readBranches_32 (by decide) ?_
        refine ab_aload_n X 2 d_RD_readBranches_33 rfl rfl ?_
        refine ab_bipush (v := 49) X d_RD_readBranches_34 (by decide) ?_
        refine ab_bipush (v := 57) X d_RD_readBranches_36 (by decide) ?_
        refine ab_callV (as := [ab_I 49, ab_I 57]) X (fun h => by cases h) (s_RD_oneOf u 49 57 h) lk_RD_114 d_RD_readBranches_38 rfl rfl (by first | assumption | decide | (show _ < 124; omega) | (show _ < 61; omega) | (show _ < 20; omega)) ⟨by first | exact Nat.le_of_ble_eq_true rfl | (simp only [ab_rm]; omega), by first | exact Nat.le_of_ble_eq_true rfl | (simp only [ab_rm]; omega)⟩ ⟨by first | exact Nat.le_of_ble_eq_true rfl | (simp only [ab_rm]; omega), by first | exact Nat.le_of_ble_eq_true rfl | (simp only [ab_rm]; omega)⟩ (Nat.le_of_ble_eq_true rfl) (fun u38 r38 h38 => ?_)
        obtain ⟨q38, x38, rfl⟩ := h38
        have P38 := P0.trans q38 (by decide)
        refine ab_iadd X d_RD_readBranches_41 ?_
        refine ab_istore5 X 0 2 3 4 5 d_RD_readBranches_42 (by decide) rfl rfl rfl rfl rfl rfl rfl rfl rfl rfl ?_
        refine ab_iload X 0 d_RD_readBranches_44 rfl ?_
        refine ab_iconst (v := 1) X d_RD_readBranches_46 (by decide) ?_
        refine ab_icmp_lt X 59 d_RD_readBranches_47 rfl (fun h47 => ?_) (fun h47 => ?_)
        ·
          refine ab_iconst (v := 0) X d_RD_readBranches_59 (by decide) ?_
          exact ab_retz X hr0 hlk (by first | exact Or.inl rfl | exact Or.inr rfl) d_RD_readBranches_60 ⟨P38, _, by first | exact Or.inl rfl | exact Or.inr rfl, rfl⟩
        ·
          refine ab_aload_n X 2 d_RD_readBranches_50 rfl rfl ?_
          refine ab_bipush (v := 44) X d_RD_readBranches_51 (by decide) ?_
          refine ab_callV (as := [ab_I 44]) X (fun h => by cases h) (s_RD_expect u38 44 P38.1) lk_RD_124 d_RD_readBranches_53 rfl rfl (by first | assumption | decide | (show _ < 124; omega) | (show _ < 61; omega) | (show _ < 20; omega)) ⟨by first | exact Nat.le_of_ble_eq_true rfl | (simp only [ab_rm]; omega), by first | exact Nat.le_of_ble_eq_true rfl | (simp only [ab_rm]; omega)⟩ ⟨by first | exact Nat.le_of_ble_eq_true rfl | (simp only [ab_rm]; omega), by first | exact Nat.le_of_ble_eq_true rfl | (simp only [ab_rm]; omega)⟩ (Nat.le_of_ble_eq_true rfl) (fun u53 r53 h53 => ?_)
          obtain ⟨q53, b53, hb53, rfl⟩ := h53
          have P53 := P38.trans q53 (by decide)
          refine ab_if_ne X 61 d_RD_readBranches_56 rfl (fun h56 => ?_) (fun h56 => ?_)
          ·
            refine ab_aload_n X 3 d_RD_readBranches_61 rfl rfl ?_
            refine ab_iload X 0 d_RD_readBranches_62 rfl ?_
            refine ab_putI X fp_RD_118 d_RD_readBranches_64 (by first | assumption | decide | (show _ < 124; omega) | (show _ < 61; omega) | (show _ < 20; omega)) rfl rfl ?_
            refine ab_gen (fun u64 e64 => ?_)
            have P64 : cP [1, 2, 10] u u64 := by rw [e64]; exact P53.ui rfl (by decide)
            refine ab_iconst (v := 0) X d_RD_readBranches_67 (by decide) ?_
            refine ab_istore6 X 0 1 2 3 4 5 d_RD_readBranches_68 (by decide) rfl rfl rfl rfl rfl rfl rfl rfl rfl rfl rfl rfl ?_
            refine ab_lv (List.forall_mem_cons.mpr ⟨List.mem_of_getElem? (i := 0) rfl, List.forall_mem_cons.mpr ⟨List.mem_of_getElem? (i := 2) rfl, List.forall_mem_cons.mpr ⟨List.mem_of_getElem? (i := 1) rfl, List.forall_mem_cons.mpr ⟨List.mem_of_getElem? (i := 3) rfl, List.forall_mem_cons.mpr ⟨List.mem_of_getElem? (i := 4) rfl, List.forall_mem_cons.mpr ⟨List.mem_of_getElem? (i := 5) rfl, List.forall_mem_cons.mpr ⟨List.mem_of_getElem? (i := 6) rfl, fun _ h => absurd h List.not_mem_nil⟩⟩⟩⟩⟩⟩⟩) ?_
            exact loop 4 0 _ _ _ rfl (by first | exact Or.inl rfl | exact Or.inr rfl) P64
          ·
            refine ab_iconst (v := 0) X d_RD_readBranches_59 (by decide) ?_
            exact ab_retz X hr0 hlk (by first | exact Or.inl rfl | exact Or.inr rfl) d_RD_readBranches_60 ⟨P53, _, by first | exact Or.inl rfl | exact Or.inr rfl, rfl⟩
    ·
      refine ab_iconst (v := 4) X d_RD_readBranches_19 (by decide) ?_
      refine ab_goto X 24 d_RD_readBranches_20 rfl ?_
      refine ab_istore5 X 0 1 2 3 4 d_RD_readBranches_24 (by decide) rfl rfl rfl rfl rfl rfl rfl rfl rfl rfl ?_
      refine ab_iload_n X 4 d_RD_readBranches_26 rfl rfl ?_
      refine ab_bipush (v := 8) X d_RD_readBranches_27 (by decide) ?_
      refine ab_icmp_ne X 61 d_RD_readBranches_29 rfl (fun h29 => ?_) (fun h29 => ?_)
      ·
        refine ab_aload_n X 3 d_RD_readBranches_61 rfl rfl ?_
        refine ab_iload X 1 d_RD_readBranches_62 rfl ?_
        refine ab_putI X fp_RD_118 d_RD_readBranches_64 (by first | assumption | decide | (show _ < 124; omega) | (show _ < 61; omega) | (show _ < 20; omega)) rfl rfl ?_
        refine ab_gen (fun u64 e64 => ?_)
        have P64 : cP [1, 2, 10] u u64 := by rw [e64]; exact P0.ui rfl (by decide)
        refine ab_iconst (v := 0) X d_RD_readBranches_67 (by decide) ?_
        refine ab_istore6 X 0 1 2 3 4 5 d_RD_readBranches_68 (by decide) rfl rfl rfl rfl rfl rfl rfl rfl rfl rfl rfl rfl ?_
        exact loop 4 0 _ _ _ rfl (by first | exact Or.inl rfl | exact Or.inr rfl) P64
      ·
        refine ab_iconst (v := 1) X d_RD_readBranches_32 (by decide) ?_
        refine ab_aload_n X 2 d_RD_readBranches_33 rfl rfl ?_
        refine ab_bipush (v := 49) X d_RD_readBranches_34 (by decide) ?_
        refine ab_bipush (v := 57) X d_RD_readBranches_36 (by decide) ?_
        refine ab_callV (as := [ab_I 49, ab_I 57]) X (fun h => by cases h) (s_RD_oneOf u 49 57 h) lk_RD_114 d_RD_readBranches_38 rfl rfl (by first | assumption | decide | (show _ < 124; omega) | (show _ < 61; omega) | (show _ < 20; omega)) ⟨by first | exact Nat.le_of_ble_eq_true rfl | (simp only [ab_rm]; omega), by first | exact Nat.le_of_ble_eq_true rfl | (simp only [ab_rm]; omega)⟩ ⟨by first | exact Nat.le_of_ble_eq_true rfl | (simp only [ab_rm]; omega), by first | exact Nat.le_of_ble_eq_true rfl | (simp only [ab_rm]; omega)⟩ (Nat.le_of_ble_eq_true rfl) (fun u38 r38 h38 => ?_)
        obtain ⟨q38, x38, rfl⟩ := h38
        have P38 := P0.trans q38 (by decide)
        refine ab_iadd X d_RD_readBranches_41 ?_
        refine ab_istore5 X 0 2 3 4 5 d_RD_readBranches_42 (by decide) rfl rfl rfl rfl rfl rfl rfl rfl rfl rfl ?_
        refine ab_iload X 0 d_RD_readBranches_44 rfl ?_
        refine ab_iconst (v := 1) X d_RD_readBranches_46 (by decide) ?_
        refine ab_icmp_lt X 59 d_RD_readBranches_47 rfl (fun h47 => ?_) (fun h47 => ?_)
        ·
          refine ab_iconst (v := 0) X d_RD_readBranches_59 (by decide) ?_
          exact ab_retz X hr0 hlk (by first | exact Or.inl rfl | exact Or.inr rfl) d_RD_readBranches_60 ⟨P38, _, by first | exact Or.inl rfl | exact Or.inr rfl, rfl⟩
        ·
          refine ab_aload_n X 2 d_RD_readBranches_50 rfl rfl ?_
          refine ab_bipush (v := 44) X d_RD_readBranches_51 (by decide) ?_
          refine ab_callV (as := [ab_I 44]) X (fun h => by cases h) (s_RD_expect u38 44 P38.1) lk_RD_124 d_RD_readBranches_53 rfl rfl (by first | assumption | decide | (show _ < 124; omega) | (show _ < 61; omega) | (show _ < 20; omega)) ⟨by first | exact Nat.le_of_ble_eq_true rfl | (simp only [ab_rm]; omega), by first | exact Nat.le_of_ble_eq_true rfl | (simp only [ab_rm]; omega)⟩ ⟨by first | exact Nat.le_of_ble_eq_true rfl | (simp only [ab_rm]; omega), by first | exact Nat.le_of_ble_eq_true rfl | (simp only [ab_rm]; omega)⟩ (Nat.le_of_ble_eq_true rfl) (fun u53 r53 h53 => ?_)
          obtain ⟨q53, b53, hb53, rfl⟩ := h53
          have P53 := P38.trans q53 (by decide)
          refine ab_if_ne X 61 d_RD_readBranches_56 rfl (fun h56 => ?_) (fun h56 => ?_)
          ·
            refine ab_aload_n X 3 d_RD_readBranches_61 rfl rfl ?_
            refine ab_iload X 0 d_RD_readBranches_62 rfl ?_
            refine ab_putI X fp_RD_118 d_RD_readBranches_64 (by first | assumption | decide | (show _ < 124; omega) | (show _ < 61; omega) | (show _ < 20; omega)) rfl rfl ?_
            refine ab_gen (fun u64 e64 => ?_)
            have P64 : cP [1, 2, 10] u u64 := by rw [e64]; exact P53.ui rfl (by decide)
            refine ab_iconst (v := 0) X d_RD_readBranches_67 (by decide) ?_
            refine ab_istore6 X 0 1 2 3 4 5 d_RD_readBranches_68 (by decide) rfl rfl rfl rfl rfl rfl rfl rfl rfl rfl rfl rfl ?_
            refine ab_lv (List.forall_mem_cons.mpr ⟨List.mem_of_getElem? (i := 0) rfl, List.forall_mem_cons.mpr ⟨List.mem_of_getElem? (i := 2) rfl, List.forall_mem_cons.mpr ⟨List.mem_of_getElem? (i := 1) rfl, List.forall_mem_cons.mpr ⟨List.mem_of_getElem? (i := 3) rfl, List.forall_mem_cons.mpr ⟨List.mem_of_getElem? (i := 4) rfl, List.forall_mem_cons.mpr ⟨List.mem_of_getElem? (i := 5) rfl, List.forall_mem_cons.mpr ⟨List.mem_of_getElem? (i := 6) rfl, fun _ h => absurd h List.not_mem_nil⟩⟩⟩⟩⟩⟩⟩) ?_
            exact loop 4 0 _ _ _ rfl (by first | exact Or.inl rfl | exact Or.inr rfl) P64
          ·
            refine ab_iconst (v := 0) X d_RD_readBranches_59 (by decide) ?_
            exact ab_retz X hr0 hlk (by first | exact Or.inl rfl | exact Or.inr rfl) d_RD_readBranches_60 ⟨P53, _, by first | exact Or.inl rfl | exact Or.inr rfl, rfl⟩
  ·
    refine ab_iconst (v := 2) X d_RD_readBranches_6 (by decide) ?_
    refine ab_goto X 11 d_RD_readBranches_7 rfl ?_
    refine ab_istore4 X 0 1 2 3 d_RD_readBranches_11 (by decide) rfl rfl rfl rfl rfl rfl rfl rfl ?_
    refine ab_iload_n X 3 d_RD_readBranches_13 rfl rfl ?_
    refine ab_bipush (v := 8) X d_RD_readBranches_14 (by decide) ?_
    refine ab_icmp_ne X 23 d_RD_readBranches_16 rfl (fun h16 => ?_) (fun h16 => ?_)
    ·
      refine ab_iconst (v := 2) X d_RD_readBranches_23 (by decide) ?_
      refine ab_istore5 X 0 1 2 3 4 d_RD_readBranches_24 (by decide) rfl rfl rfl rfl rfl rfl rfl rfl rfl rfl ?_
      refine ab_iload_n X 4 d_RD_readBranches_26 rfl rfl ?_
      refine ab_bipush (v := 8) X d_RD_readBranches_27 (by decide) ?_
      refine ab_icmp_ne X 61 d_RD_readBranches_29 rfl (fun h29 => ?_) (fun h29 => ?_)
      ·
        refine ab_aload_n X 3 d_RD_readBranches_61 rfl rfl ?_
        refine ab_iload X 1 d_RD_readBranches_62 rfl ?_
        refine ab_putI X fp_RD_118 d_RD_readBranches_64 (by first | assumption | decide | (show _ < 124; omega) | (show _ < 61; omega) | (show _ < 20; omega)) rfl rfl ?_
        refine ab_gen (fun u64 e64 => ?_)
        have P64 : cP [1, 2, 10] u u64 := by rw [e64]; exact P0.ui rfl (by decide)
        refine ab_iconst (v := 0) X d_RD_readBranches_67 (by decide) ?_
        refine ab_istore6 X 0 1 2 3 4 5 d_RD_readBranches_68 (by decide) rfl rfl rfl rfl rfl rfl rfl rfl rfl rfl rfl rfl ?_
        exact loop 4 0 _ _ _ rfl (by first | exact Or.inl rfl | exact Or.inr rfl) P64
      ·
        refine ab_iconst (v := 1) X d_RD_readBranches_32 (by decide) ?_
        refine ab_aload_n X 2 d_RD_readBranches_33 rfl rfl ?_
        refine ab_bipush (v := 49) X d_RD_readBranches_34 (by decide) ?_
        refine ab_bipush (v := 57) X d_RD_readBranches_36 (by decide) ?_
        refine ab_callV (as := [ab_I 49, ab_I 57]) X (fun h => by cases h) (s_RD_oneOf u 49 57 h) lk_RD_114 d_RD_readBranches_38 rfl rfl (by first | assumption | decide | (show _ < 124; omega) | (show _ < 61; omega) | (show _ < 20; omega)) ⟨by first | exact Nat.le_of_ble_eq_true rfl | (simp only [ab_rm]; omega), by first | exact Nat.le_of_ble_eq_true rfl | (simp only [ab_rm]; omega)⟩ ⟨by first | exact Nat.le_of_ble_eq_true rfl | (simp only [ab_rm]; omega), by first | exact Nat.le_of_ble_eq_true rfl | (simp only [ab_rm]; omega)⟩ (Nat.le_of_ble_eq_true rfl) (fun u38 r38 h38 => ?_)
        obtain ⟨q38, x38, rfl⟩ := h38
        have P38 := P0.trans q38 (by decide)
        refine ab_iadd X d_RD_readBranches_41 ?_
        refine ab_istore5 X 0 2 3 4 5 d_RD_readBranches_42 (by decide) rfl rfl rfl rfl rfl rfl rfl rfl rfl rfl ?_
        refine ab_iload X 0 d_RD_readBranches_44 rfl ?_
        refine ab_iconst (v := 1) X d_RD_readBranches_46 (by decide) ?_
        refine ab_icmp_lt X 59 d_RD_readBranches_47 rfl (fun h47 => ?_) (fun h47 => ?_)
        ·
          refine ab_iconst (v := 0) X d_RD_readBranches_59 (by decide) ?_
          exact ab_retz X hr0 hlk (by first | exact Or.inl rfl | exact Or.inr rfl) d_RD_readBranches_60 ⟨P38, _, by first | exact Or.inl rfl | exact Or.inr rfl, rfl⟩
        ·
          refine ab_aload_n X 2 d_RD_readBranches_50 rfl rfl ?_
          refine ab_bipush (v := 44) X d_RD_readBranches_51 (by decide) ?_
          refine ab_callV (as := [ab_I 44]) X (fun h => by cases h) (s_RD_expect u38 44 P38.1) lk_RD_124 d_RD_readBranches_53 rfl rfl (by first | assumption | decide | (show _ < 124; omega) | (show _ < 61; omega) | (show _ < 20; omega)) ⟨by first | exact Nat.le_of_ble_eq_true rfl | (simp only [ab_rm]; omega), by first | exact Nat.le_of_ble_eq_true rfl | (simp only [ab_rm]; omega)⟩ ⟨by first | exact Nat.le_of_ble_eq_true rfl | (simp only [ab_rm]; omega), by first | exact Nat.le_of_ble_eq_true rfl | (simp only [ab_rm]; omega)⟩ (Nat.le_of_ble_eq_true rfl) (fun u53 r53 h53 => ?_)
          obtain ⟨q53, b53, hb53, rfl⟩ := h53
          have P53 := P38.trans q53 (by decide)
          refine ab_if_ne X 61 d_RD_readBranches_56 rfl (fun h56 => ?_) (fun h56 => ?_)
          ·
            refine ab_aload_n X 3 d_RD_readBranches_61 rfl rfl ?_
            refine ab_iload X 0 d_RD_readBranches_62 rfl ?_
            refine ab_putI X fp_RD_118 d_RD_readBranches_64 (by first | assumption | decide | (show _ < 124; omega) | (show _ < 61; omega) | (show _ < 20; omega)) rfl rfl ?_
            refine ab_gen (fun u64 e64 => ?_)
            have P64 : cP [1, 2, 10] u u64 := by rw [e64]; exact P53.ui rfl (by decide)
            refine ab_iconst (v := 0) X d_RD_readBranches_67 (by decide) ?_
            refine ab_istore6 X 0 1 2 3 4 5 d_RD_readBranches_68 (by decide) rfl rfl rfl rfl rfl rfl rfl rfl rfl rfl rfl rfl ?_
            refine ab_lv (List.forall_mem_cons.mpr ⟨List.mem_of_getElem? (i := 0) rfl, List.forall_mem_cons.mpr ⟨List.mem_of_getElem? (i := 2) rfl, List.forall_mem_cons.mpr ⟨List.mem_of_getElem? (i := 1) rfl, List.forall_mem_cons.mpr ⟨List.mem_of_getElem? (i := 3) rfl, List.forall_mem_cons.mpr ⟨List.mem_of_getElem? (i := 4) rfl, List.forall_mem_cons.mpr ⟨List.mem_of_getElem? (i := 5) rfl, List.forall_mem_cons.mpr ⟨List.mem_of_getElem? (i := 6) rfl, fun _ h => absurd h List.not_mem_nil⟩⟩⟩⟩⟩⟩⟩) ?_
            exact loop 4 0 _ _ _ rfl (by first | exact Or.inl rfl | exact Or.inr rfl) P64
          ·
            refine ab_iconst (v := 0) X d_RD_readBranches_59 (by decide) ?_
            exact ab_retz X hr0 hlk (by first | exact Or.inl rfl | exact Or.inr rfl) d_RD_readBranches_60 ⟨P53, _, by first | exact Or.inl rfl | exact Or.inr rfl, rfl⟩
    ·
      refine ab_iconst (v := 4) X d_RD_readBranches_19 (by decide) ?_
      refine ab_goto X 24 d_RD_readBranches_20 rfl ?_
      refine ab_istore5 X 0 1 2 3 4 d_RD_readBranches_24 (by decide) rfl rfl rfl rfl rfl rfl rfl rfl rfl rfl ?_
      refine ab_iload_n X 4 d_RD_readBranches_26 rfl rfl ?_
      refine ab_bipush (v := 8) X d_RD_readBranches_27 (by decide) ?_
      refine ab_icmp_ne X 61 d_RD_readBranches_29 rfl (fun h29 => ?_) (fun h29 => ?_)
      ·
        refine ab_aload_n X 3 d_RD_readBranches_61 rfl rfl ?_
        refine ab_iload X 1 d_RD_readBranches_62 rfl ?_
        refine ab_putI X fp_RD_118 d_RD_readBranches_64 (by first | assumption | decide | (show _ < 124; omega) | (show _ < 61; omega) | (show _ < 20; omega)) rfl rfl ?_
        refine ab_gen (fun u64 e64 => ?_)
        have P64 : cP [1, 2, 10] u u64 := by rw [e64]; exact P0.ui rfl (by decide)
        refine ab_iconst (v := 0) X d_RD_readBranches_67 (by decide) ?_
        refine ab_istore6 X 0 1 2 3 4 5 d_RD_readBranches_68 (by decide) rfl rfl rfl rfl rfl rfl rfl rfl rfl rfl rfl rfl ?_
        exact loop 4 0 _ _ _ rfl (by first | exact Or.inl rfl | exact Or.inr rfl) P64
      ·
        refine ab_iconst (v := 1) X d_RD_readBranches_32 (by decide) ?_
        refine ab_aload_n X 2 d_RD_readBranches_33 rfl rfl ?_
        refine ab_bipush (v := 49) X d_RD_readBranches_34 (by decide) ?_
        refine ab_bipush (v := 57) X d_RD_readBranches_36 (by decide) ?_
        refine ab_callV (as := [ab_I 49, ab_I 57]) X (fun h => by cases h) (s_RD_oneOf u 49 57 h) lk_RD_114 d_RD_readBranches_38 rfl rfl (by first | assumption | decide | (show _ < 124; omega) | (show _ < 61; omega) | (show _ < 20; omega)) ⟨by first | exact Nat.le_of_ble_eq_true rfl | (simp only [ab_rm]; omega), by first | exact Nat.le_of_ble_eq_true rfl | (simp only [ab_rm]; omega)⟩ ⟨by first | exact Nat.le_of_ble_eq_true rfl | (simp only [ab_rm]; omega), by first | exact Nat.le_of_ble_eq_true rfl | (simp only [ab_rm]; omega)⟩ (Nat.le_of_ble_eq_true rfl) (fun u38 r38 h38 => ?_)
        obtain ⟨q38, x38, rfl⟩ := h38
        have P38 := P0.trans q38 (by decide)
        refine ab_iadd X d_RD_readBranches_41 ?_
        refine ab_istore5 X 0 2 3 4 5 d_RD_readBranches_42 (by decide) rfl rfl rfl rfl rfl rfl rfl rfl rfl rfl ?_
        refine ab_iload X 0 d_RD_readBranches_44 rfl ?_
        refine ab_iconst (v := 1) X d_RD_readBranches_46 (by decide) ?_
        refine ab_icmp_lt X 59 d_RD_readBranches_47 rfl (fun h47 => ?_) (fun h47 => ?_)
        ·
          refine ab_iconst (v := 0) X d_RD_readBranches_59 (by decide) ?_
          exact ab_retz X hr0 hlk (by first | exact Or.inl rfl | exact Or.inr rfl) d_RD_readBranches_60 ⟨P38, _, by first | exact Or.inl rfl | exact Or.inr rfl, rfl⟩
        ·
          refine ab_aload_n X 2 d_RD_readBranches_50 rfl rfl ?_
          refine ab_bipush (v := 44) X d_RD_readBranches_51 (by decide) ?_
          refine ab_callV (as := [ab_I 44]) X (fun h => by cases h) (s_RD_expect u38 44 P38.1) lk_RD_124 d_RD_readBranches_53 rfl rfl (by first | assumption | decide | (show _ < 124; omega) | (show _ < 61; omega) | (show _ < 20; omega)) ⟨by first | exact Nat.le_of_ble_eq_true rfl | (simp only [ab_rm]; omega), by first | exact Nat.le_of_ble_eq_true rfl | (simp only [ab_rm]; omega)⟩ ⟨by first | exact Nat.le_of_ble_eq_true rfl | (simp only [ab_rm]; omega), by first | exact Nat.le_of_ble_eq_true rfl | (simp only [ab_rm]; omega)⟩ (Nat.le_of_ble_eq_true rfl) (fun u53 r53 h53 => ?_)
          obtain ⟨q53, b53, hb53, rfl⟩ := h53
          have P53 := P38.trans q53 (by decide)
          refine ab_if_ne X 61 d_RD_readBranches_56 rfl (fun h56 => ?_) (fun h56 => ?_)
          ·
            refine ab_aload_n X 3 d_RD_readBranches_61 rfl rfl ?_
            refine ab_iload X 0 d_RD_readBranches_62 rfl ?_
            refine ab_putI X fp_RD_118 d_RD_readBranches_64 (by first | assumption | decide | (show _ < 124; omega) | (show _ < 61; omega) | (show _ < 20; omega)) rfl rfl ?_
            refine ab_gen (fun u64 e64 => ?_)
            have P64 : cP [1, 2, 10] u u64 := by rw [e64]; exact P53.ui rfl (by decide)
            refine ab_iconst (v := 0) X d_RD_readBranches_67 (by decide) ?_
            refine ab_istore6 X 0 1 2 3 4 5 d_RD_readBranches_68 (by decide) rfl rfl rfl rfl rfl rfl rfl rfl rfl rfl rfl rfl ?_
            refine ab_lv (List.forall_mem_cons.mpr ⟨List.mem_of_getElem? (i := 0) rfl, List.forall_mem_cons.mpr ⟨List.mem_of_getElem? (i := 2) rfl, List.forall_mem_cons.mpr ⟨List.mem_of_getElem? (i := 1) rfl, List.forall_mem_cons.mpr ⟨List.mem_of_getElem? (i := 3) rfl, List.forall_mem_cons.mpr ⟨List.mem_of_getElem? (i := 4) rfl, List.forall_mem_cons.mpr ⟨List.mem_of_getElem? (i := 5) rfl, List.forall_mem_cons.mpr ⟨List.mem_of_getElem? (i := 6) rfl, fun _ h => absurd h List.not_mem_nil⟩⟩⟩⟩⟩⟩⟩) ?_
            exact loop 4 0 _ _ _ rfl (by first | exact Or.inl rfl | exact Or.inr rfl) P64
          ·
            refine ab_iconst (v := 0) X d_RD_readBranches_59 (by decide) ?_
            exact ab_retz X hr0 hlk (by first | exact Or.inl rfl | exact Or.inr rfl) d_RD_readBranches_60 ⟨P53, _, by first | exact Or.inl rfl | exact Or.inr rfl, rfl⟩
set_option maxRecDepth 100000 in
set_option maxHeartbeats 1000000 in
theorem s_RD_readPart0 (u : ab_S) (y : Int32) (h : CI u) (hy : 40 < y) (d : Nat) (hd : 1 ≤ d) : ab_C true l D ca y_RD_readPart b_RD_readPart 6 (some (FieldType.object "PolicyForge$Part")) d ab_nQ u [ab_O 1 0, ab_I y] (fun u' v => cP [1, 2, 10] u u' ∧ ∃ r : Option (Nat × Nat), (r = none ∨ ∃ q, q < 20 ∧ r = some (2, q)) ∧ v = some (ab_R r)) := by
  refine ab_C.of (by decide) (Nat.le_of_ble_eq_true rfl) ?_
  intro p e s m args below meth c ad X hZ hr0 hlk
  have P0 : cP [1, 2, 10] u u := cQ.rf h
  refine ab_aload_n X 0 d_RD_readPart_0 rfl rfl ?_
  refine ab_gI X fl_RD_30 d_RD_readPart_1 (by first | assumption | decide | (show _ < 124; omega) | (show _ < 61; omega) | (show _ < 20; omega)) (rfl) ?_
  refine ab_istore_n2 X 0 1 d_RD_readPart_4 rfl (by decide) rfl rfl rfl rfl ?_
  refine ab_iload_n X 2 d_RD_readPart_5 rfl rfl ?_
  refine ab_bipush (v := 40) X d_RD_readPart_6 (by decide) ?_
  refine ab_icmp_le X 22 d_RD_readPart_8 rfl (fun hb => absurd hb (Int32.not_le.mpr hy)) (fun _ => ?_)
  refine ab_aload_n X 1 d_RD_readPart_11 rfl rfl ?_
  refine ab_aload_n X 1 d_RD_readPart_12 rfl rfl ?_
  refine ab_gI X fl_RD_30 d_RD_readPart_13 (by first | assumption | decide | (show _ < 124; omega) | (show _ < 61; omega) | (show _ < 20; omega)) (rfl) ?_
  refine ab_callV (as := [ab_I _]) X (fun h => by cases h) (s_RD_refuse u _ h) lk_RD_46 d_RD_readPart_16 rfl rfl (by first | assumption | decide | (show _ < 124; omega) | (show _ < 61; omega) | (show _ < 20; omega)) ⟨by first | exact Nat.le_of_ble_eq_true rfl | (simp only [ab_rm]; omega), by first | exact Nat.le_of_ble_eq_true rfl | (simp only [ab_rm]; omega)⟩ ⟨by first | exact Nat.le_of_ble_eq_true rfl | (simp only [ab_rm]; omega), by first | exact Nat.le_of_ble_eq_true rfl | (simp only [ab_rm]; omega)⟩ (Nat.le_of_ble_eq_true rfl) (fun u16 r16 h16 => ?_)
  obtain ⟨q16, b16, hb16, rfl⟩ := h16
  have P16 := P0.trans q16 (by decide)
  refine ab_pop X d_RD_readPart_19 rfl ?_
  refine ab_null X d_RD_readPart_20 ?_
  exact ab_retr X hr0 hlk d_RD_readPart_21 ⟨P16, none, Or.inl rfl, rfl⟩
set_option maxRecDepth 100000 in
set_option maxHeartbeats 1000000 in
theorem s_RD_readPart1 (d : Nat) (y : Int32) (W : ∀ (u : ab_S), CI u → ab_C true l D ca y_RD_readPart b_RD_readPart 6 (some (.object "PolicyForge$Part")) d ab_nQ u [ab_O 1 0, ab_I (y + 1)] (fun u' v => cP [1, 2, 10] u u' ∧ ∃ r : Option (Nat × Nat), (r = none ∨ ∃ q, q < 20 ∧ r = some (2, q)) ∧ v = some (ab_R r))) (u : ab_S) (h : CI u) (hd : 6 ≤ d) : ab_C true l D ca y_RD_readPart b_RD_readPart 6 (some (FieldType.object "PolicyForge$Part")) (d + 2) ab_nQ u [ab_O 1 0, ab_I y] (fun u' v => cP [1, 2, 10] u u' ∧ ∃ r : Option (Nat × Nat), (r = none ∨ ∃ q, q < 20 ∧ r = some (2, q)) ∧ v = some (ab_R r)) := by
  refine ab_C.of (by decide) (Nat.le_of_ble_eq_true rfl) ?_
  intro p e s m args below meth c ad X hZ hr0 hlk
  have P0 : cP [1, 2, 10] u u := cQ.rf h
  refine ab_aload_n X 0 d_RD_readPart_0 rfl rfl ?_
  refine ab_gI X fl_RD_30 d_RD_readPart_1 (by first | assumption | decide | (show _ < 124; omega) | (show _ < 61; omega) | (show _ < 20; omega)) (rfl) ?_
  refine ab_istore_n2 X 0 1 d_RD_readPart_4 rfl (by decide) rfl rfl rfl rfl ?_
  refine ab_iload_n X 2 d_RD_readPart_5 rfl rfl ?_
  refine ab_bipush (v := 40) X d_RD_readPart_6 (by decide) ?_
  refine ab_icmp_le X 22 d_RD_readPart_8 rfl (fun h8 => ?_) (fun h8 => ?_)
  ·
    refine ab_aload_n X 1 d_RD_readPart_22 rfl rfl ?_
    refine ab_callV (as := []) X (fun _ => hZ rfl) (s_RD_kindHere u h) lk_RD_50 d_RD_readPart_23 rfl rfl (by first | assumption | decide | (show _ < 124; omega) | (show _ < 61; omega) | (show _ < 20; omega)) ⟨by first | exact Nat.le_of_ble_eq_true rfl | (simp only [ab_rm]; omega), by first | exact Nat.le_of_ble_eq_true rfl | (simp only [ab_rm]; omega)⟩ ⟨by first | exact Nat.le_of_ble_eq_true rfl | (simp only [ab_rm]; omega), by first | exact Nat.le_of_ble_eq_true rfl | (simp only [ab_rm]; omega)⟩ (Nat.le_of_ble_eq_true rfl) (fun u23 r23 h23 => ?_)
    obtain ⟨q23, x23, rfl⟩ := h23
    have P23 := P0.trans q23 (by decide)
    refine ab_istore_n3 X 0 1 2 d_RD_readPart_26 rfl (by decide) rfl rfl rfl rfl rfl rfl ?_
    refine ab_iload_n X 0 d_RD_readPart_27 rfl rfl ?_
    refine ab_if_ne X 33 d_RD_readPart_28 rfl (fun h28 => ?_) (fun h28 => ?_)
    ·
      refine ab_aload_n X 2 d_RD_readPart_33 rfl rfl ?_
      refine ab_iload_n X 0 d_RD_readPart_34 rfl rfl ?_
      refine ab_callV (as := [ab_I _]) X (fun h => by cases h) (s_RD_newPart u23 _ P23.1) lk_RD_54 d_RD_readPart_35 rfl rfl (by first | assumption | decide | (show _ < 124; omega) | (show _ < 61; omega) | (show _ < 20; omega)) ⟨by first | exact Nat.le_of_ble_eq_true rfl | (simp only [ab_rm]; omega), by first | exact Nat.le_of_ble_eq_true rfl | (simp only [ab_rm]; omega)⟩ ⟨by first | exact Nat.le_of_ble_eq_true rfl | (simp only [ab_rm]; omega), by first | exact Nat.le_of_ble_eq_true rfl | (simp only [ab_rm]; omega)⟩ (Nat.le_of_ble_eq_true rfl) (fun u35 r35 h35 => ?_)
      obtain ⟨q35, g, hg, rfl⟩ := h35
      have P35 := P23.trans q35 (by decide)
      refine ab_astore4 X 0 1 2 3 d_RD_readPart_38 (by decide) rfl rfl rfl rfl rfl rfl rfl rfl ?_
      refine ab_iload_n X 1 d_RD_readPart_40 rfl rfl ?_
      refine ab_callSN (as := [ab_I _]) X (fun h => by cases h) (t_PF_isLeaf u35 _ P35.1) ls_RD_57 d_RD_readPart_41 rfl rfl ⟨by first | exact Nat.le_of_ble_eq_true rfl | (simp only [ab_rm]; omega), by first | exact Nat.le_of_ble_eq_true rfl | (simp only [ab_rm]; omega)⟩ ⟨by first | exact Nat.le_of_ble_eq_true rfl | (simp only [ab_rm]; omega), by first | exact Nat.le_of_ble_eq_true rfl | (simp only [ab_rm]; omega)⟩ (Nat.le_of_ble_eq_true rfl) (fun u41 r41 h41 => ?_)
      obtain ⟨e41, b41, hb41, rfl⟩ := h41
      subst u41
      refine ab_if_eq X 57 d_RD_readPart_44 rfl (fun h44 => ?_) (fun h44 => ?_)
      ·
        refine ab_aload_n X 3 d_RD_readPart_57 rfl rfl ?_
        refine ab_aload X 0 d_RD_readPart_58 rfl ?_
        refine ab_iload_n X 1 d_RD_readPart_60 rfl rfl ?_
        refine ab_iload_n X 4 d_RD_readPart_61 rfl rfl ?_
        refine ab_callV (as := [ab_O 2 g, ab_I _, ab_I y]) X (fun _ => hZ rfl) (s_RD_readBranches d y W u35 g _ P35.1 hg (by omega)) lk_RD_64 d_RD_readPart_62 rfl rfl (by first | assumption | decide | (show _ < 124; omega) | (show _ < 61; omega) | (show _ < 20; omega)) ⟨by first | exact Nat.le_of_ble_eq_true rfl | (simp only [ab_rm]; omega), by first | exact Nat.le_of_ble_eq_true rfl | (simp only [ab_rm]; omega)⟩ ⟨by first | exact Nat.le_of_ble_eq_true rfl | (simp only [ab_rm]; omega), by first | exact Nat.le_of_ble_eq_true rfl | (simp only [ab_rm]; omega)⟩ (Nat.le_of_ble_eq_true rfl) (fun u62 r62 h62 => ?_)
        obtain ⟨q62, b62, hb62, rfl⟩ := h62
        have P62 := P35.trans q62 (by decide)
        refine ab_istore5 X 0 1 2 3 4 d_RD_readPart_65 (by decide) rfl rfl rfl rfl rfl rfl rfl rfl rfl rfl ?_
        refine ab_iload X 0 d_RD_readPart_67 rfl ?_
        refine ab_if_eq X 77 d_RD_readPart_69 rfl (fun h69 => ?_) (fun h69 => ?_)
        ·
          refine ab_null X d_RD_readPart_77 ?_
          first | exact ab_retr X hr0 hlk d_RD_readPart_78 ⟨P62, none, Or.inl rfl, rfl⟩ | exact ab_retr X hr0 hlk d_RD_readPart_78 ⟨P62, some (2, g), Or.inr ⟨g, hg, rfl⟩, rfl⟩
        ·
          refine ab_aload X 1 d_RD_readPart_72 rfl ?_
          refine ab_goto X 78 d_RD_readPart_74 rfl ?_
          first | exact ab_retr X hr0 hlk d_RD_readPart_78 ⟨P62, none, Or.inl rfl, rfl⟩ | exact ab_retr X hr0 hlk d_RD_readPart_78 ⟨P62, some (2, g), Or.inr ⟨g, hg, rfl⟩, rfl⟩
      ·
        refine ab_aload_n X 3 d_RD_readPart_47 rfl rfl ?_
        refine ab_aload X 0 d_RD_readPart_48 rfl ?_
        refine ab_iload_n X 2 d_RD_readPart_50 rfl rfl ?_
        refine ab_callV (as := [ab_O 2 g, ab_I _]) X (fun h => by cases h) (s_RD_readLeaf u35 g _ P35.1 hg) lk_RD_60 d_RD_readPart_51 rfl rfl (by first | assumption | decide | (show _ < 124; omega) | (show _ < 61; omega) | (show _ < 20; omega)) ⟨by first | exact Nat.le_of_ble_eq_true rfl | (simp only [ab_rm]; omega), by first | exact Nat.le_of_ble_eq_true rfl | (simp only [ab_rm]; omega)⟩ ⟨by first | exact Nat.le_of_ble_eq_true rfl | (simp only [ab_rm]; omega), by first | exact Nat.le_of_ble_eq_true rfl | (simp only [ab_rm]; omega)⟩ (Nat.le_of_ble_eq_true rfl) (fun u51 r51 h51 => ?_)
        obtain ⟨q51, b51, hb51, rfl⟩ := h51
        have P51 := P35.trans q51 (by decide)
        refine ab_goto X 65 d_RD_readPart_54 rfl ?_
        refine ab_istore5 X 0 1 2 3 4 d_RD_readPart_65 (by decide) rfl rfl rfl rfl rfl rfl rfl rfl rfl rfl ?_
        refine ab_iload X 0 d_RD_readPart_67 rfl ?_
        refine ab_if_eq X 77 d_RD_readPart_69 rfl (fun h69 => ?_) (fun h69 => ?_)
        ·
          refine ab_null X d_RD_readPart_77 ?_
          first | exact ab_retr X hr0 hlk d_RD_readPart_78 ⟨P51, none, Or.inl rfl, rfl⟩ | exact ab_retr X hr0 hlk d_RD_readPart_78 ⟨P51, some (2, g), Or.inr ⟨g, hg, rfl⟩, rfl⟩
        ·
          refine ab_aload X 1 d_RD_readPart_72 rfl ?_
          refine ab_goto X 78 d_RD_readPart_74 rfl ?_
          first | exact ab_retr X hr0 hlk d_RD_readPart_78 ⟨P51, none, Or.inl rfl, rfl⟩ | exact ab_retr X hr0 hlk d_RD_readPart_78 ⟨P51, some (2, g), Or.inr ⟨g, hg, rfl⟩, rfl⟩
    ·
      refine ab_null X d_RD_readPart_31 ?_
      first | exact ab_retr X hr0 hlk d_RD_readPart_32 ⟨P23, none, Or.inl rfl, rfl⟩ | exact ab_retr X hr0 hlk d_RD_readPart_32 ⟨P23, some (2, g), Or.inr ⟨g, hg, rfl⟩, rfl⟩
  ·
    refine ab_aload_n X 1 d_RD_readPart_11 rfl rfl ?_
    refine ab_aload_n X 1 d_RD_readPart_12 rfl rfl ?_
    refine ab_gI X fl_RD_30 d_RD_readPart_13 (by first | assumption | decide | (show _ < 124; omega) | (show _ < 61; omega) | (show _ < 20; omega)) (rfl) ?_
    refine ab_callV (as := [ab_I _]) X (fun h => by cases h) (s_RD_refuse u _ h) lk_RD_46 d_RD_readPart_16 rfl rfl (by first | assumption | decide | (show _ < 124; omega) | (show _ < 61; omega) | (show _ < 20; omega)) ⟨by first | exact Nat.le_of_ble_eq_true rfl | (simp only [ab_rm]; omega), by first | exact Nat.le_of_ble_eq_true rfl | (simp only [ab_rm]; omega)⟩ ⟨by first | exact Nat.le_of_ble_eq_true rfl | (simp only [ab_rm]; omega), by first | exact Nat.le_of_ble_eq_true rfl | (simp only [ab_rm]; omega)⟩ (Nat.le_of_ble_eq_true rfl) (fun u16 r16 h16 => ?_)
    obtain ⟨q16, b16, hb16, rfl⟩ := h16
    have P16 := P0.trans q16 (by decide)
    refine ab_pop X d_RD_readPart_19 rfl ?_
    refine ab_null X d_RD_readPart_20 ?_
    first | exact ab_retr X hr0 hlk d_RD_readPart_21 ⟨P16, none, Or.inl rfl, rfl⟩ | exact ab_retr X hr0 hlk d_RD_readPart_21 ⟨P16, some (2, g), Or.inr ⟨g, hg, rfl⟩, rfl⟩
theorem s_RD_readPart (n : Nat) : ∀ (j : Nat) (u : ab_S), j + n = 41 → CI u → ab_C true l D ca y_RD_readPart b_RD_readPart 6 (some (.object "PolicyForge$Part")) (2 * n + 6) ab_nQ u [ab_O 1 0, ab_I (nI j)] (fun u' v => cP [1, 2, 10] u u' ∧ ∃ r : Option (Nat × Nat), (r = none ∨ ∃ q, q < 20 ∧ r = some (2, q)) ∧ v = some (ab_R r)) := by
  induction n with
  | zero => exact fun j u hj h => s_RD_readPart0 u (nI j) h (by obtain rfl : j = 41 := (by omega); decide) 6 (by decide)
  | succ n ih =>
    intro j u hj h
    refine s_RD_readPart1 (2 * n + 6) (nI j) (fun u1 h1 => ?_) u h (by omega)
    rw [show nI j + 1 = nI (j + 1) from (nI_succ j).symm]
    exact ih (j + 1) u1 (by omega) h1
end SaRead

