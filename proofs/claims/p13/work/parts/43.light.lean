/-! The lightest rows of forms: every call comes to its end. -/
section SaLight
variable {l : Launch} {D : va_G} {ca : Nat → ClassId}
abbrev b_FA_meet : ByteArray := prog_2_method_3_code
def y_FA_meet : MethodName := ⟨"PolicyForge$Facts", "meet", "(II)Z"⟩
theorem d_FA_meet_0 : decode b_FA_meet 0 = .ok (.iload_n 1, 1) := by decide +kernel
theorem d_FA_meet_1 : decode b_FA_meet 1 = .ok (.tableswitch 95 1 4 #[31, 49, 67, 81], 31) := by decide +kernel
theorem d_FA_meet_32 : decode b_FA_meet 32 = .ok (.aload_n 0, 1) := by decide +kernel
theorem d_FA_meet_33 : decode b_FA_meet 33 = .ok (.getfield 9, 3) := by decide +kernel
theorem d_FA_meet_36 : decode b_FA_meet 36 = .ok (.iload_n 2, 1) := by decide +kernel
theorem d_FA_meet_37 : decode b_FA_meet 37 = .ok (.ishr, 1) := by decide +kernel
theorem d_FA_meet_38 : decode b_FA_meet 38 = .ok (.iconst 1, 1) := by decide +kernel
theorem d_FA_meet_39 : decode b_FA_meet 39 = .ok (.iand, 1) := by decide +kernel
theorem d_FA_meet_40 : decode b_FA_meet 40 = .ok (.iconst 1, 1) := by decide +kernel
theorem d_FA_meet_41 : decode b_FA_meet 41 = .ok (.if_icmp .ne 7, 3) := by decide +kernel
theorem d_FA_meet_44 : decode b_FA_meet 44 = .ok (.iconst 1, 1) := by decide +kernel
theorem d_FA_meet_45 : decode b_FA_meet 45 = .ok (.goto 4, 3) := by decide +kernel
theorem d_FA_meet_48 : decode b_FA_meet 48 = .ok (.iconst 0, 1) := by decide +kernel
theorem d_FA_meet_49 : decode b_FA_meet 49 = .ok (.ireturn, 1) := by decide +kernel
theorem d_FA_meet_50 : decode b_FA_meet 50 = .ok (.aload_n 0, 1) := by decide +kernel
theorem d_FA_meet_51 : decode b_FA_meet 51 = .ok (.getfield 15, 3) := by decide +kernel
theorem d_FA_meet_54 : decode b_FA_meet 54 = .ok (.iload_n 2, 1) := by decide +kernel
theorem d_FA_meet_55 : decode b_FA_meet 55 = .ok (.ishr, 1) := by decide +kernel
theorem d_FA_meet_56 : decode b_FA_meet 56 = .ok (.iconst 1, 1) := by decide +kernel
theorem d_FA_meet_57 : decode b_FA_meet 57 = .ok (.iand, 1) := by decide +kernel
theorem d_FA_meet_58 : decode b_FA_meet 58 = .ok (.iconst 1, 1) := by decide +kernel
theorem d_FA_meet_59 : decode b_FA_meet 59 = .ok (.if_icmp .ne 7, 3) := by decide +kernel
theorem d_FA_meet_62 : decode b_FA_meet 62 = .ok (.iconst 1, 1) := by decide +kernel
theorem d_FA_meet_63 : decode b_FA_meet 63 = .ok (.goto 4, 3) := by decide +kernel
theorem d_FA_meet_66 : decode b_FA_meet 66 = .ok (.iconst 0, 1) := by decide +kernel
theorem d_FA_meet_67 : decode b_FA_meet 67 = .ok (.ireturn, 1) := by decide +kernel
theorem d_FA_meet_68 : decode b_FA_meet 68 = .ok (.aload_n 0, 1) := by decide +kernel
theorem d_FA_meet_69 : decode b_FA_meet 69 = .ok (.getfield 18, 3) := by decide +kernel
theorem d_FA_meet_72 : decode b_FA_meet 72 = .ok (.iload_n 2, 1) := by decide +kernel
theorem d_FA_meet_73 : decode b_FA_meet 73 = .ok (.if_icmp .lt 7, 3) := by decide +kernel
theorem d_FA_meet_76 : decode b_FA_meet 76 = .ok (.iconst 1, 1) := by decide +kernel
theorem d_FA_meet_77 : decode b_FA_meet 77 = .ok (.goto 4, 3) := by decide +kernel
theorem d_FA_meet_80 : decode b_FA_meet 80 = .ok (.iconst 0, 1) := by decide +kernel
theorem d_FA_meet_81 : decode b_FA_meet 81 = .ok (.ireturn, 1) := by decide +kernel
theorem d_FA_meet_82 : decode b_FA_meet 82 = .ok (.aload_n 0, 1) := by decide +kernel
theorem d_FA_meet_83 : decode b_FA_meet 83 = .ok (.getfield 21, 3) := by decide +kernel
theorem d_FA_meet_86 : decode b_FA_meet 86 = .ok (.iload_n 2, 1) := by decide +kernel
theorem d_FA_meet_87 : decode b_FA_meet 87 = .ok (.if_icmp .lt 7, 3) := by decide +kernel
theorem d_FA_meet_90 : decode b_FA_meet 90 = .ok (.iconst 1, 1) := by decide +kernel
theorem d_FA_meet_91 : decode b_FA_meet 91 = .ok (.goto 4, 3) := by decide +kernel
theorem d_FA_meet_94 : decode b_FA_meet 94 = .ok (.iconst 0, 1) := by decide +kernel
theorem d_FA_meet_95 : decode b_FA_meet 95 = .ok (.ireturn, 1) := by decide +kernel
theorem d_FA_meet_96 : decode b_FA_meet 96 = .ok (.iconst 0, 1) := by decide +kernel
theorem d_FA_meet_97 : decode b_FA_meet 97 = .ok (.ireturn, 1) := by decide +kernel
theorem fl_FA_9 : ab_fl "PolicyForge$Facts" 9 6 0 0 := ⟨rfl, R_FA, T_FA, 4, rfl, uw_FA, by decide, rfl, (ab_in 309 (by decide +kernel) (by decide +kernel))⟩
theorem fl_FA_15 : ab_fl "PolicyForge$Facts" 15 6 1 0 := ⟨rfl, R_FA, T_FA, 4, rfl, uw_FA, by decide, rfl, (ab_in 310 (by decide +kernel) (by decide +kernel))⟩
theorem fl_FA_18 : ab_fl "PolicyForge$Facts" 18 6 2 0 := ⟨rfl, R_FA, T_FA, 4, rfl, uw_FA, by decide, rfl, (ab_in 311 (by decide +kernel) (by decide +kernel))⟩
theorem fl_FA_21 : ab_fl "PolicyForge$Facts" 21 6 3 0 := ⟨rfl, R_FA, T_FA, 4, rfl, uw_FA, by decide, rfl, (ab_in 312 (by decide +kernel) (by decide +kernel))⟩
set_option maxRecDepth 100000 in
set_option maxHeartbeats 1000000 in
theorem t_FA_meet (u : ab_S) (a b : Int32) (h : CI u) : ab_C false l D ca y_FA_meet b_FA_meet 3 (some FieldType.boolean) 0 ab_nQ u [ab_O 6 0, ab_I a, ab_I b] (fun u' v => u' = u ∧ ∃ b : Int32, (b = 0 ∨ b = 1) ∧ v = some (ab_I b)) := by
  refine ab_C.of (by decide) (Nat.le_of_ble_eq_true rfl) ?_
  intro p e s m args below meth c ad X hZ hr0 hlk
  have P0 : cP [4, 8] u u := cQ.rf h
  refine ab_iload_n X 1 d_FA_meet_0 rfl rfl ?_
  refine ab_tsw X [(1, 32), (2, 50), (3, 68), (4, 82)] 96 d_FA_meet_1 (by decide +kernel) rfl (List.forall_mem_cons.mpr ⟨fun h1_1 => ?_, List.forall_mem_cons.mpr ⟨fun h1_2 => ?_, List.forall_mem_cons.mpr ⟨fun h1_3 => ?_, List.forall_mem_cons.mpr ⟨fun h1_4 => ?_, fun _ h => absurd h List.not_mem_nil⟩⟩⟩⟩) (fun h1 => ?_)
  ·
    refine ab_aload_n X 0 d_FA_meet_32 rfl rfl ?_
    refine ab_gI X fl_FA_9 d_FA_meet_33 (by first | assumption | decide | (show _ < 124; omega) | (show _ < 61; omega) | (show _ < 20; omega)) (rfl) ?_
    refine ab_iload_n X 2 d_FA_meet_36 rfl rfl ?_
    refine ab_ishr X d_FA_meet_37 ?_
    refine ab_iconst (v := 1) X d_FA_meet_38 (by decide) ?_
    refine ab_iand X d_FA_meet_39 ?_
    refine ab_iconst (v := 1) X d_FA_meet_40 (by decide) ?_
    refine ab_icmp_ne X 48 d_FA_meet_41 rfl (fun h41 => ?_) (fun h41 => ?_)
    ·
      refine ab_iconst (v := 0) X d_FA_meet_48 (by decide) ?_
      exact ab_retz X hr0 hlk (by first | exact Or.inl rfl | exact Or.inr rfl) d_FA_meet_49 ⟨rfl, _, by first | exact Or.inl rfl | exact Or.inr rfl, rfl⟩
    ·
      refine ab_iconst (v := 1) X d_FA_meet_44 (by decide) ?_
      refine ab_goto X 49 d_FA_meet_45 rfl ?_
      exact ab_retz X hr0 hlk (by first | exact Or.inl rfl | exact Or.inr rfl) d_FA_meet_49 ⟨rfl, _, by first | exact Or.inl rfl | exact Or.inr rfl, rfl⟩
  ·
    refine ab_aload_n X 0 d_FA_meet_50 rfl rfl ?_
    refine ab_gI X fl_FA_15 d_FA_meet_51 (by first | assumption | decide | (show _ < 124; omega) | (show _ < 61; omega) | (show _ < 20; omega)) (rfl) ?_
    refine ab_iload_n X 2 d_FA_meet_54 rfl rfl ?_
    refine ab_ishr X d_FA_meet_55 ?_
    refine ab_iconst (v := 1) X d_FA_meet_56 (by decide) ?_
    refine ab_iand X d_FA_meet_57 ?_
    refine ab_iconst (v := 1) X d_FA_meet_58 (by decide) ?_
    refine ab_icmp_ne X 66 d_FA_meet_59 rfl (fun h59 => ?_) (fun h59 => ?_)
    ·
      refine ab_iconst (v := 0) X d_FA_meet_66 (by decide) ?_
      exact ab_retz X hr0 hlk (by first | exact Or.inl rfl | exact Or.inr rfl) d_FA_meet_67 ⟨rfl, _, by first | exact Or.inl rfl | exact Or.inr rfl, rfl⟩
    ·
      refine ab_iconst (v := 1) X d_FA_meet_62 (by decide) ?_
      refine ab_goto X 67 d_FA_meet_63 rfl ?_
      exact ab_retz X hr0 hlk (by first | exact Or.inl rfl | exact Or.inr rfl) d_FA_meet_67 ⟨rfl, _, by first | exact Or.inl rfl | exact Or.inr rfl, rfl⟩
  ·
    refine ab_aload_n X 0 d_FA_meet_68 rfl rfl ?_
    refine ab_gI X fl_FA_18 d_FA_meet_69 (by first | assumption | decide | (show _ < 124; omega) | (show _ < 61; omega) | (show _ < 20; omega)) (rfl) ?_
    refine ab_iload_n X 2 d_FA_meet_72 rfl rfl ?_
    refine ab_icmp_lt X 80 d_FA_meet_73 rfl (fun h73 => ?_) (fun h73 => ?_)
    ·
      refine ab_iconst (v := 0) X d_FA_meet_80 (by decide) ?_
      exact ab_retz X hr0 hlk (by first | exact Or.inl rfl | exact Or.inr rfl) d_FA_meet_81 ⟨rfl, _, by first | exact Or.inl rfl | exact Or.inr rfl, rfl⟩
    ·
      refine ab_iconst (v := 1) X d_FA_meet_76 (by decide) ?_
      refine ab_goto X 81 d_FA_meet_77 rfl ?_
      exact ab_retz X hr0 hlk (by first | exact Or.inl rfl | exact Or.inr rfl) d_FA_meet_81 ⟨rfl, _, by first | exact Or.inl rfl | exact Or.inr rfl, rfl⟩
  ·
    refine ab_aload_n X 0 d_FA_meet_82 rfl rfl ?_
    refine ab_gI X fl_FA_21 d_FA_meet_83 (by first | assumption | decide | (show _ < 124; omega) | (show _ < 61; omega) | (show _ < 20; omega)) (rfl) ?_
    refine ab_iload_n X 2 d_FA_meet_86 rfl rfl ?_
    refine ab_icmp_lt X 94 d_FA_meet_87 rfl (fun h87 => ?_) (fun h87 => ?_)
    ·
      refine ab_iconst (v := 0) X d_FA_meet_94 (by decide) ?_
      exact ab_retz X hr0 hlk (by first | exact Or.inl rfl | exact Or.inr rfl) d_FA_meet_95 ⟨rfl, _, by first | exact Or.inl rfl | exact Or.inr rfl, rfl⟩
    ·
      refine ab_iconst (v := 1) X d_FA_meet_90 (by decide) ?_
      refine ab_goto X 95 d_FA_meet_91 rfl ?_
      exact ab_retz X hr0 hlk (by first | exact Or.inl rfl | exact Or.inr rfl) d_FA_meet_95 ⟨rfl, _, by first | exact Or.inl rfl | exact Or.inr rfl, rfl⟩
  ·
    refine ab_iconst (v := 0) X d_FA_meet_96 (by decide) ?_
    exact ab_retz X hr0 hlk (by first | exact Or.inl rfl | exact Or.inr rfl) d_FA_meet_97 ⟨rfl, _, by first | exact Or.inl rfl | exact Or.inr rfl, rfl⟩
theorem d_FA_set_0 : decode b_FA_set 0 = .ok (.aload_n 0, 1) := by decide +kernel
theorem d_FA_set_1 : decode b_FA_set 1 = .ok (.iload_n 1, 1) := by decide +kernel
theorem d_FA_set_2 : decode b_FA_set 2 = .ok (.putfield 9, 3) := by decide +kernel
theorem d_FA_set_5 : decode b_FA_set 5 = .ok (.aload_n 0, 1) := by decide +kernel
theorem d_FA_set_6 : decode b_FA_set 6 = .ok (.iload_n 2, 1) := by decide +kernel
theorem d_FA_set_7 : decode b_FA_set 7 = .ok (.putfield 15, 3) := by decide +kernel
theorem d_FA_set_10 : decode b_FA_set 10 = .ok (.aload_n 0, 1) := by decide +kernel
theorem d_FA_set_11 : decode b_FA_set 11 = .ok (.iload_n 3, 1) := by decide +kernel
theorem d_FA_set_12 : decode b_FA_set 12 = .ok (.putfield 18, 3) := by decide +kernel
theorem d_FA_set_15 : decode b_FA_set 15 = .ok (.aload_n 0, 1) := by decide +kernel
theorem d_FA_set_16 : decode b_FA_set 16 = .ok (.iload 4, 2) := by decide +kernel
theorem d_FA_set_18 : decode b_FA_set 18 = .ok (.putfield 21, 3) := by decide +kernel
theorem d_FA_set_21 : decode b_FA_set 21 = .ok (.return_, 1) := by decide +kernel
set_option maxRecDepth 100000 in
set_option maxHeartbeats 1000000 in
theorem s_FA_set (u : ab_S) (a b c' d' : Int32) (h : CI u) : ab_C false l D ca y_FA_set b_FA_set 5 none 0 ab_nQ u [ab_O 6 0, ab_I a, ab_I b, ab_I c', ab_I d'] (fun u' v => cP [6] u u' ∧ v = none) := by
  refine ab_C.of (by decide) (Nat.le_of_ble_eq_true rfl) ?_
  intro p e s m args below meth c ad X hZ hr0 hlk
  have P0 : cP [6] u u := cQ.rf h
  refine ab_aload_n X 0 d_FA_set_0 rfl rfl ?_
  refine ab_iload_n X 1 d_FA_set_1 rfl rfl ?_
  refine ab_putI X fp_FA_9 d_FA_set_2 (by first | assumption | decide | (show _ < 124; omega) | (show _ < 61; omega) | (show _ < 20; omega)) rfl rfl ?_
  refine ab_gen (fun u2 e2 => ?_)
  have P2 : cP [6] u u2 := by rw [e2]; exact P0.ui rfl (by decide)
  refine ab_aload_n X 0 d_FA_set_5 rfl rfl ?_
  refine ab_iload_n X 2 d_FA_set_6 rfl rfl ?_
  refine ab_putI X fp_FA_15 d_FA_set_7 (by first | assumption | decide | (show _ < 124; omega) | (show _ < 61; omega) | (show _ < 20; omega)) rfl rfl ?_
  refine ab_gen (fun u7 e7 => ?_)
  have P7 : cP [6] u u7 := by rw [e7]; exact P2.ui rfl (by decide)
  refine ab_aload_n X 0 d_FA_set_10 rfl rfl ?_
  refine ab_iload_n X 3 d_FA_set_11 rfl rfl ?_
  refine ab_putI X fp_FA_18 d_FA_set_12 (by first | assumption | decide | (show _ < 124; omega) | (show _ < 61; omega) | (show _ < 20; omega)) rfl rfl ?_
  refine ab_gen (fun u12 e12 => ?_)
  have P12 : cP [6] u u12 := by rw [e12]; exact P7.ui rfl (by decide)
  refine ab_aload_n X 0 d_FA_set_15 rfl rfl ?_
  refine ab_iload X 4 d_FA_set_16 rfl ?_
  refine ab_putI X fp_FA_21 d_FA_set_18 (by first | assumption | decide | (show _ < 124; omega) | (show _ < 61; omega) | (show _ < 20; omega)) rfl rfl ?_
  refine ab_gen (fun u18 e18 => ?_)
  have P18 : cP [6] u u18 := by rw [e18]; exact P12.ui rfl (by decide)
  exact ab_retv X hr0 hlk d_FA_set_21 ⟨P18, rfl⟩
abbrev b_FM_lightenLeaf : ByteArray := prog_3_method_11_code
def y_FM_lightenLeaf : MethodName := ⟨"PolicyForge$Form", "lightenLeaf", "(LPolicyForge$Facts;)V"⟩
theorem d_FM_lightenLeaf_0 : decode b_FM_lightenLeaf 0 = .ok (.aload_n 0, 1) := by decide +kernel
theorem d_FM_lightenLeaf_1 : decode b_FM_lightenLeaf 1 = .ok (.getfield 28, 3) := by decide +kernel
theorem d_FM_lightenLeaf_4 : decode b_FM_lightenLeaf 4 = .ok (.sipush 1000, 3) := by decide +kernel
theorem d_FM_lightenLeaf_7 : decode b_FM_lightenLeaf 7 = .ok (.idiv, 1) := by decide +kernel
theorem d_FM_lightenLeaf_8 : decode b_FM_lightenLeaf 8 = .ok (.istore_n 2, 1) := by decide +kernel
theorem d_FM_lightenLeaf_9 : decode b_FM_lightenLeaf 9 = .ok (.aload_n 0, 1) := by decide +kernel
theorem d_FM_lightenLeaf_10 : decode b_FM_lightenLeaf 10 = .ok (.getfield 28, 3) := by decide +kernel
theorem d_FM_lightenLeaf_13 : decode b_FM_lightenLeaf 13 = .ok (.sipush 1000, 3) := by decide +kernel
theorem d_FM_lightenLeaf_16 : decode b_FM_lightenLeaf 16 = .ok (.irem, 1) := by decide +kernel
theorem d_FM_lightenLeaf_17 : decode b_FM_lightenLeaf 17 = .ok (.istore_n 3, 1) := by decide +kernel
theorem d_FM_lightenLeaf_18 : decode b_FM_lightenLeaf 18 = .ok (.aload_n 1, 1) := by decide +kernel
theorem d_FM_lightenLeaf_19 : decode b_FM_lightenLeaf 19 = .ok (.iload_n 2, 1) := by decide +kernel
theorem d_FM_lightenLeaf_20 : decode b_FM_lightenLeaf 20 = .ok (.iload_n 3, 1) := by decide +kernel
theorem d_FM_lightenLeaf_21 : decode b_FM_lightenLeaf 21 = .ok (.invokevirtual 116, 3) := by decide +kernel
theorem d_FM_lightenLeaf_24 : decode b_FM_lightenLeaf 24 = .ok (.ifCond .ne 4, 3) := by decide +kernel
theorem d_FM_lightenLeaf_27 : decode b_FM_lightenLeaf 27 = .ok (.return_, 1) := by decide +kernel
theorem d_FM_lightenLeaf_28 : decode b_FM_lightenLeaf 28 = .ok (.aload_n 0, 1) := by decide +kernel
theorem d_FM_lightenLeaf_29 : decode b_FM_lightenLeaf 29 = .ok (.getfield 20, 3) := by decide +kernel
theorem d_FM_lightenLeaf_32 : decode b_FM_lightenLeaf 32 = .ok (.invokevirtual 87, 3) := by decide +kernel
theorem d_FM_lightenLeaf_35 : decode b_FM_lightenLeaf 35 = .ok (.iload_n 2, 1) := by decide +kernel
theorem d_FM_lightenLeaf_36 : decode b_FM_lightenLeaf 36 = .ok (.iconst 1, 1) := by decide +kernel
theorem d_FM_lightenLeaf_37 : decode b_FM_lightenLeaf 37 = .ok (.if_icmp .ne 17, 3) := by decide +kernel
theorem d_FM_lightenLeaf_40 : decode b_FM_lightenLeaf 40 = .ok (.aload_n 0, 1) := by decide +kernel
theorem d_FM_lightenLeaf_41 : decode b_FM_lightenLeaf 41 = .ok (.getfield 20, 3) := by decide +kernel
theorem d_FM_lightenLeaf_44 : decode b_FM_lightenLeaf 44 = .ok (.bipush 10, 2) := by decide +kernel
theorem d_FM_lightenLeaf_46 : decode b_FM_lightenLeaf 46 = .ok (.iload_n 3, 1) := by decide +kernel
theorem d_FM_lightenLeaf_47 : decode b_FM_lightenLeaf 47 = .ok (.iadd, 1) := by decide +kernel
theorem d_FM_lightenLeaf_48 : decode b_FM_lightenLeaf 48 = .ok (.invokevirtual 89, 3) := by decide +kernel
theorem d_FM_lightenLeaf_51 : decode b_FM_lightenLeaf 51 = .ok (.goto 19, 3) := by decide +kernel
theorem d_FM_lightenLeaf_54 : decode b_FM_lightenLeaf 54 = .ok (.iload_n 2, 1) := by decide +kernel
theorem d_FM_lightenLeaf_55 : decode b_FM_lightenLeaf 55 = .ok (.iconst 2, 1) := by decide +kernel
theorem d_FM_lightenLeaf_56 : decode b_FM_lightenLeaf 56 = .ok (.if_icmp .ne 14, 3) := by decide +kernel
theorem d_FM_lightenLeaf_59 : decode b_FM_lightenLeaf 59 = .ok (.aload_n 0, 1) := by decide +kernel
theorem d_FM_lightenLeaf_60 : decode b_FM_lightenLeaf 60 = .ok (.getfield 20, 3) := by decide +kernel
theorem d_FM_lightenLeaf_63 : decode b_FM_lightenLeaf 63 = .ok (.bipush 20, 2) := by decide +kernel
theorem d_FM_lightenLeaf_65 : decode b_FM_lightenLeaf 65 = .ok (.iload_n 3, 1) := by decide +kernel
theorem d_FM_lightenLeaf_66 : decode b_FM_lightenLeaf 66 = .ok (.iadd, 1) := by decide +kernel
theorem d_FM_lightenLeaf_67 : decode b_FM_lightenLeaf 67 = .ok (.invokevirtual 89, 3) := by decide +kernel
theorem d_FM_lightenLeaf_70 : decode b_FM_lightenLeaf 70 = .ok (.return_, 1) := by decide +kernel
theorem lk_FM_116 : ab_lk "PolicyForge$Form" 116 y_FA_meet b_FA_meet 3 (some FieldType.boolean) 2 6 := ⟨⟨rfl, T_FA, 4, rfl⟩, List.forall_mem_cons.mpr ⟨(ab_in 794 (by decide +kernel) (by decide +kernel)), List.forall_mem_cons.mpr ⟨(ab_in 746 (by decide +kernel) (by decide +kernel)), List.forall_mem_cons.mpr ⟨(ab_in 747 (by decide +kernel) (by decide +kernel)), List.forall_mem_cons.mpr ⟨(ab_in 98 (by decide +kernel) (by decide +kernel)), List.forall_mem_cons.mpr ⟨(ab_in 748 (by decide +kernel) (by decide +kernel)), fun _ h => absurd h List.not_mem_nil⟩⟩⟩⟩⟩, ⟨by decide +kernel, by decide +kernel, by decide +kernel⟩, by decide⟩
theorem fl_FM_20 : ab_fl "PolicyForge$Form" 20 3 3 1 := ⟨rfl, R_FM, T_FM, 10, rfl, uw_FM, by decide, rfl, (ab_in 176 (by decide +kernel) (by decide +kernel))⟩
set_option maxRecDepth 100000 in
set_option maxHeartbeats 1000000 in
theorem s_FM_lightenLeaf (u : ab_S) (f : Nat) (h : CI u) (hf : f < 61) : ab_C false l D ca y_FM_lightenLeaf b_FM_lightenLeaf 4 none 2 ab_nQ u [ab_O 3 f, ab_O 6 0] (fun u' v => cP [4, 8] u u' ∧ v = none) := by
  refine ab_C.of (by decide) (Nat.le_of_ble_eq_true rfl) ?_
  intro p e s m args below meth c ad X hZ hr0 hlk
  have P0 : cP [4, 8] u u := cQ.rf h
  refine ab_aload_n X 0 d_FM_lightenLeaf_0 rfl rfl ?_
  refine ab_gI X fl_FM_28 d_FM_lightenLeaf_1 (by first | assumption | decide | (show _ < 124; omega) | (show _ < 61; omega) | (show _ < 20; omega)) (rfl) ?_
  refine ab_sipush (v := 1000) X d_FM_lightenLeaf_4 (by decide) ?_
  refine ab_idiv X d_FM_lightenLeaf_7 (by decide) ?_
  refine ab_istore_n2 X 0 1 d_FM_lightenLeaf_8 rfl (by decide) rfl rfl rfl rfl ?_
  refine ab_aload_n X 1 d_FM_lightenLeaf_9 rfl rfl ?_
  refine ab_gI X fl_FM_28 d_FM_lightenLeaf_10 (by first | assumption | decide | (show _ < 124; omega) | (show _ < 61; omega) | (show _ < 20; omega)) (rfl) ?_
  refine ab_sipush (v := 1000) X d_FM_lightenLeaf_13 (by decide) ?_
  refine ab_irem X d_FM_lightenLeaf_16 (by decide) ?_
  refine ab_istore_n3 X 0 1 2 d_FM_lightenLeaf_17 rfl (by decide) rfl rfl rfl rfl rfl rfl ?_
  refine ab_aload_n X 3 d_FM_lightenLeaf_18 rfl rfl ?_
  refine ab_iload_n X 1 d_FM_lightenLeaf_19 rfl rfl ?_
  refine ab_iload_n X 0 d_FM_lightenLeaf_20 rfl rfl ?_
  refine ab_callV (as := [ab_I _, ab_I _]) X (fun h => by cases h) (t_FA_meet u _ _ h) lk_FM_116 d_FM_lightenLeaf_21 rfl rfl (by first | assumption | decide | (show _ < 124; omega) | (show _ < 61; omega) | (show _ < 20; omega)) ⟨by first | exact Nat.le_of_ble_eq_true rfl | (simp only [ab_rm]; omega), by first | exact Nat.le_of_ble_eq_true rfl | (simp only [ab_rm]; omega)⟩ ⟨by first | exact Nat.le_of_ble_eq_true rfl | (simp only [ab_rm]; omega), by first | exact Nat.le_of_ble_eq_true rfl | (simp only [ab_rm]; omega)⟩ (Nat.le_of_ble_eq_true rfl) (fun u21 r21 h21 => ?_)
  obtain ⟨e21, b21, hb21, rfl⟩ := h21
  subst u21
  refine ab_if_ne X 28 d_FM_lightenLeaf_24 rfl (fun h24 => ?_) (fun h24 => ?_)
  ·
    refine ab_aload_n X 2 d_FM_lightenLeaf_28 rfl rfl ?_
    refine ab_gR X fl_FM_20 d_FM_lightenLeaf_29 (by first | assumption | decide | (show _ < 124; omega) | (show _ < 61; omega) | (show _ < 20; omega)) (P0.1.fm3 (by first | assumption | decide | omega)) ?_
    refine ab_callV (as := []) X (fun h => by cases h) (s_RW_start u (2 * f) h (by omega)) lk_FM_87 d_FM_lightenLeaf_32 rfl rfl (by first | assumption | decide | (show _ < 124; omega) | (show _ < 61; omega) | (show _ < 20; omega)) ⟨by first | exact Nat.le_of_ble_eq_true rfl | (simp only [ab_rm]; omega), by first | exact Nat.le_of_ble_eq_true rfl | (simp only [ab_rm]; omega)⟩ ⟨by first | exact Nat.le_of_ble_eq_true rfl | (simp only [ab_rm]; omega), by first | exact Nat.le_of_ble_eq_true rfl | (simp only [ab_rm]; omega)⟩ (Nat.le_of_ble_eq_true rfl) (fun u32 r32 h32 => ?_)
    obtain ⟨q32, rfl⟩ := h32
    have P32 := P0.trans q32 (by decide)
    refine ab_iload_n X 1 d_FM_lightenLeaf_35 rfl rfl ?_
    refine ab_iconst (v := 1) X d_FM_lightenLeaf_36 (by decide) ?_
    refine ab_icmp_ne X 54 d_FM_lightenLeaf_37 rfl (fun h37 => ?_) (fun h37 => ?_)
    ·
      refine ab_iload_n X 1 d_FM_lightenLeaf_54 rfl rfl ?_
      refine ab_iconst (v := 2) X d_FM_lightenLeaf_55 (by decide) ?_
      refine ab_icmp_ne X 70 d_FM_lightenLeaf_56 rfl (fun h56 => ?_) (fun h56 => ?_)
      ·
        exact ab_retv X hr0 hlk d_FM_lightenLeaf_70 ⟨P32, rfl⟩
      ·
        refine ab_aload_n X 2 d_FM_lightenLeaf_59 rfl rfl ?_
        refine ab_gR X fl_FM_20 d_FM_lightenLeaf_60 (by first | assumption | decide | (show _ < 124; omega) | (show _ < 61; omega) | (show _ < 20; omega)) (P32.1.fm3 (by first | assumption | decide | omega)) ?_
        refine ab_bipush (v := 20) X d_FM_lightenLeaf_63 (by decide) ?_
        refine ab_iload_n X 0 d_FM_lightenLeaf_65 rfl rfl ?_
        refine ab_iadd X d_FM_lightenLeaf_66 ?_
        refine ab_callV (as := [ab_I _]) X (fun h => by cases h) (s_RW_add u32 (2 * f) _ P32.1 (by omega)) lk_FM_89 d_FM_lightenLeaf_67 rfl rfl (by first | assumption | decide | (show _ < 124; omega) | (show _ < 61; omega) | (show _ < 20; omega)) ⟨by first | exact Nat.le_of_ble_eq_true rfl | (simp only [ab_rm]; omega), by first | exact Nat.le_of_ble_eq_true rfl | (simp only [ab_rm]; omega)⟩ ⟨by first | exact Nat.le_of_ble_eq_true rfl | (simp only [ab_rm]; omega), by first | exact Nat.le_of_ble_eq_true rfl | (simp only [ab_rm]; omega)⟩ (Nat.le_of_ble_eq_true rfl) (fun u67 r67 h67 => ?_)
        obtain ⟨q67, rfl⟩ := h67
        have P67 := P32.trans q67 (by decide)
        exact ab_retv X hr0 hlk d_FM_lightenLeaf_70 ⟨P67, rfl⟩
    ·
      refine ab_aload_n X 2 d_FM_lightenLeaf_40 rfl rfl ?_
      refine ab_gR X fl_FM_20 d_FM_lightenLeaf_41 (by first | assumption | decide | (show _ < 124; omega) | (show _ < 61; omega) | (show _ < 20; omega)) (P32.1.fm3 (by first | assumption | decide | omega)) ?_
      refine ab_bipush (v := 10) X d_FM_lightenLeaf_44 (by decide) ?_
      refine ab_iload_n X 0 d_FM_lightenLeaf_46 rfl rfl ?_
      refine ab_iadd X d_FM_lightenLeaf_47 ?_
      refine ab_callV (as := [ab_I _]) X (fun h => by cases h) (s_RW_add u32 (2 * f) _ P32.1 (by omega)) lk_FM_89 d_FM_lightenLeaf_48 rfl rfl (by first | assumption | decide | (show _ < 124; omega) | (show _ < 61; omega) | (show _ < 20; omega)) ⟨by first | exact Nat.le_of_ble_eq_true rfl | (simp only [ab_rm]; omega), by first | exact Nat.le_of_ble_eq_true rfl | (simp only [ab_rm]; omega)⟩ ⟨by first | exact Nat.le_of_ble_eq_true rfl | (simp only [ab_rm]; omega), by first | exact Nat.le_of_ble_eq_true rfl | (simp only [ab_rm]; omega)⟩ (Nat.le_of_ble_eq_true rfl) (fun u48 r48 h48 => ?_)
      obtain ⟨q48, rfl⟩ := h48
      have P48 := P32.trans q48 (by decide)
      refine ab_goto X 70 d_FM_lightenLeaf_51 rfl ?_
      exact ab_retv X hr0 hlk d_FM_lightenLeaf_70 ⟨P48, rfl⟩
  ·
    exact ab_retv X hr0 hlk d_FM_lightenLeaf_27 ⟨P0, rfl⟩
abbrev b_FM_tryBranch : ByteArray := prog_3_method_12_code
def y_FM_tryBranch : MethodName := ⟨"PolicyForge$Form", "tryBranch", "(LPolicyForge$Row;ILPolicyForge$Form;)V"⟩
theorem d_FM_tryBranch_0 : decode b_FM_tryBranch 0 = .ok (.aload_n 1, 1) := by decide +kernel
theorem d_FM_tryBranch_1 : decode b_FM_tryBranch 1 = .ok (.invokevirtual 87, 3) := by decide +kernel
theorem d_FM_tryBranch_4 : decode b_FM_tryBranch 4 = .ok (.aload_n 1, 1) := by decide +kernel
theorem d_FM_tryBranch_5 : decode b_FM_tryBranch 5 = .ok (.iload_n 2, 1) := by decide +kernel
theorem d_FM_tryBranch_6 : decode b_FM_tryBranch 6 = .ok (.invokevirtual 89, 3) := by decide +kernel
theorem d_FM_tryBranch_9 : decode b_FM_tryBranch 9 = .ok (.aload_n 1, 1) := by decide +kernel
theorem d_FM_tryBranch_10 : decode b_FM_tryBranch 10 = .ok (.aload_n 3, 1) := by decide +kernel
theorem d_FM_tryBranch_11 : decode b_FM_tryBranch 11 = .ok (.getfield 20, 3) := by decide +kernel
theorem d_FM_tryBranch_14 : decode b_FM_tryBranch 14 = .ok (.invokevirtual 92, 3) := by decide +kernel
theorem d_FM_tryBranch_17 : decode b_FM_tryBranch 17 = .ok (.aload_n 0, 1) := by decide +kernel
theorem d_FM_tryBranch_18 : decode b_FM_tryBranch 18 = .ok (.getfield 20, 3) := by decide +kernel
theorem d_FM_tryBranch_21 : decode b_FM_tryBranch 21 = .ok (.aload_n 1, 1) := by decide +kernel
theorem d_FM_tryBranch_22 : decode b_FM_tryBranch 22 = .ok (.invokevirtual 107, 3) := by decide +kernel
theorem d_FM_tryBranch_25 : decode b_FM_tryBranch 25 = .ok (.return_, 1) := by decide +kernel
theorem lk_FM_107 : ab_lk "PolicyForge$Form" 107 y_RW_becomeIfLesser b_RW_becomeIfLesser 2 none 1 4 := ⟨⟨rfl, T_RW, 4, rfl⟩, List.forall_mem_cons.mpr ⟨(ab_in 799 (by decide +kernel) (by decide +kernel)), List.forall_mem_cons.mpr ⟨(ab_in 800 (by decide +kernel) (by decide +kernel)), List.forall_mem_cons.mpr ⟨(ab_in 801 (by decide +kernel) (by decide +kernel)), List.forall_mem_cons.mpr ⟨(ab_in 96 (by decide +kernel) (by decide +kernel)), List.forall_mem_cons.mpr ⟨(ab_in 802 (by decide +kernel) (by decide +kernel)), fun _ h => absurd h List.not_mem_nil⟩⟩⟩⟩⟩, ⟨by decide +kernel, by decide +kernel, by decide +kernel⟩, by decide⟩
set_option maxRecDepth 100000 in
set_option maxHeartbeats 1000000 in
theorem s_FM_tryBranch (u : ab_S) (f r g : Nat) (x : Int32) (h : CI u) (hf : f < 61) (hr : r < 124) (hg : g < 61) : ab_C false l D ca y_FM_tryBranch b_FM_tryBranch 4 none 4 ab_nQ u [ab_O 3 f, ab_O 4 r, ab_I x, ab_O 3 g] (fun u' v => cP [4, 8] u u' ∧ v = none) := by
  refine ab_C.of (by decide) (Nat.le_of_ble_eq_true rfl) ?_
  intro p e s m args below meth c ad X hZ hr0 hlk
  have P0 : cP [4, 8] u u := cQ.rf h
  refine ab_aload_n X 1 d_FM_tryBranch_0 rfl rfl ?_
  refine ab_callV (as := []) X (fun h => by cases h) (s_RW_start u r h hr) lk_FM_87 d_FM_tryBranch_1 rfl rfl (by first | assumption | decide | (show _ < 124; omega) | (show _ < 61; omega) | (show _ < 20; omega)) ⟨by first | exact Nat.le_of_ble_eq_true rfl | (simp only [ab_rm]; omega), by first | exact Nat.le_of_ble_eq_true rfl | (simp only [ab_rm]; omega)⟩ ⟨by first | exact Nat.le_of_ble_eq_true rfl | (simp only [ab_rm]; omega), by first | exact Nat.le_of_ble_eq_true rfl | (simp only [ab_rm]; omega)⟩ (Nat.le_of_ble_eq_true rfl) (fun u1 r1 h1 => ?_)
  obtain ⟨q1, rfl⟩ := h1
  have P1 := P0.trans q1 (by decide)
  refine ab_aload_n X 1 d_FM_tryBranch_4 rfl rfl ?_
  refine ab_iload_n X 2 d_FM_tryBranch_5 rfl rfl ?_
  refine ab_callV (as := [ab_I x]) X (fun h => by cases h) (s_RW_add u1 r x P1.1 hr) lk_FM_89 d_FM_tryBranch_6 rfl rfl (by first | assumption | decide | (show _ < 124; omega) | (show _ < 61; omega) | (show _ < 20; omega)) ⟨by first | exact Nat.le_of_ble_eq_true rfl | (simp only [ab_rm]; omega), by first | exact Nat.le_of_ble_eq_true rfl | (simp only [ab_rm]; omega)⟩ ⟨by first | exact Nat.le_of_ble_eq_true rfl | (simp only [ab_rm]; omega), by first | exact Nat.le_of_ble_eq_true rfl | (simp only [ab_rm]; omega)⟩ (Nat.le_of_ble_eq_true rfl) (fun u6 r6 h6 => ?_)
  obtain ⟨q6, rfl⟩ := h6
  have P6 := P1.trans q6 (by decide)
  refine ab_aload_n X 1 d_FM_tryBranch_9 rfl rfl ?_
  refine ab_aload_n X 3 d_FM_tryBranch_10 rfl rfl ?_
  refine ab_gR X fl_FM_20 d_FM_tryBranch_11 (by first | assumption | decide | (show _ < 124; omega) | (show _ < 61; omega) | (show _ < 20; omega)) (P6.1.fm3 (by first | assumption | decide | omega)) ?_
  refine ab_callV (as := [ab_O 4 (2 * g)]) X (fun h => by cases h) (s_RW_join u6 r (2 * g) P6.1 hr (by omega)) lk_FM_92 d_FM_tryBranch_14 rfl rfl (by first | assumption | decide | (show _ < 124; omega) | (show _ < 61; omega) | (show _ < 20; omega)) ⟨by first | exact Nat.le_of_ble_eq_true rfl | (simp only [ab_rm]; omega), by first | exact Nat.le_of_ble_eq_true rfl | (simp only [ab_rm]; omega)⟩ ⟨by first | exact Nat.le_of_ble_eq_true rfl | (simp only [ab_rm]; omega), by first | exact Nat.le_of_ble_eq_true rfl | (simp only [ab_rm]; omega)⟩ (Nat.le_of_ble_eq_true rfl) (fun u14 r14 h14 => ?_)
  obtain ⟨q14, rfl⟩ := h14
  have P14 := P6.trans q14 (by decide)
  refine ab_aload_n X 0 d_FM_tryBranch_17 rfl rfl ?_
  refine ab_gR X fl_FM_20 d_FM_tryBranch_18 (by first | assumption | decide | (show _ < 124; omega) | (show _ < 61; omega) | (show _ < 20; omega)) (P14.1.fm3 (by first | assumption | decide | omega)) ?_
  refine ab_aload_n X 1 d_FM_tryBranch_21 rfl rfl ?_
  refine ab_callV (as := [ab_O 4 r]) X (fun h => by cases h) (s_RW_becomeIfLesser u14 (2 * f) r P14.1 (by omega) hr) lk_FM_107 d_FM_tryBranch_22 rfl rfl (by first | assumption | decide | (show _ < 124; omega) | (show _ < 61; omega) | (show _ < 20; omega)) ⟨by first | exact Nat.le_of_ble_eq_true rfl | (simp only [ab_rm]; omega), by first | exact Nat.le_of_ble_eq_true rfl | (simp only [ab_rm]; omega)⟩ ⟨by first | exact Nat.le_of_ble_eq_true rfl | (simp only [ab_rm]; omega), by first | exact Nat.le_of_ble_eq_true rfl | (simp only [ab_rm]; omega)⟩ (Nat.le_of_ble_eq_true rfl) (fun u22 r22 h22 => ?_)
  obtain ⟨q22, rfl⟩ := h22
  have P22 := P14.trans q22 (by decide)
  exact ab_retv X hr0 hlk d_FM_tryBranch_25 ⟨P22, rfl⟩
abbrev b_FM_tryChoice : ByteArray := prog_3_method_14_code
def y_FM_tryChoice : MethodName := ⟨"PolicyForge$Form", "tryChoice", "(LPolicyForge$Row;I)V"⟩
theorem d_FM_tryChoice_0 : decode b_FM_tryChoice 0 = .ok (.aload_n 1, 1) := by decide +kernel
theorem d_FM_tryChoice_1 : decode b_FM_tryChoice 1 = .ok (.invokevirtual 87, 3) := by decide +kernel
theorem d_FM_tryChoice_4 : decode b_FM_tryChoice 4 = .ok (.iconst 0, 1) := by decide +kernel
theorem d_FM_tryChoice_5 : decode b_FM_tryChoice 5 = .ok (.istore_n 3, 1) := by decide +kernel
theorem d_FM_tryChoice_6 : decode b_FM_tryChoice 6 = .ok (.iload_n 3, 1) := by decide +kernel
theorem d_FM_tryChoice_7 : decode b_FM_tryChoice 7 = .ok (.aload_n 0, 1) := by decide +kernel
theorem d_FM_tryChoice_8 : decode b_FM_tryChoice 8 = .ok (.getfield 34, 3) := by decide +kernel
theorem d_FM_tryChoice_11 : decode b_FM_tryChoice 11 = .ok (.if_icmp .ge 55, 3) := by decide +kernel
theorem d_FM_tryChoice_14 : decode b_FM_tryChoice 14 = .ok (.iload_n 2, 1) := by decide +kernel
theorem d_FM_tryChoice_15 : decode b_FM_tryChoice 15 = .ok (.iload_n 3, 1) := by decide +kernel
theorem d_FM_tryChoice_16 : decode b_FM_tryChoice 16 = .ok (.ishr, 1) := by decide +kernel
theorem d_FM_tryChoice_17 : decode b_FM_tryChoice 17 = .ok (.iconst 1, 1) := by decide +kernel
theorem d_FM_tryChoice_18 : decode b_FM_tryChoice 18 = .ok (.iand, 1) := by decide +kernel
theorem d_FM_tryChoice_19 : decode b_FM_tryChoice 19 = .ok (.iconst 1, 1) := by decide +kernel
theorem d_FM_tryChoice_20 : decode b_FM_tryChoice 20 = .ok (.if_icmp .ne 7, 3) := by decide +kernel
theorem d_FM_tryChoice_23 : decode b_FM_tryChoice 23 = .ok (.iconst 1, 1) := by decide +kernel
theorem d_FM_tryChoice_24 : decode b_FM_tryChoice 24 = .ok (.goto 4, 3) := by decide +kernel
theorem d_FM_tryChoice_27 : decode b_FM_tryChoice 27 = .ok (.iconst 0, 1) := by decide +kernel
theorem d_FM_tryChoice_28 : decode b_FM_tryChoice 28 = .ok (.istore 4, 2) := by decide +kernel
theorem d_FM_tryChoice_30 : decode b_FM_tryChoice 30 = .ok (.aload_n 1, 1) := by decide +kernel
theorem d_FM_tryChoice_31 : decode b_FM_tryChoice 31 = .ok (.iload 4, 2) := by decide +kernel
theorem d_FM_tryChoice_33 : decode b_FM_tryChoice 33 = .ok (.ifCond .eq 15, 3) := by decide +kernel
theorem d_FM_tryChoice_36 : decode b_FM_tryChoice 36 = .ok (.aload_n 0, 1) := by decide +kernel
theorem d_FM_tryChoice_37 : decode b_FM_tryChoice 37 = .ok (.getfield 11, 3) := by decide +kernel
theorem d_FM_tryChoice_40 : decode b_FM_tryChoice 40 = .ok (.iload_n 3, 1) := by decide +kernel
theorem d_FM_tryChoice_41 : decode b_FM_tryChoice 41 = .ok (.aaload, 1) := by decide +kernel
theorem d_FM_tryChoice_42 : decode b_FM_tryChoice 42 = .ok (.getfield 20, 3) := by decide +kernel
theorem d_FM_tryChoice_45 : decode b_FM_tryChoice 45 = .ok (.goto 12, 3) := by decide +kernel
theorem d_FM_tryChoice_48 : decode b_FM_tryChoice 48 = .ok (.aload_n 0, 1) := by decide +kernel
theorem d_FM_tryChoice_49 : decode b_FM_tryChoice 49 = .ok (.getfield 11, 3) := by decide +kernel
theorem d_FM_tryChoice_52 : decode b_FM_tryChoice 52 = .ok (.iload_n 3, 1) := by decide +kernel
theorem d_FM_tryChoice_53 : decode b_FM_tryChoice 53 = .ok (.aaload, 1) := by decide +kernel
theorem d_FM_tryChoice_54 : decode b_FM_tryChoice 54 = .ok (.getfield 47, 3) := by decide +kernel
theorem d_FM_tryChoice_57 : decode b_FM_tryChoice 57 = .ok (.invokevirtual 92, 3) := by decide +kernel
theorem d_FM_tryChoice_60 : decode b_FM_tryChoice 60 = .ok (.iinc 3 1, 3) := by decide +kernel
theorem d_FM_tryChoice_63 : decode b_FM_tryChoice 63 = .ok (.goto (-57), 3) := by decide +kernel
theorem d_FM_tryChoice_66 : decode b_FM_tryChoice 66 = .ok (.aload_n 0, 1) := by decide +kernel
theorem d_FM_tryChoice_67 : decode b_FM_tryChoice 67 = .ok (.getfield 20, 3) := by decide +kernel
theorem d_FM_tryChoice_70 : decode b_FM_tryChoice 70 = .ok (.aload_n 1, 1) := by decide +kernel
theorem d_FM_tryChoice_71 : decode b_FM_tryChoice 71 = .ok (.invokevirtual 107, 3) := by decide +kernel
theorem d_FM_tryChoice_74 : decode b_FM_tryChoice 74 = .ok (.return_, 1) := by decide +kernel
set_option maxRecDepth 100000 in
set_option maxHeartbeats 1000000 in
theorem s_FM_tryChoice (u : ab_S) (f r : Nat) (x : Int32) (h : CI u) (hf : f < 61) (hr : r < 124) : ab_C false l D ca y_FM_tryChoice b_FM_tryChoice 5 none 4 ab_nQ u [ab_O 3 f, ab_O 4 r, ab_I x] (fun u' v => cP [4, 8] u u' ∧ v = none) := by
  refine ab_C.of (by decide) (Nat.le_of_ble_eq_true rfl) ?_
  intro p e s m args below meth c ad X hZ hr0 hlk
  have P0 : cP [4, 8] u u := cQ.rf h
  obtain ⟨n, hn, en, he, hc⟩ := h.form hf
  have loop : ∀ (k j : Nat) (u1 : ab_S), k + j = 4 → cP [4, 8] u u1 → ab_J p l e (ab_rm 4 0 0) s m args below meth c (MQ below (ab_Q D ca ad ab_nQ s.heap.size (fun u' v => cP [4, 8] u u' ∧ v = none)) args s 0 0 (ab_A ad ab_nQ s.heap.size)) D ca (ab_A ad ab_nQ s.heap.size) s.heap 5 0 0 ad ab_nQ u1 6 [(3, ab_I (nI j)), (0, ab_O 3 f), (1, ab_O 4 r), (2, ab_I x)] [] := by
    intro k
    induction k with
    | zero =>
      intro j u1 hj P1
      refine ab_iload_n X 0 d_FM_tryChoice_6 rfl rfl ?_
      refine ab_aload_n X 1 d_FM_tryChoice_7 rfl rfl ?_
      refine ab_gI X fl_FM_34 d_FM_tryChoice_8 (by first | assumption | decide | (show _ < 124; omega) | (show _ < 61; omega) | (show _ < 20; omega)) (P1.ii (by decide) en) ?_
      refine ab_icmp_ge X 66 d_FM_tryChoice_11 rfl (fun _ => ?_) (fun hb => absurd ((nI_le (by omega) (by omega))) hb)
      refine ab_aload_n X 1 d_FM_tryChoice_66 rfl rfl ?_
      refine ab_gR X fl_FM_20 d_FM_tryChoice_67 (by first | assumption | decide | (show _ < 124; omega) | (show _ < 61; omega) | (show _ < 20; omega)) (P1.1.fm3 (by first | assumption | decide | omega)) ?_
      refine ab_aload_n X 2 d_FM_tryChoice_70 rfl rfl ?_
      refine ab_callV (as := [ab_O 4 r]) X (fun h => by cases h) (s_RW_becomeIfLesser u1 (2 * f) r P1.1 (by omega) hr) lk_FM_107 d_FM_tryChoice_71 rfl rfl (by first | assumption | decide | (show _ < 124; omega) | (show _ < 61; omega) | (show _ < 20; omega)) ⟨by first | exact Nat.le_of_ble_eq_true rfl | (simp only [ab_rm]; omega), by first | exact Nat.le_of_ble_eq_true rfl | (simp only [ab_rm]; omega)⟩ ⟨by first | exact Nat.le_of_ble_eq_true rfl | (simp only [ab_rm]; omega), by first | exact Nat.le_of_ble_eq_true rfl | (simp only [ab_rm]; omega)⟩ (Nat.le_of_ble_eq_true rfl) (fun u71 r71 h71 => ?_)
      obtain ⟨q71, rfl⟩ := h71
      have P71 := P1.trans q71 (by decide)
      exact ab_retv X hr0 hlk d_FM_tryChoice_74 ⟨P71, rfl⟩
    | succ k ih =>
      intro j u1 hj P1
      refine ab_iload_n X 0 d_FM_tryChoice_6 rfl rfl ?_
      refine ab_aload_n X 1 d_FM_tryChoice_7 rfl rfl ?_
      refine ab_gI X fl_FM_34 d_FM_tryChoice_8 (by first | assumption | decide | (show _ < 124; omega) | (show _ < 61; omega) | (show _ < 20; omega)) (P1.ii (by decide) en) ?_
      refine ab_icmp_ge X 66 d_FM_tryChoice_11 rfl (fun h11 => ?_) (fun h11 => ?_)
      ·
        refine ab_aload_n X 1 d_FM_tryChoice_66 rfl rfl ?_
        refine ab_gR X fl_FM_20 d_FM_tryChoice_67 (by first | assumption | decide | (show _ < 124; omega) | (show _ < 61; omega) | (show _ < 20; omega)) (P1.1.fm3 (by first | assumption | decide | omega)) ?_
        refine ab_aload_n X 2 d_FM_tryChoice_70 rfl rfl ?_
        refine ab_callV (as := [ab_O 4 r]) X (fun h => by cases h) (s_RW_becomeIfLesser u1 (2 * f) r P1.1 (by omega) hr) lk_FM_107 d_FM_tryChoice_71 rfl rfl (by first | assumption | decide | (show _ < 124; omega) | (show _ < 61; omega) | (show _ < 20; omega)) ⟨by first | exact Nat.le_of_ble_eq_true rfl | (simp only [ab_rm]; omega), by first | exact Nat.le_of_ble_eq_true rfl | (simp only [ab_rm]; omega)⟩ ⟨by first | exact Nat.le_of_ble_eq_true rfl | (simp only [ab_rm]; omega), by first | exact Nat.le_of_ble_eq_true rfl | (simp only [ab_rm]; omega)⟩ (Nat.le_of_ble_eq_true rfl) (fun u71 r71 h71 => ?_)
        obtain ⟨q71, rfl⟩ := h71
        have P71 := P1.trans q71 (by decide)
        exact ab_retv X hr0 hlk d_FM_tryChoice_74 ⟨P71, rfl⟩
      ·
        have hjn := nI_lt_of h11 (by omega)
        obtain ⟨g, hg, eg⟩ := he j hjn
        refine ab_iload_n X 3 d_FM_tryChoice_14 rfl rfl ?_
        refine ab_iload_n X 0 d_FM_tryChoice_15 rfl rfl ?_
        refine ab_ishr X d_FM_tryChoice_16 ?_
        refine ab_iconst (v := 1) X d_FM_tryChoice_17 (by decide) ?_
        refine ab_iand X d_FM_tryChoice_18 ?_
        refine ab_iconst (v := 1) X d_FM_tryChoice_19 (by decide) ?_
        refine ab_icmp_ne X 27 d_FM_tryChoice_20 rfl (fun h20 => ?_) (fun h20 => ?_)
        ·
          refine ab_iconst (v := 0) X d_FM_tryChoice_27 (by decide) ?_
          refine ab_istore4 X 0 1 2 3 d_FM_tryChoice_28 (by decide) rfl rfl rfl rfl rfl rfl rfl rfl ?_
          refine ab_aload_n X 3 d_FM_tryChoice_30 rfl rfl ?_
          refine ab_iload X 0 d_FM_tryChoice_31 rfl ?_
          refine ab_if_eq X 48 d_FM_tryChoice_33 rfl (fun h33 => ?_) (fun h33 => ?_)
          ·
            refine ab_aload_n X 2 d_FM_tryChoice_48 rfl rfl ?_
            refine ab_gR X fl_FM_11 d_FM_tryChoice_49 (by first | assumption | decide | (show _ < 124; omega) | (show _ < 61; omega) | (show _ < 20; omega)) (P1.1.fm0 (by first | assumption | decide | omega)) ?_
            refine ab_iload_n X 1 d_FM_tryChoice_52 rfl rfl ?_
            refine ab_aalv X (j) ⟨rfl, _, fun _ => rfl⟩ d_FM_tryChoice_53 (by first | assumption | decide | (show _ < 124; omega) | (show _ < 61; omega) | (show _ < 20; omega)) (rfl) (show j < 4 by omega) (ab_ln_lt _ _) (P1.rr (by decide) eg) ?_
            refine ab_gR X fl_FM_47 d_FM_tryChoice_54 (by first | assumption | decide | (show _ < 124; omega) | (show _ < 61; omega) | (show _ < 20; omega)) (P1.1.fm2 (by first | assumption | decide | omega)) ?_
            refine ab_callV (as := [ab_O 4 _]) X (fun h => by cases h) (s_RW_join u1 r _ P1.1 hr (by omega)) lk_FM_92 d_FM_tryChoice_57 rfl rfl (by first | assumption | decide | (show _ < 124; omega) | (show _ < 61; omega) | (show _ < 20; omega)) ⟨by first | exact Nat.le_of_ble_eq_true rfl | (simp only [ab_rm]; omega), by first | exact Nat.le_of_ble_eq_true rfl | (simp only [ab_rm]; omega)⟩ ⟨by first | exact Nat.le_of_ble_eq_true rfl | (simp only [ab_rm]; omega), by first | exact Nat.le_of_ble_eq_true rfl | (simp only [ab_rm]; omega)⟩ (Nat.le_of_ble_eq_true rfl) (fun u57 r57 h57 => ?_)
            obtain ⟨q57, rfl⟩ := h57
            have P57 := P1.trans q57 (by decide)
            refine ab_iinc4 X 1 0 2 3 4 d_FM_tryChoice_60 rfl (by decide) rfl rfl rfl rfl rfl rfl rfl rfl ?_
            refine ab_goto X 6 d_FM_tryChoice_63 rfl ?_
            refine ab_lv (List.forall_mem_cons.mpr ⟨List.mem_of_getElem? (i := 0) rfl, List.forall_mem_cons.mpr ⟨List.mem_of_getElem? (i := 2) rfl, List.forall_mem_cons.mpr ⟨List.mem_of_getElem? (i := 3) rfl, List.forall_mem_cons.mpr ⟨List.mem_of_getElem? (i := 4) rfl, fun _ h => absurd h List.not_mem_nil⟩⟩⟩⟩) ?_
            rw [show nI j + Int32.ofInt 1 = nI (j + 1) from nI_1 j]
            exact ih (j + 1) _ (by omega) P57
          ·
            refine ab_aload_n X 2 d_FM_tryChoice_36 rfl rfl ?_
            refine ab_gR X fl_FM_11 d_FM_tryChoice_37 (by first | assumption | decide | (show _ < 124; omega) | (show _ < 61; omega) | (show _ < 20; omega)) (P1.1.fm0 (by first | assumption | decide | omega)) ?_
            refine ab_iload_n X 1 d_FM_tryChoice_40 rfl rfl ?_
            refine ab_aalv X (j) ⟨rfl, _, fun _ => rfl⟩ d_FM_tryChoice_41 (by first | assumption | decide | (show _ < 124; omega) | (show _ < 61; omega) | (show _ < 20; omega)) (rfl) (show j < 4 by omega) (ab_ln_lt _ _) (P1.rr (by decide) eg) ?_
            refine ab_gR X fl_FM_20 d_FM_tryChoice_42 (by first | assumption | decide | (show _ < 124; omega) | (show _ < 61; omega) | (show _ < 20; omega)) (P1.1.fm3 (by first | assumption | decide | omega)) ?_
            refine ab_goto X 57 d_FM_tryChoice_45 rfl ?_
            refine ab_callV (as := [ab_O 4 _]) X (fun h => by cases h) (s_RW_join u1 r _ P1.1 hr (by omega)) lk_FM_92 d_FM_tryChoice_57 rfl rfl (by first | assumption | decide | (show _ < 124; omega) | (show _ < 61; omega) | (show _ < 20; omega)) ⟨by first | exact Nat.le_of_ble_eq_true rfl | (simp only [ab_rm]; omega), by first | exact Nat.le_of_ble_eq_true rfl | (simp only [ab_rm]; omega)⟩ ⟨by first | exact Nat.le_of_ble_eq_true rfl | (simp only [ab_rm]; omega), by first | exact Nat.le_of_ble_eq_true rfl | (simp only [ab_rm]; omega)⟩ (Nat.le_of_ble_eq_true rfl) (fun u57 r57 h57 => ?_)
            obtain ⟨q57, rfl⟩ := h57
            have P57 := P1.trans q57 (by decide)
            refine ab_iinc4 X 1 0 2 3 4 d_FM_tryChoice_60 rfl (by decide) rfl rfl rfl rfl rfl rfl rfl rfl ?_
            refine ab_goto X 6 d_FM_tryChoice_63 rfl ?_
            refine ab_lv (List.forall_mem_cons.mpr ⟨List.mem_of_getElem? (i := 0) rfl, List.forall_mem_cons.mpr ⟨List.mem_of_getElem? (i := 2) rfl, List.forall_mem_cons.mpr ⟨List.mem_of_getElem? (i := 3) rfl, List.forall_mem_cons.mpr ⟨List.mem_of_getElem? (i := 4) rfl, fun _ h => absurd h List.not_mem_nil⟩⟩⟩⟩) ?_
            rw [show nI j + Int32.ofInt 1 = nI (j + 1) from nI_1 j]
            exact ih (j + 1) _ (by omega) P57
        ·
          refine ab_iconst (v := 1) X d_FM_tryChoice_23 (by decide) ?_
          refine ab_goto X 28 d_FM_tryChoice_24 rfl ?_
          refine ab_istore4 X 0 1 2 3 d_FM_tryChoice_28 (by decide) rfl rfl rfl rfl rfl rfl rfl rfl ?_
          refine ab_aload_n X 3 d_FM_tryChoice_30 rfl rfl ?_
          refine ab_iload X 0 d_FM_tryChoice_31 rfl ?_
          refine ab_if_eq X 48 d_FM_tryChoice_33 rfl (fun h33 => ?_) (fun h33 => ?_)
          ·
            refine ab_aload_n X 2 d_FM_tryChoice_48 rfl rfl ?_
            refine ab_gR X fl_FM_11 d_FM_tryChoice_49 (by first | assumption | decide | (show _ < 124; omega) | (show _ < 61; omega) | (show _ < 20; omega)) (P1.1.fm0 (by first | assumption | decide | omega)) ?_
            refine ab_iload_n X 1 d_FM_tryChoice_52 rfl rfl ?_
            refine ab_aalv X (j) ⟨rfl, _, fun _ => rfl⟩ d_FM_tryChoice_53 (by first | assumption | decide | (show _ < 124; omega) | (show _ < 61; omega) | (show _ < 20; omega)) (rfl) (show j < 4 by omega) (ab_ln_lt _ _) (P1.rr (by decide) eg) ?_
            refine ab_gR X fl_FM_47 d_FM_tryChoice_54 (by first | assumption | decide | (show _ < 124; omega) | (show _ < 61; omega) | (show _ < 20; omega)) (P1.1.fm2 (by first | assumption | decide | omega)) ?_
            refine ab_callV (as := [ab_O 4 _]) X (fun h => by cases h) (s_RW_join u1 r _ P1.1 hr (by omega)) lk_FM_92 d_FM_tryChoice_57 rfl rfl (by first | assumption | decide | (show _ < 124; omega) | (show _ < 61; omega) | (show _ < 20; omega)) ⟨by first | exact Nat.le_of_ble_eq_true rfl | (simp only [ab_rm]; omega), by first | exact Nat.le_of_ble_eq_true rfl | (simp only [ab_rm]; omega)⟩ ⟨by first | exact Nat.le_of_ble_eq_true rfl | (simp only [ab_rm]; omega), by first | exact Nat.le_of_ble_eq_true rfl | (simp only [ab_rm]; omega)⟩ (Nat.le_of_ble_eq_true rfl) (fun u57 r57 h57 => ?_)
            obtain ⟨q57, rfl⟩ := h57
            have P57 := P1.trans q57 (by decide)
            refine ab_iinc4 X 1 0 2 3 4 d_FM_tryChoice_60 rfl (by decide) rfl rfl rfl rfl rfl rfl rfl rfl ?_
            refine ab_goto X 6 d_FM_tryChoice_63 rfl ?_
            refine ab_lv (List.forall_mem_cons.mpr ⟨List.mem_of_getElem? (i := 0) rfl, List.forall_mem_cons.mpr ⟨List.mem_of_getElem? (i := 2) rfl, List.forall_mem_cons.mpr ⟨List.mem_of_getElem? (i := 3) rfl, List.forall_mem_cons.mpr ⟨List.mem_of_getElem? (i := 4) rfl, fun _ h => absurd h List.not_mem_nil⟩⟩⟩⟩) ?_
            rw [show nI j + Int32.ofInt 1 = nI (j + 1) from nI_1 j]
            exact ih (j + 1) _ (by omega) P57
          ·
            refine ab_aload_n X 2 d_FM_tryChoice_36 rfl rfl ?_
            refine ab_gR X fl_FM_11 d_FM_tryChoice_37 (by first | assumption | decide | (show _ < 124; omega) | (show _ < 61; omega) | (show _ < 20; omega)) (P1.1.fm0 (by first | assumption | decide | omega)) ?_
            refine ab_iload_n X 1 d_FM_tryChoice_40 rfl rfl ?_
            refine ab_aalv X (j) ⟨rfl, _, fun _ => rfl⟩ d_FM_tryChoice_41 (by first | assumption | decide | (show _ < 124; omega) | (show _ < 61; omega) | (show _ < 20; omega)) (rfl) (show j < 4 by omega) (ab_ln_lt _ _) (P1.rr (by decide) eg) ?_
            refine ab_gR X fl_FM_20 d_FM_tryChoice_42 (by first | assumption | decide | (show _ < 124; omega) | (show _ < 61; omega) | (show _ < 20; omega)) (P1.1.fm3 (by first | assumption | decide | omega)) ?_
            refine ab_goto X 57 d_FM_tryChoice_45 rfl ?_
            refine ab_callV (as := [ab_O 4 _]) X (fun h => by cases h) (s_RW_join u1 r _ P1.1 hr (by omega)) lk_FM_92 d_FM_tryChoice_57 rfl rfl (by first | assumption | decide | (show _ < 124; omega) | (show _ < 61; omega) | (show _ < 20; omega)) ⟨by first | exact Nat.le_of_ble_eq_true rfl | (simp only [ab_rm]; omega), by first | exact Nat.le_of_ble_eq_true rfl | (simp only [ab_rm]; omega)⟩ ⟨by first | exact Nat.le_of_ble_eq_true rfl | (simp only [ab_rm]; omega), by first | exact Nat.le_of_ble_eq_true rfl | (simp only [ab_rm]; omega)⟩ (Nat.le_of_ble_eq_true rfl) (fun u57 r57 h57 => ?_)
            obtain ⟨q57, rfl⟩ := h57
            have P57 := P1.trans q57 (by decide)
            refine ab_iinc4 X 1 0 2 3 4 d_FM_tryChoice_60 rfl (by decide) rfl rfl rfl rfl rfl rfl rfl rfl ?_
            refine ab_goto X 6 d_FM_tryChoice_63 rfl ?_
            refine ab_lv (List.forall_mem_cons.mpr ⟨List.mem_of_getElem? (i := 0) rfl, List.forall_mem_cons.mpr ⟨List.mem_of_getElem? (i := 2) rfl, List.forall_mem_cons.mpr ⟨List.mem_of_getElem? (i := 3) rfl, List.forall_mem_cons.mpr ⟨List.mem_of_getElem? (i := 4) rfl, fun _ h => absurd h List.not_mem_nil⟩⟩⟩⟩) ?_
            rw [show nI j + Int32.ofInt 1 = nI (j + 1) from nI_1 j]
            exact ih (j + 1) _ (by omega) P57
  refine ab_aload_n X 1 d_FM_tryChoice_0 rfl rfl ?_
  refine ab_callV (as := []) X (fun h => by cases h) (s_RW_start u r h hr) lk_FM_87 d_FM_tryChoice_1 rfl rfl (by first | assumption | decide | (show _ < 124; omega) | (show _ < 61; omega) | (show _ < 20; omega)) ⟨by first | exact Nat.le_of_ble_eq_true rfl | (simp only [ab_rm]; omega), by first | exact Nat.le_of_ble_eq_true rfl | (simp only [ab_rm]; omega)⟩ ⟨by first | exact Nat.le_of_ble_eq_true rfl | (simp only [ab_rm]; omega), by first | exact Nat.le_of_ble_eq_true rfl | (simp only [ab_rm]; omega)⟩ (Nat.le_of_ble_eq_true rfl) (fun u1 r1 h1 => ?_)
  obtain ⟨q1, rfl⟩ := h1
  have P1 := P0.trans q1 (by decide)
  refine ab_iconst (v := 0) X d_FM_tryChoice_4 (by decide) ?_
  refine ab_istore_n3 X 0 1 2 d_FM_tryChoice_5 rfl (by decide) rfl rfl rfl rfl rfl rfl ?_
  exact loop 4 0 _ rfl P1
abbrev b_FM_lightenChoices : ByteArray := prog_3_method_13_code
def y_FM_lightenChoices : MethodName := ⟨"PolicyForge$Form", "lightenChoices", "(LPolicyForge$Row;)V"⟩
theorem d_FM_lightenChoices_0 : decode b_FM_lightenChoices 0 = .ok (.iconst 0, 1) := by decide +kernel
theorem d_FM_lightenChoices_1 : decode b_FM_lightenChoices 1 = .ok (.istore_n 2, 1) := by decide +kernel
theorem d_FM_lightenChoices_2 : decode b_FM_lightenChoices 2 = .ok (.iload_n 2, 1) := by decide +kernel
theorem d_FM_lightenChoices_3 : decode b_FM_lightenChoices 3 = .ok (.iconst 1, 1) := by decide +kernel
theorem d_FM_lightenChoices_4 : decode b_FM_lightenChoices 4 = .ok (.aload_n 0, 1) := by decide +kernel
theorem d_FM_lightenChoices_5 : decode b_FM_lightenChoices 5 = .ok (.getfield 34, 3) := by decide +kernel
theorem d_FM_lightenChoices_8 : decode b_FM_lightenChoices 8 = .ok (.ishl, 1) := by decide +kernel
theorem d_FM_lightenChoices_9 : decode b_FM_lightenChoices 9 = .ok (.if_icmp .ge 26, 3) := by decide +kernel
theorem d_FM_lightenChoices_12 : decode b_FM_lightenChoices 12 = .ok (.iload_n 2, 1) := by decide +kernel
theorem d_FM_lightenChoices_13 : decode b_FM_lightenChoices 13 = .ok (.invokestatic 82, 3) := by decide +kernel
theorem d_FM_lightenChoices_16 : decode b_FM_lightenChoices 16 = .ok (.aload_n 0, 1) := by decide +kernel
theorem d_FM_lightenChoices_17 : decode b_FM_lightenChoices 17 = .ok (.getfield 31, 3) := by decide +kernel
theorem d_FM_lightenChoices_20 : decode b_FM_lightenChoices 20 = .ok (.if_icmp .ne 9, 3) := by decide +kernel
theorem d_FM_lightenChoices_23 : decode b_FM_lightenChoices 23 = .ok (.aload_n 0, 1) := by decide +kernel
theorem d_FM_lightenChoices_24 : decode b_FM_lightenChoices 24 = .ok (.aload_n 1, 1) := by decide +kernel
theorem d_FM_lightenChoices_25 : decode b_FM_lightenChoices 25 = .ok (.iload_n 2, 1) := by decide +kernel
theorem d_FM_lightenChoices_26 : decode b_FM_lightenChoices 26 = .ok (.invokevirtual 122, 3) := by decide +kernel
theorem d_FM_lightenChoices_29 : decode b_FM_lightenChoices 29 = .ok (.iinc 2 1, 3) := by decide +kernel
theorem d_FM_lightenChoices_32 : decode b_FM_lightenChoices 32 = .ok (.goto (-30), 3) := by decide +kernel
theorem d_FM_lightenChoices_35 : decode b_FM_lightenChoices 35 = .ok (.return_, 1) := by decide +kernel
theorem lk_FM_122 : ab_lk "PolicyForge$Form" 122 y_FM_tryChoice b_FM_tryChoice 5 none 2 3 := ⟨⟨rfl, T_FM, 10, rfl⟩, List.forall_mem_cons.mpr ⟨(ab_in 818 (by decide +kernel) (by decide +kernel)), List.forall_mem_cons.mpr ⟨(ab_in 820 (by decide +kernel) (by decide +kernel)), List.forall_mem_cons.mpr ⟨(ab_in 32 (by decide +kernel) (by decide +kernel)), List.forall_mem_cons.mpr ⟨(ab_in 95 (by decide +kernel) (by decide +kernel)), List.forall_mem_cons.mpr ⟨(ab_in 821 (by decide +kernel) (by decide +kernel)), fun _ h => absurd h List.not_mem_nil⟩⟩⟩⟩⟩, ⟨by decide +kernel, by decide +kernel, by decide +kernel⟩, by decide⟩
set_option maxRecDepth 100000 in
set_option maxHeartbeats 1000000 in
theorem s_FM_lightenChoices (u : ab_S) (f r : Nat) (h : CI u) (hf : f < 61) (hr : r < 124) : ab_C false l D ca y_FM_lightenChoices b_FM_lightenChoices 3 none 5 ab_nQ u [ab_O 3 f, ab_O 4 r] (fun u' v => cP [4, 8] u u' ∧ v = none) := by
  refine ab_C.of (by decide) (Nat.le_of_ble_eq_true rfl) ?_
  intro p e s m args below meth c ad X hZ hr0 hlk
  have P0 : cP [4, 8] u u := cQ.rf h
  obtain ⟨n, hn, en, he, hc⟩ := h.form hf
  have tw := ci_tw hn
  have loop : ∀ (k j : Nat) (u1 : ab_S), k + j = 17 → cP [4, 8] u u1 → ab_J p l e (ab_rm 5 0 0) s m args below meth c (MQ below (ab_Q D ca ad ab_nQ s.heap.size (fun u' v => cP [4, 8] u u' ∧ v = none)) args s 0 0 (ab_A ad ab_nQ s.heap.size)) D ca (ab_A ad ab_nQ s.heap.size) s.heap 3 0 0 ad ab_nQ u1 2 [(2, ab_I (nI j)), (0, ab_O 3 f), (1, ab_O 4 r)] [] := by
    intro k
    induction k with
    | zero =>
      intro j u1 hj P1
      refine ab_iload_n X 0 d_FM_lightenChoices_2 rfl rfl ?_
      refine ab_iconst (v := 1) X d_FM_lightenChoices_3 (by decide) ?_
      refine ab_aload_n X 1 d_FM_lightenChoices_4 rfl rfl ?_
      refine ab_gI X fl_FM_34 d_FM_lightenChoices_5 (by first | assumption | decide | (show _ < 124; omega) | (show _ < 61; omega) | (show _ < 20; omega)) (P1.ii (by decide) en) ?_
      refine ab_ishl X d_FM_lightenChoices_8 ?_
      refine ab_top tw.1 ?_
      refine ab_icmp_ge X 35 d_FM_lightenChoices_9 rfl (fun _ => ?_) (fun hb => absurd ((nI_le (by omega) (by omega))) hb)
      exact ab_retv X hr0 hlk d_FM_lightenChoices_35 ⟨P1, rfl⟩
    | succ k ih =>
      intro j u1 hj P1
      refine ab_iload_n X 0 d_FM_lightenChoices_2 rfl rfl ?_
      refine ab_iconst (v := 1) X d_FM_lightenChoices_3 (by decide) ?_
      refine ab_aload_n X 1 d_FM_lightenChoices_4 rfl rfl ?_
      refine ab_gI X fl_FM_34 d_FM_lightenChoices_5 (by first | assumption | decide | (show _ < 124; omega) | (show _ < 61; omega) | (show _ < 20; omega)) (P1.ii (by decide) en) ?_
      refine ab_ishl X d_FM_lightenChoices_8 ?_
      refine ab_top tw.1 ?_
      refine ab_icmp_ge X 35 d_FM_lightenChoices_9 rfl (fun h9 => ?_) (fun h9 => ?_)
      ·
        exact ab_retv X hr0 hlk d_FM_lightenChoices_35 ⟨P1, rfl⟩
      ·
        refine ab_iload_n X 0 d_FM_lightenChoices_12 rfl rfl ?_
        refine ab_callS (as := [ab_I (nI j)]) X (fun h => by cases h) (t_JI_bitCount u1 (nI j)) ls_FM_82 d_FM_lightenChoices_13 rfl rfl ⟨by first | exact Nat.le_of_ble_eq_true rfl | (simp only [ab_rm]; omega), by first | exact Nat.le_of_ble_eq_true rfl | (simp only [ab_rm]; omega)⟩ ⟨by first | exact Nat.le_of_ble_eq_true rfl | (simp only [ab_rm]; omega), by first | exact Nat.le_of_ble_eq_true rfl | (simp only [ab_rm]; omega)⟩ (Nat.le_of_ble_eq_true rfl) (fun u13 r13 h13 => ?_)
        obtain ⟨e13, x13, rfl⟩ := h13
        subst u13
        refine ab_aload_n X 1 d_FM_lightenChoices_16 rfl rfl ?_
        refine ab_gI X fl_FM_31 d_FM_lightenChoices_17 (by first | assumption | decide | (show _ < 124; omega) | (show _ < 61; omega) | (show _ < 20; omega)) (rfl) ?_
        refine ab_icmp_ne X 29 d_FM_lightenChoices_20 rfl (fun h20 => ?_) (fun h20 => ?_)
        ·
          refine ab_iinc2 X 0 1 2 d_FM_lightenChoices_29 rfl (by decide) rfl rfl rfl rfl ?_
          refine ab_goto X 2 d_FM_lightenChoices_32 rfl ?_
          rw [show nI j + Int32.ofInt 1 = nI (j + 1) from nI_1 j]
          exact ih (j + 1) _ (by omega) P1
        ·
          refine ab_aload_n X 1 d_FM_lightenChoices_23 rfl rfl ?_
          refine ab_aload_n X 2 d_FM_lightenChoices_24 rfl rfl ?_
          refine ab_iload_n X 0 d_FM_lightenChoices_25 rfl rfl ?_
          refine ab_callV (as := [ab_O 4 r, ab_I (nI j)]) X (fun h => by cases h) (s_FM_tryChoice u1 f r (nI j) P1.1 hf hr) lk_FM_122 d_FM_lightenChoices_26 rfl rfl (by first | assumption | decide | (show _ < 124; omega) | (show _ < 61; omega) | (show _ < 20; omega)) ⟨by first | exact Nat.le_of_ble_eq_true rfl | (simp only [ab_rm]; omega), by first | exact Nat.le_of_ble_eq_true rfl | (simp only [ab_rm]; omega)⟩ ⟨by first | exact Nat.le_of_ble_eq_true rfl | (simp only [ab_rm]; omega), by first | exact Nat.le_of_ble_eq_true rfl | (simp only [ab_rm]; omega)⟩ (Nat.le_of_ble_eq_true rfl) (fun u26 r26 h26 => ?_)
          obtain ⟨q26, rfl⟩ := h26
          have P26 := P1.trans q26 (by decide)
          refine ab_iinc2 X 0 1 2 d_FM_lightenChoices_29 rfl (by decide) rfl rfl rfl rfl ?_
          refine ab_goto X 2 d_FM_lightenChoices_32 rfl ?_
          rw [show nI j + Int32.ofInt 1 = nI (j + 1) from nI_1 j]
          exact ih (j + 1) _ (by omega) P26
  refine ab_iconst (v := 0) X d_FM_lightenChoices_0 (by decide) ?_
  refine ab_istore_n2 X 0 1 d_FM_lightenChoices_1 rfl (by decide) rfl rfl rfl rfl ?_
  exact loop 17 0 _ rfl P0
theorem d_FM_lighten_0 : decode b_FM_lighten 0 = .ok (.aload_n 0, 1) := by decide +kernel
theorem d_FM_lighten_1 : decode b_FM_lighten 1 = .ok (.getfield 20, 3) := by decide +kernel
theorem d_FM_lighten_4 : decode b_FM_lighten 4 = .ok (.iconst 0, 1) := by decide +kernel
theorem d_FM_lighten_5 : decode b_FM_lighten 5 = .ok (.putfield 96, 3) := by decide +kernel
theorem d_FM_lighten_8 : decode b_FM_lighten 8 = .ok (.aload_n 0, 1) := by decide +kernel
theorem d_FM_lighten_9 : decode b_FM_lighten 9 = .ok (.getfield 24, 3) := by decide +kernel
theorem d_FM_lighten_12 : decode b_FM_lighten 12 = .ok (.tableswitch 151 1 8 #[48, 151, 151, 151, 56, 83, 98, 98], 48) := by decide +kernel
theorem d_FM_lighten_60 : decode b_FM_lighten 60 = .ok (.aload_n 0, 1) := by decide +kernel
theorem d_FM_lighten_61 : decode b_FM_lighten 61 = .ok (.aload_n 1, 1) := by decide +kernel
theorem d_FM_lighten_62 : decode b_FM_lighten 62 = .ok (.invokevirtual 99, 3) := by decide +kernel
theorem d_FM_lighten_65 : decode b_FM_lighten 65 = .ok (.goto 103, 3) := by decide +kernel
theorem d_FM_lighten_68 : decode b_FM_lighten 68 = .ok (.aload_n 0, 1) := by decide +kernel
theorem d_FM_lighten_69 : decode b_FM_lighten 69 = .ok (.aload_n 2, 1) := by decide +kernel
theorem d_FM_lighten_70 : decode b_FM_lighten 70 = .ok (.iconst 1, 1) := by decide +kernel
theorem d_FM_lighten_71 : decode b_FM_lighten 71 = .ok (.aload_n 0, 1) := by decide +kernel
theorem d_FM_lighten_72 : decode b_FM_lighten 72 = .ok (.getfield 11, 3) := by decide +kernel
theorem d_FM_lighten_75 : decode b_FM_lighten 75 = .ok (.iconst 0, 1) := by decide +kernel
theorem d_FM_lighten_76 : decode b_FM_lighten 76 = .ok (.aaload, 1) := by decide +kernel
theorem d_FM_lighten_77 : decode b_FM_lighten 77 = .ok (.invokevirtual 103, 3) := by decide +kernel
theorem d_FM_lighten_80 : decode b_FM_lighten 80 = .ok (.aload_n 0, 1) := by decide +kernel
theorem d_FM_lighten_81 : decode b_FM_lighten 81 = .ok (.aload_n 2, 1) := by decide +kernel
theorem d_FM_lighten_82 : decode b_FM_lighten 82 = .ok (.iconst 0, 1) := by decide +kernel
theorem d_FM_lighten_83 : decode b_FM_lighten 83 = .ok (.aload_n 0, 1) := by decide +kernel
theorem d_FM_lighten_84 : decode b_FM_lighten 84 = .ok (.getfield 11, 3) := by decide +kernel
theorem d_FM_lighten_87 : decode b_FM_lighten 87 = .ok (.iconst 1, 1) := by decide +kernel
theorem d_FM_lighten_88 : decode b_FM_lighten 88 = .ok (.aaload, 1) := by decide +kernel
theorem d_FM_lighten_89 : decode b_FM_lighten 89 = .ok (.invokevirtual 103, 3) := by decide +kernel
theorem d_FM_lighten_92 : decode b_FM_lighten 92 = .ok (.goto 76, 3) := by decide +kernel
theorem d_FM_lighten_95 : decode b_FM_lighten 95 = .ok (.aload_n 0, 1) := by decide +kernel
theorem d_FM_lighten_96 : decode b_FM_lighten 96 = .ok (.aload_n 2, 1) := by decide +kernel
theorem d_FM_lighten_97 : decode b_FM_lighten 97 = .ok (.iconst 1, 1) := by decide +kernel
theorem d_FM_lighten_98 : decode b_FM_lighten 98 = .ok (.aload_n 0, 1) := by decide +kernel
theorem d_FM_lighten_99 : decode b_FM_lighten 99 = .ok (.getfield 11, 3) := by decide +kernel
theorem d_FM_lighten_102 : decode b_FM_lighten 102 = .ok (.iconst 0, 1) := by decide +kernel
theorem d_FM_lighten_103 : decode b_FM_lighten 103 = .ok (.aaload, 1) := by decide +kernel
theorem d_FM_lighten_104 : decode b_FM_lighten 104 = .ok (.invokevirtual 103, 3) := by decide +kernel
theorem d_FM_lighten_107 : decode b_FM_lighten 107 = .ok (.goto 61, 3) := by decide +kernel
theorem d_FM_lighten_110 : decode b_FM_lighten 110 = .ok (.aload_n 0, 1) := by decide +kernel
theorem d_FM_lighten_111 : decode b_FM_lighten 111 = .ok (.getfield 20, 3) := by decide +kernel
theorem d_FM_lighten_114 : decode b_FM_lighten 114 = .ok (.aload_n 0, 1) := by decide +kernel
theorem d_FM_lighten_115 : decode b_FM_lighten 115 = .ok (.getfield 11, 3) := by decide +kernel
theorem d_FM_lighten_118 : decode b_FM_lighten 118 = .ok (.iconst 0, 1) := by decide +kernel
theorem d_FM_lighten_119 : decode b_FM_lighten 119 = .ok (.aaload, 1) := by decide +kernel
theorem d_FM_lighten_120 : decode b_FM_lighten 120 = .ok (.getfield 20, 3) := by decide +kernel
theorem d_FM_lighten_123 : decode b_FM_lighten 123 = .ok (.invokevirtual 107, 3) := by decide +kernel
theorem d_FM_lighten_126 : decode b_FM_lighten 126 = .ok (.aload_n 2, 1) := by decide +kernel
theorem d_FM_lighten_127 : decode b_FM_lighten 127 = .ok (.aload_n 0, 1) := by decide +kernel
theorem d_FM_lighten_128 : decode b_FM_lighten 128 = .ok (.getfield 11, 3) := by decide +kernel
theorem d_FM_lighten_131 : decode b_FM_lighten 131 = .ok (.iconst 0, 1) := by decide +kernel
theorem d_FM_lighten_132 : decode b_FM_lighten 132 = .ok (.aaload, 1) := by decide +kernel
theorem d_FM_lighten_133 : decode b_FM_lighten 133 = .ok (.getfield 47, 3) := by decide +kernel
theorem d_FM_lighten_136 : decode b_FM_lighten 136 = .ok (.invokevirtual 110, 3) := by decide +kernel
theorem d_FM_lighten_139 : decode b_FM_lighten 139 = .ok (.aload_n 2, 1) := by decide +kernel
theorem d_FM_lighten_140 : decode b_FM_lighten 140 = .ok (.aload_n 0, 1) := by decide +kernel
theorem d_FM_lighten_141 : decode b_FM_lighten 141 = .ok (.getfield 11, 3) := by decide +kernel
theorem d_FM_lighten_144 : decode b_FM_lighten 144 = .ok (.iconst 1, 1) := by decide +kernel
theorem d_FM_lighten_145 : decode b_FM_lighten 145 = .ok (.aaload, 1) := by decide +kernel
theorem d_FM_lighten_146 : decode b_FM_lighten 146 = .ok (.getfield 20, 3) := by decide +kernel
theorem d_FM_lighten_149 : decode b_FM_lighten 149 = .ok (.invokevirtual 92, 3) := by decide +kernel
theorem d_FM_lighten_152 : decode b_FM_lighten 152 = .ok (.aload_n 0, 1) := by decide +kernel
theorem d_FM_lighten_153 : decode b_FM_lighten 153 = .ok (.getfield 20, 3) := by decide +kernel
theorem d_FM_lighten_156 : decode b_FM_lighten 156 = .ok (.aload_n 2, 1) := by decide +kernel
theorem d_FM_lighten_157 : decode b_FM_lighten 157 = .ok (.invokevirtual 107, 3) := by decide +kernel
theorem d_FM_lighten_160 : decode b_FM_lighten 160 = .ok (.goto 8, 3) := by decide +kernel
theorem d_FM_lighten_163 : decode b_FM_lighten 163 = .ok (.aload_n 0, 1) := by decide +kernel
theorem d_FM_lighten_164 : decode b_FM_lighten 164 = .ok (.aload_n 2, 1) := by decide +kernel
theorem d_FM_lighten_165 : decode b_FM_lighten 165 = .ok (.invokevirtual 113, 3) := by decide +kernel
theorem d_FM_lighten_168 : decode b_FM_lighten 168 = .ok (.return_, 1) := by decide +kernel
theorem fp_FM_96 : ab_fp "PolicyForge$Form" 96 4 3 0 .boolean := ⟨rfl, R_RW, T_RW, 4, t_RW, rfl, uw_RW, by decide, rfl, (ab_in 161 (by decide +kernel) (by decide +kernel)), t_RW_ok, n_RW, rfl, rfl⟩
theorem lk_FM_99 : ab_lk "PolicyForge$Form" 99 y_FM_lightenLeaf b_FM_lightenLeaf 4 none 1 3 := ⟨⟨rfl, T_FM, 10, rfl⟩, List.forall_mem_cons.mpr ⟨(ab_in 790 (by decide +kernel) (by decide +kernel)), List.forall_mem_cons.mpr ⟨(ab_in 792 (by decide +kernel) (by decide +kernel)), List.forall_mem_cons.mpr ⟨(ab_in 28 (by decide +kernel) (by decide +kernel)), List.forall_mem_cons.mpr ⟨(ab_in 95 (by decide +kernel) (by decide +kernel)), List.forall_mem_cons.mpr ⟨(ab_in 793 (by decide +kernel) (by decide +kernel)), fun _ h => absurd h List.not_mem_nil⟩⟩⟩⟩⟩, ⟨by decide +kernel, by decide +kernel, by decide +kernel⟩, by decide⟩
theorem lk_FM_103 : ab_lk "PolicyForge$Form" 103 y_FM_tryBranch b_FM_tryBranch 4 none 3 3 := ⟨⟨rfl, T_FM, 10, rfl⟩, List.forall_mem_cons.mpr ⟨(ab_in 795 (by decide +kernel) (by decide +kernel)), List.forall_mem_cons.mpr ⟨(ab_in 797 (by decide +kernel) (by decide +kernel)), List.forall_mem_cons.mpr ⟨(ab_in 29 (by decide +kernel) (by decide +kernel)), List.forall_mem_cons.mpr ⟨(ab_in 95 (by decide +kernel) (by decide +kernel)), List.forall_mem_cons.mpr ⟨(ab_in 798 (by decide +kernel) (by decide +kernel)), fun _ h => absurd h List.not_mem_nil⟩⟩⟩⟩⟩, ⟨by decide +kernel, by decide +kernel, by decide +kernel⟩, by decide⟩
theorem lk_FM_110 : ab_lk "PolicyForge$Form" 110 y_RW_become b_RW_become 2 none 1 4 := ⟨⟨rfl, T_RW, 4, rfl⟩, List.forall_mem_cons.mpr ⟨(ab_in 813 (by decide +kernel) (by decide +kernel)), List.forall_mem_cons.mpr ⟨(ab_in 808 (by decide +kernel) (by decide +kernel)), List.forall_mem_cons.mpr ⟨(ab_in 809 (by decide +kernel) (by decide +kernel)), List.forall_mem_cons.mpr ⟨(ab_in 96 (by decide +kernel) (by decide +kernel)), List.forall_mem_cons.mpr ⟨(ab_in 810 (by decide +kernel) (by decide +kernel)), fun _ h => absurd h List.not_mem_nil⟩⟩⟩⟩⟩, ⟨by decide +kernel, by decide +kernel, by decide +kernel⟩, by decide⟩
theorem lk_FM_113 : ab_lk "PolicyForge$Form" 113 y_FM_lightenChoices b_FM_lightenChoices 3 none 1 3 := ⟨⟨rfl, T_FM, 10, rfl⟩, List.forall_mem_cons.mpr ⟨(ab_in 814 (by decide +kernel) (by decide +kernel)), List.forall_mem_cons.mpr ⟨(ab_in 816 (by decide +kernel) (by decide +kernel)), List.forall_mem_cons.mpr ⟨(ab_in 31 (by decide +kernel) (by decide +kernel)), List.forall_mem_cons.mpr ⟨(ab_in 95 (by decide +kernel) (by decide +kernel)), List.forall_mem_cons.mpr ⟨(ab_in 817 (by decide +kernel) (by decide +kernel)), fun _ h => absurd h List.not_mem_nil⟩⟩⟩⟩⟩, ⟨by decide +kernel, by decide +kernel, by decide +kernel⟩, by decide⟩
set_option maxRecDepth 100000 in
set_option maxHeartbeats 1000000 in
theorem s_FM_lighten (u : ab_S) (f r : Nat) (h : CI u) (hf : f < 61) (hr : r < 124) : ab_C false l D ca y_FM_lighten b_FM_lighten 3 none 6 ab_nQ u [ab_O 3 f, ab_O 6 0, ab_O 4 r] (fun u' v => cP [4, 8] u u' ∧ v = none) := by
  refine ab_C.of (by decide) (Nat.le_of_ble_eq_true rfl) ?_
  intro p e s m args below meth c ad X hZ hr0 hlk
  have P0 : cP [4, 8] u u := cQ.rf h
  obtain ⟨n, hn, en, he, hc⟩ := h.form hf
  have hc := hc (by omega)
  refine ab_aload_n X 0 d_FM_lighten_0 rfl rfl ?_
  refine ab_gR X fl_FM_20 d_FM_lighten_1 (by first | assumption | decide | (show _ < 124; omega) | (show _ < 61; omega) | (show _ < 20; omega)) (P0.1.fm3 (by first | assumption | decide | omega)) ?_
  refine ab_iconst (v := 0) X d_FM_lighten_4 (by decide) ?_
  refine ab_putI X fp_FM_96 d_FM_lighten_5 (by first | assumption | decide | (show _ < 124; omega) | (show _ < 61; omega) | (show _ < 20; omega)) rfl rfl ?_
  refine ab_gen (fun u5 e5 => ?_)
  have P5 : cP [4, 8] u u5 := by rw [e5]; exact P0.ui rfl (by decide)
  refine ab_aload_n X 0 d_FM_lighten_8 rfl rfl ?_
  refine ab_gI X fl_FM_24 d_FM_lighten_9 (by first | assumption | decide | (show _ < 124; omega) | (show _ < 61; omega) | (show _ < 20; omega)) (P5.ii (by decide) rfl) ?_
  refine ab_tsw X [(1, 60), (5, 68), (6, 95), (7, 110), (8, 110)] 163 d_FM_lighten_12 (by decide +kernel) rfl (List.forall_mem_cons.mpr ⟨fun h12_1 => ?_, List.forall_mem_cons.mpr ⟨fun h12_5 => ?_, List.forall_mem_cons.mpr ⟨fun h12_6 => ?_, List.forall_mem_cons.mpr ⟨fun h12_7 => ?_, List.forall_mem_cons.mpr ⟨fun h12_8 => ?_, fun _ h => absurd h List.not_mem_nil⟩⟩⟩⟩⟩) (fun h12 => ?_)
  ·
    refine ab_aload_n X 0 d_FM_lighten_60 rfl rfl ?_
    refine ab_aload_n X 1 d_FM_lighten_61 rfl rfl ?_
    refine ab_callV (as := [ab_O 6 0]) X (fun h => by cases h) (s_FM_lightenLeaf u5 f P5.1 hf) lk_FM_99 d_FM_lighten_62 rfl rfl (by first | assumption | decide | (show _ < 124; omega) | (show _ < 61; omega) | (show _ < 20; omega)) ⟨by first | exact Nat.le_of_ble_eq_true rfl | (simp only [ab_rm]; omega), by first | exact Nat.le_of_ble_eq_true rfl | (simp only [ab_rm]; omega)⟩ ⟨by first | exact Nat.le_of_ble_eq_true rfl | (simp only [ab_rm]; omega), by first | exact Nat.le_of_ble_eq_true rfl | (simp only [ab_rm]; omega)⟩ (Nat.le_of_ble_eq_true rfl) (fun u62 r62 h62 => ?_)
    obtain ⟨q62, rfl⟩ := h62
    have P62 := P5.trans q62 (by decide)
    refine ab_goto X 168 d_FM_lighten_65 rfl ?_
    exact ab_retv X hr0 hlk d_FM_lighten_168 ⟨P62, rfl⟩
  ·
    have h2 := hc.1 (Or.inl h12_5)
    obtain ⟨g0, hg0, eg0⟩ := he 0 (by omega)
    obtain ⟨g1, hg1, eg1⟩ := he 1 (by omega)
    refine ab_aload_n X 0 d_FM_lighten_68 rfl rfl ?_
    refine ab_aload_n X 2 d_FM_lighten_69 rfl rfl ?_
    refine ab_iconst (v := 1) X d_FM_lighten_70 (by decide) ?_
    refine ab_aload_n X 0 d_FM_lighten_71 rfl rfl ?_
    refine ab_gR X fl_FM_11 d_FM_lighten_72 (by first | assumption | decide | (show _ < 124; omega) | (show _ < 61; omega) | (show _ < 20; omega)) (P5.1.fm0 (by first | assumption | decide | omega)) ?_
    refine ab_iconst (v := 0) X d_FM_lighten_75 (by decide) ?_
    refine ab_aalv X (0) ⟨rfl, _, fun _ => rfl⟩ d_FM_lighten_76 (by first | assumption | decide | (show _ < 124; omega) | (show _ < 61; omega) | (show _ < 20; omega)) (rfl) (show 0 < 4 by decide) (ab_ln_lt _ _) (P5.rr (by decide) eg0) ?_
    refine ab_callV (as := [ab_O 4 r, ab_I 1, ab_O 3 g0]) X (fun h => by cases h) (s_FM_tryBranch u5 f r g0 1 P5.1 hf hr hg0) lk_FM_103 d_FM_lighten_77 rfl rfl (by first | assumption | decide | (show _ < 124; omega) | (show _ < 61; omega) | (show _ < 20; omega)) ⟨by first | exact Nat.le_of_ble_eq_true rfl | (simp only [ab_rm]; omega), by first | exact Nat.le_of_ble_eq_true rfl | (simp only [ab_rm]; omega)⟩ ⟨by first | exact Nat.le_of_ble_eq_true rfl | (simp only [ab_rm]; omega), by first | exact Nat.le_of_ble_eq_true rfl | (simp only [ab_rm]; omega)⟩ (Nat.le_of_ble_eq_true rfl) (fun u77 r77 h77 => ?_)
    obtain ⟨q77, rfl⟩ := h77
    have P77 := P5.trans q77 (by decide)
    refine ab_aload_n X 0 d_FM_lighten_80 rfl rfl ?_
    refine ab_aload_n X 2 d_FM_lighten_81 rfl rfl ?_
    refine ab_iconst (v := 0) X d_FM_lighten_82 (by decide) ?_
    refine ab_aload_n X 0 d_FM_lighten_83 rfl rfl ?_
    refine ab_gR X fl_FM_11 d_FM_lighten_84 (by first | assumption | decide | (show _ < 124; omega) | (show _ < 61; omega) | (show _ < 20; omega)) (P77.1.fm0 (by first | assumption | decide | omega)) ?_
    refine ab_iconst (v := 1) X d_FM_lighten_87 (by decide) ?_
    refine ab_aalv X (1) ⟨rfl, _, fun _ => rfl⟩ d_FM_lighten_88 (by first | assumption | decide | (show _ < 124; omega) | (show _ < 61; omega) | (show _ < 20; omega)) (rfl) (show 1 < 4 by decide) (ab_ln_lt _ _) (P77.rr (by decide) eg1) ?_
    refine ab_callV (as := [ab_O 4 r, ab_I 0, ab_O 3 g1]) X (fun h => by cases h) (s_FM_tryBranch u77 f r g1 0 P77.1 hf hr hg1) lk_FM_103 d_FM_lighten_89 rfl rfl (by first | assumption | decide | (show _ < 124; omega) | (show _ < 61; omega) | (show _ < 20; omega)) ⟨by first | exact Nat.le_of_ble_eq_true rfl | (simp only [ab_rm]; omega), by first | exact Nat.le_of_ble_eq_true rfl | (simp only [ab_rm]; omega)⟩ ⟨by first | exact Nat.le_of_ble_eq_true rfl | (simp only [ab_rm]; omega), by first | exact Nat.le_of_ble_eq_true rfl | (simp only [ab_rm]; omega)⟩ (Nat.le_of_ble_eq_true rfl) (fun u89 r89 h89 => ?_)
    obtain ⟨q89, rfl⟩ := h89
    have P89 := P77.trans q89 (by decide)
    refine ab_goto X 168 d_FM_lighten_92 rfl ?_
    exact ab_retv X hr0 hlk d_FM_lighten_168 ⟨P89, rfl⟩
  ·
    have h2 := hc.2 h12_6
    obtain ⟨g0, hg0, eg0⟩ := he 0 (by omega)
    refine ab_aload_n X 0 d_FM_lighten_95 rfl rfl ?_
    refine ab_aload_n X 2 d_FM_lighten_96 rfl rfl ?_
    refine ab_iconst (v := 1) X d_FM_lighten_97 (by decide) ?_
    refine ab_aload_n X 0 d_FM_lighten_98 rfl rfl ?_
    refine ab_gR X fl_FM_11 d_FM_lighten_99 (by first | assumption | decide | (show _ < 124; omega) | (show _ < 61; omega) | (show _ < 20; omega)) (P5.1.fm0 (by first | assumption | decide | omega)) ?_
    refine ab_iconst (v := 0) X d_FM_lighten_102 (by decide) ?_
    refine ab_aalv X (0) ⟨rfl, _, fun _ => rfl⟩ d_FM_lighten_103 (by first | assumption | decide | (show _ < 124; omega) | (show _ < 61; omega) | (show _ < 20; omega)) (rfl) (show 0 < 4 by decide) (ab_ln_lt _ _) (P5.rr (by decide) eg0) ?_
    refine ab_callV (as := [ab_O 4 r, ab_I 1, ab_O 3 g0]) X (fun h => by cases h) (s_FM_tryBranch u5 f r g0 1 P5.1 hf hr hg0) lk_FM_103 d_FM_lighten_104 rfl rfl (by first | assumption | decide | (show _ < 124; omega) | (show _ < 61; omega) | (show _ < 20; omega)) ⟨by first | exact Nat.le_of_ble_eq_true rfl | (simp only [ab_rm]; omega), by first | exact Nat.le_of_ble_eq_true rfl | (simp only [ab_rm]; omega)⟩ ⟨by first | exact Nat.le_of_ble_eq_true rfl | (simp only [ab_rm]; omega), by first | exact Nat.le_of_ble_eq_true rfl | (simp only [ab_rm]; omega)⟩ (Nat.le_of_ble_eq_true rfl) (fun u104 r104 h104 => ?_)
    obtain ⟨q104, rfl⟩ := h104
    have P104 := P5.trans q104 (by decide)
    refine ab_goto X 168 d_FM_lighten_107 rfl ?_
    exact ab_retv X hr0 hlk d_FM_lighten_168 ⟨P104, rfl⟩
  ·
    have h2 := hc.1 (Or.inr (Or.inl h12_7))
    obtain ⟨g0, hg0, eg0⟩ := he 0 (by omega)
    obtain ⟨g1, hg1, eg1⟩ := he 1 (by omega)
    refine ab_aload_n X 0 d_FM_lighten_110 rfl rfl ?_
    refine ab_gR X fl_FM_20 d_FM_lighten_111 (by first | assumption | decide | (show _ < 124; omega) | (show _ < 61; omega) | (show _ < 20; omega)) (P5.1.fm3 (by first | assumption | decide | omega)) ?_
    refine ab_aload_n X 0 d_FM_lighten_114 rfl rfl ?_
    refine ab_gR X fl_FM_11 d_FM_lighten_115 (by first | assumption | decide | (show _ < 124; omega) | (show _ < 61; omega) | (show _ < 20; omega)) (P5.1.fm0 (by first | assumption | decide | omega)) ?_
    refine ab_iconst (v := 0) X d_FM_lighten_118 (by decide) ?_
    refine ab_aalv X (0) ⟨rfl, _, fun _ => rfl⟩ d_FM_lighten_119 (by first | assumption | decide | (show _ < 124; omega) | (show _ < 61; omega) | (show _ < 20; omega)) (rfl) (show 0 < 4 by decide) (ab_ln_lt _ _) (P5.rr (by decide) eg0) ?_
    refine ab_gR X fl_FM_20 d_FM_lighten_120 (by first | assumption | decide | (show _ < 124; omega) | (show _ < 61; omega) | (show _ < 20; omega)) (P5.1.fm3 (by first | assumption | decide | omega)) ?_
    refine ab_callV (as := [ab_O 4 (2 * g0)]) X (fun h => by cases h) (s_RW_becomeIfLesser u5 (2 * f) (2 * g0) P5.1 (by omega) (by omega)) lk_FM_107 d_FM_lighten_123 rfl rfl (by first | assumption | decide | (show _ < 124; omega) | (show _ < 61; omega) | (show _ < 20; omega)) ⟨by first | exact Nat.le_of_ble_eq_true rfl | (simp only [ab_rm]; omega), by first | exact Nat.le_of_ble_eq_true rfl | (simp only [ab_rm]; omega)⟩ ⟨by first | exact Nat.le_of_ble_eq_true rfl | (simp only [ab_rm]; omega), by first | exact Nat.le_of_ble_eq_true rfl | (simp only [ab_rm]; omega)⟩ (Nat.le_of_ble_eq_true rfl) (fun u123 r123 h123 => ?_)
    obtain ⟨q123, rfl⟩ := h123
    have P123 := P5.trans q123 (by decide)
    refine ab_aload_n X 2 d_FM_lighten_126 rfl rfl ?_
    refine ab_aload_n X 0 d_FM_lighten_127 rfl rfl ?_
    refine ab_gR X fl_FM_11 d_FM_lighten_128 (by first | assumption | decide | (show _ < 124; omega) | (show _ < 61; omega) | (show _ < 20; omega)) (P123.1.fm0 (by first | assumption | decide | omega)) ?_
    refine ab_iconst (v := 0) X d_FM_lighten_131 (by decide) ?_
    refine ab_aalv X (0) ⟨rfl, _, fun _ => rfl⟩ d_FM_lighten_132 (by first | assumption | decide | (show _ < 124; omega) | (show _ < 61; omega) | (show _ < 20; omega)) (rfl) (show 0 < 4 by decide) (ab_ln_lt _ _) (P123.rr (by decide) eg0) ?_
    refine ab_gR X fl_FM_47 d_FM_lighten_133 (by first | assumption | decide | (show _ < 124; omega) | (show _ < 61; omega) | (show _ < 20; omega)) (P123.1.fm2 (by first | assumption | decide | omega)) ?_
    refine ab_callV (as := [ab_O 4 (2 * g0 + 1)]) X (fun h => by cases h) (s_RW_become u123 r (2 * g0 + 1) P123.1 hr (by omega)) lk_FM_110 d_FM_lighten_136 rfl rfl (by first | assumption | decide | (show _ < 124; omega) | (show _ < 61; omega) | (show _ < 20; omega)) ⟨by first | exact Nat.le_of_ble_eq_true rfl | (simp only [ab_rm]; omega), by first | exact Nat.le_of_ble_eq_true rfl | (simp only [ab_rm]; omega)⟩ ⟨by first | exact Nat.le_of_ble_eq_true rfl | (simp only [ab_rm]; omega), by first | exact Nat.le_of_ble_eq_true rfl | (simp only [ab_rm]; omega)⟩ (Nat.le_of_ble_eq_true rfl) (fun u136 r136 h136 => ?_)
    obtain ⟨q136, rfl⟩ := h136
    have P136 := P123.trans q136 (by decide)
    refine ab_aload_n X 2 d_FM_lighten_139 rfl rfl ?_
    refine ab_aload_n X 0 d_FM_lighten_140 rfl rfl ?_
    refine ab_gR X fl_FM_11 d_FM_lighten_141 (by first | assumption | decide | (show _ < 124; omega) | (show _ < 61; omega) | (show _ < 20; omega)) (P136.1.fm0 (by first | assumption | decide | omega)) ?_
    refine ab_iconst (v := 1) X d_FM_lighten_144 (by decide) ?_
    refine ab_aalv X (1) ⟨rfl, _, fun _ => rfl⟩ d_FM_lighten_145 (by first | assumption | decide | (show _ < 124; omega) | (show _ < 61; omega) | (show _ < 20; omega)) (rfl) (show 1 < 4 by decide) (ab_ln_lt _ _) (P136.rr (by decide) eg1) ?_
    refine ab_gR X fl_FM_20 d_FM_lighten_146 (by first | assumption | decide | (show _ < 124; omega) | (show _ < 61; omega) | (show _ < 20; omega)) (P136.1.fm3 (by first | assumption | decide | omega)) ?_
    refine ab_callV (as := [ab_O 4 (2 * g1)]) X (fun h => by cases h) (s_RW_join u136 r (2 * g1) P136.1 hr (by omega)) lk_FM_92 d_FM_lighten_149 rfl rfl (by first | assumption | decide | (show _ < 124; omega) | (show _ < 61; omega) | (show _ < 20; omega)) ⟨by first | exact Nat.le_of_ble_eq_true rfl | (simp only [ab_rm]; omega), by first | exact Nat.le_of_ble_eq_true rfl | (simp only [ab_rm]; omega)⟩ ⟨by first | exact Nat.le_of_ble_eq_true rfl | (simp only [ab_rm]; omega), by first | exact Nat.le_of_ble_eq_true rfl | (simp only [ab_rm]; omega)⟩ (Nat.le_of_ble_eq_true rfl) (fun u149 r149 h149 => ?_)
    obtain ⟨q149, rfl⟩ := h149
    have P149 := P136.trans q149 (by decide)
    refine ab_aload_n X 0 d_FM_lighten_152 rfl rfl ?_
    refine ab_gR X fl_FM_20 d_FM_lighten_153 (by first | assumption | decide | (show _ < 124; omega) | (show _ < 61; omega) | (show _ < 20; omega)) (P149.1.fm3 (by first | assumption | decide | omega)) ?_
    refine ab_aload_n X 2 d_FM_lighten_156 rfl rfl ?_
    refine ab_callV (as := [ab_O 4 r]) X (fun h => by cases h) (s_RW_becomeIfLesser u149 (2 * f) r P149.1 (by omega) hr) lk_FM_107 d_FM_lighten_157 rfl rfl (by first | assumption | decide | (show _ < 124; omega) | (show _ < 61; omega) | (show _ < 20; omega)) ⟨by first | exact Nat.le_of_ble_eq_true rfl | (simp only [ab_rm]; omega), by first | exact Nat.le_of_ble_eq_true rfl | (simp only [ab_rm]; omega)⟩ ⟨by first | exact Nat.le_of_ble_eq_true rfl | (simp only [ab_rm]; omega), by first | exact Nat.le_of_ble_eq_true rfl | (simp only [ab_rm]; omega)⟩ (Nat.le_of_ble_eq_true rfl) (fun u157 r157 h157 => ?_)
    obtain ⟨q157, rfl⟩ := h157
    have P157 := P149.trans q157 (by decide)
    refine ab_goto X 168 d_FM_lighten_160 rfl ?_
    exact ab_retv X hr0 hlk d_FM_lighten_168 ⟨P157, rfl⟩
  ·
    have h2 := hc.1 (Or.inr (Or.inr h12_8))
    obtain ⟨g0, hg0, eg0⟩ := he 0 (by omega)
    obtain ⟨g1, hg1, eg1⟩ := he 1 (by omega)
    refine ab_aload_n X 0 d_FM_lighten_110 rfl rfl ?_
    refine ab_gR X fl_FM_20 d_FM_lighten_111 (by first | assumption | decide | (show _ < 124; omega) | (show _ < 61; omega) | (show _ < 20; omega)) (P5.1.fm3 (by first | assumption | decide | omega)) ?_
    refine ab_aload_n X 0 d_FM_lighten_114 rfl rfl ?_
    refine ab_gR X fl_FM_11 d_FM_lighten_115 (by first | assumption | decide | (show _ < 124; omega) | (show _ < 61; omega) | (show _ < 20; omega)) (P5.1.fm0 (by first | assumption | decide | omega)) ?_
    refine ab_iconst (v := 0) X d_FM_lighten_118 (by decide) ?_
    refine ab_aalv X (0) ⟨rfl, _, fun _ => rfl⟩ d_FM_lighten_119 (by first | assumption | decide | (show _ < 124; omega) | (show _ < 61; omega) | (show _ < 20; omega)) (rfl) (show 0 < 4 by decide) (ab_ln_lt _ _) (P5.rr (by decide) eg0) ?_
    refine ab_gR X fl_FM_20 d_FM_lighten_120 (by first | assumption | decide | (show _ < 124; omega) | (show _ < 61; omega) | (show _ < 20; omega)) (P5.1.fm3 (by first | assumption | decide | omega)) ?_
    refine ab_callV (as := [ab_O 4 (2 * g0)]) X (fun h => by cases h) (s_RW_becomeIfLesser u5 (2 * f) (2 * g0) P5.1 (by omega) (by omega)) lk_FM_107 d_FM_lighten_123 rfl rfl (by first | assumption | decide | (show _ < 124; omega) | (show _ < 61; omega) | (show _ < 20; omega)) ⟨by first | exact Nat.le_of_ble_eq_true rfl | (simp only [ab_rm]; omega), by first | exact Nat.le_of_ble_eq_true rfl | (simp only [ab_rm]; omega)⟩ ⟨by first | exact Nat.le_of_ble_eq_true rfl | (simp only [ab_rm]; omega), by first | exact Nat.le_of_ble_eq_true rfl | (simp only [ab_rm]; omega)⟩ (Nat.le_of_ble_eq_true rfl) (fun u123 r123 h123 => ?_)
    obtain ⟨q123, rfl⟩ := h123
    have P123 := P5.trans q123 (by decide)
    refine ab_aload_n X 2 d_FM_lighten_126 rfl rfl ?_
    refine ab_aload_n X 0 d_FM_lighten_127 rfl rfl ?_
    refine ab_gR X fl_FM_11 d_FM_lighten_128 (by first | assumption | decide | (show _ < 124; omega) | (show _ < 61; omega) | (show _ < 20; omega)) (P123.1.fm0 (by first | assumption | decide | omega)) ?_
    refine ab_iconst (v := 0) X d_FM_lighten_131 (by decide) ?_
    refine ab_aalv X (0) ⟨rfl, _, fun _ => rfl⟩ d_FM_lighten_132 (by first | assumption | decide | (show _ < 124; omega) | (show _ < 61; omega) | (show _ < 20; omega)) (rfl) (show 0 < 4 by decide) (ab_ln_lt _ _) (P123.rr (by decide) eg0) ?_
    refine ab_gR X fl_FM_47 d_FM_lighten_133 (by first | assumption | decide | (show _ < 124; omega) | (show _ < 61; omega) | (show _ < 20; omega)) (P123.1.fm2 (by first | assumption | decide | omega)) ?_
    refine ab_callV (as := [ab_O 4 (2 * g0 + 1)]) X (fun h => by cases h) (s_RW_become u123 r (2 * g0 + 1) P123.1 hr (by omega)) lk_FM_110 d_FM_lighten_136 rfl rfl (by first | assumption | decide | (show _ < 124; omega) | (show _ < 61; omega) | (show _ < 20; omega)) ⟨by first | exact Nat.le_of_ble_eq_true rfl | (simp only [ab_rm]; omega), by first | exact Nat.le_of_ble_eq_true rfl | (simp only [ab_rm]; omega)⟩ ⟨by first | exact Nat.le_of_ble_eq_true rfl | (simp only [ab_rm]; omega), by first | exact Nat.le_of_ble_eq_true rfl | (simp only [ab_rm]; omega)⟩ (Nat.le_of_ble_eq_true rfl) (fun u136 r136 h136 => ?_)
    obtain ⟨q136, rfl⟩ := h136
    have P136 := P123.trans q136 (by decide)
    refine ab_aload_n X 2 d_FM_lighten_139 rfl rfl ?_
    refine ab_aload_n X 0 d_FM_lighten_140 rfl rfl ?_
    refine ab_gR X fl_FM_11 d_FM_lighten_141 (by first | assumption | decide | (show _ < 124; omega) | (show _ < 61; omega) | (show _ < 20; omega)) (P136.1.fm0 (by first | assumption | decide | omega)) ?_
    refine ab_iconst (v := 1) X d_FM_lighten_144 (by decide) ?_
    refine ab_aalv X (1) ⟨rfl, _, fun _ => rfl⟩ d_FM_lighten_145 (by first | assumption | decide | (show _ < 124; omega) | (show _ < 61; omega) | (show _ < 20; omega)) (rfl) (show 1 < 4 by decide) (ab_ln_lt _ _) (P136.rr (by decide) eg1) ?_
    refine ab_gR X fl_FM_20 d_FM_lighten_146 (by first | assumption | decide | (show _ < 124; omega) | (show _ < 61; omega) | (show _ < 20; omega)) (P136.1.fm3 (by first | assumption | decide | omega)) ?_
    refine ab_callV (as := [ab_O 4 (2 * g1)]) X (fun h => by cases h) (s_RW_join u136 r (2 * g1) P136.1 hr (by omega)) lk_FM_92 d_FM_lighten_149 rfl rfl (by first | assumption | decide | (show _ < 124; omega) | (show _ < 61; omega) | (show _ < 20; omega)) ⟨by first | exact Nat.le_of_ble_eq_true rfl | (simp only [ab_rm]; omega), by first | exact Nat.le_of_ble_eq_true rfl | (simp only [ab_rm]; omega)⟩ ⟨by first | exact Nat.le_of_ble_eq_true rfl | (simp only [ab_rm]; omega), by first | exact Nat.le_of_ble_eq_true rfl | (simp only [ab_rm]; omega)⟩ (Nat.le_of_ble_eq_true rfl) (fun u149 r149 h149 => ?_)
    obtain ⟨q149, rfl⟩ := h149
    have P149 := P136.trans q149 (by decide)
    refine ab_aload_n X 0 d_FM_lighten_152 rfl rfl ?_
    refine ab_gR X fl_FM_20 d_FM_lighten_153 (by first | assumption | decide | (show _ < 124; omega) | (show _ < 61; omega) | (show _ < 20; omega)) (P149.1.fm3 (by first | assumption | decide | omega)) ?_
    refine ab_aload_n X 2 d_FM_lighten_156 rfl rfl ?_
    refine ab_callV (as := [ab_O 4 r]) X (fun h => by cases h) (s_RW_becomeIfLesser u149 (2 * f) r P149.1 (by omega) hr) lk_FM_107 d_FM_lighten_157 rfl rfl (by first | assumption | decide | (show _ < 124; omega) | (show _ < 61; omega) | (show _ < 20; omega)) ⟨by first | exact Nat.le_of_ble_eq_true rfl | (simp only [ab_rm]; omega), by first | exact Nat.le_of_ble_eq_true rfl | (simp only [ab_rm]; omega)⟩ ⟨by first | exact Nat.le_of_ble_eq_true rfl | (simp only [ab_rm]; omega), by first | exact Nat.le_of_ble_eq_true rfl | (simp only [ab_rm]; omega)⟩ (Nat.le_of_ble_eq_true rfl) (fun u157 r157 h157 => ?_)
    obtain ⟨q157, rfl⟩ := h157
    have P157 := P149.trans q157 (by decide)
    refine ab_goto X 168 d_FM_lighten_160 rfl ?_
    exact ab_retv X hr0 hlk d_FM_lighten_168 ⟨P157, rfl⟩
  ·
    refine ab_aload_n X 0 d_FM_lighten_163 rfl rfl ?_
    refine ab_aload_n X 2 d_FM_lighten_164 rfl rfl ?_
    refine ab_callV (as := [ab_O 4 r]) X (fun h => by cases h) (s_FM_lightenChoices u5 f r P5.1 hf hr) lk_FM_113 d_FM_lighten_165 rfl rfl (by first | assumption | decide | (show _ < 124; omega) | (show _ < 61; omega) | (show _ < 20; omega)) ⟨by first | exact Nat.le_of_ble_eq_true rfl | (simp only [ab_rm]; omega), by first | exact Nat.le_of_ble_eq_true rfl | (simp only [ab_rm]; omega)⟩ ⟨by first | exact Nat.le_of_ble_eq_true rfl | (simp only [ab_rm]; omega), by first | exact Nat.le_of_ble_eq_true rfl | (simp only [ab_rm]; omega)⟩ (Nat.le_of_ble_eq_true rfl) (fun u165 r165 h165 => ?_)
    obtain ⟨q165, rfl⟩ := h165
    have P165 := P5.trans q165 (by decide)
    exact ab_retv X hr0 hlk d_FM_lighten_168 ⟨P165, rfl⟩
end SaLight

