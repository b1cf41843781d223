/-! Short methods of the reference. -/
section AbMS
variable {l : Launch} {D : va_G} {ca : Nat → ClassId} {N : Nat → Nat}
abbrev b_MO_fault : ByteArray := prog_10_method_58_code
def y_MO_fault : MethodName := ⟨"PolicyForgeModel", "fault", "()I"⟩
theorem d_MO_fault_0 : decode b_MO_fault 0 = .ok (.aload_n 0, 1) := by decide +kernel
theorem d_MO_fault_1 : decode b_MO_fault 1 = .ok (.iconst 0, 1) := by decide +kernel
theorem d_MO_fault_2 : decode b_MO_fault 2 = .ok (.putfield 7, 3) := by decide +kernel
theorem d_MO_fault_5 : decode b_MO_fault 5 = .ok (.aload_n 0, 1) := by decide +kernel
theorem d_MO_fault_6 : decode b_MO_fault 6 = .ok (.getfield 20, 3) := by decide +kernel
theorem d_MO_fault_9 : decode b_MO_fault 9 = .ok (.ireturn, 1) := by decide +kernel
theorem fl_MO_20 : ab_fl "PolicyForgeModel" 20 17 3 0 := ⟨rfl, R_MO, T_MO, 44, rfl, uw_MO, by decide, rfl, (ab_in 929 (by decide +kernel) (by decide +kernel))⟩
theorem c_MO_fault (u : ab_S) (h17 : 0 < N 17) : ab_C false l D ca y_MO_fault b_MO_fault 1 (some .int) 0 N u [ab_O 17 0] (fun u' v => u' = ab_ui u 17 0 0 0 ∧ v = some (ab_I (u.1 17 0 3))) := by
  refine ab_C.of (by decide) (Nat.le_of_ble_eq_true rfl) ?_
  intro p e s m args below meth c ad X hZ hr0 hlk
  refine ab_aload_n X 0 d_MO_fault_0 rfl rfl ?_
  refine ab_iconst (v := 0) X d_MO_fault_1 (by decide) ?_
  refine ab_putI X fp_MO_7 d_MO_fault_2 (by first | assumption | decide) rfl rfl ?_
  refine ab_aload_n X 0 d_MO_fault_5 rfl rfl ?_
  refine ab_gI X fl_MO_20 d_MO_fault_6 (by first | assumption | decide) ((show _ = u.1 17 0 3 by simp [ab_up])) ?_
  exact ab_reti X hr0 hlk d_MO_fault_9 ⟨rfl, rfl⟩
abbrev b_MO_done : ByteArray := prog_10_method_67_code
def y_MO_done : MethodName := ⟨"PolicyForgeModel", "done", "()I"⟩
theorem d_MO_done_0 : decode b_MO_done 0 = .ok (.aload_n 0, 1) := by decide +kernel
theorem d_MO_done_1 : decode b_MO_done 1 = .ok (.iconst 0, 1) := by decide +kernel
theorem d_MO_done_2 : decode b_MO_done 2 = .ok (.putfield 7, 3) := by decide +kernel
theorem d_MO_done_5 : decode b_MO_done 5 = .ok (.aload_n 0, 1) := by decide +kernel
theorem d_MO_done_6 : decode b_MO_done 6 = .ok (.getfield 111, 3) := by decide +kernel
theorem d_MO_done_9 : decode b_MO_done 9 = .ok (.ireturn, 1) := by decide +kernel
theorem fl_MO_111 : ab_fl "PolicyForgeModel" 111 17 33 0 := ⟨rfl, R_MO, T_MO, 44, rfl, uw_MO, by decide, rfl, (ab_in 959 (by decide +kernel) (by decide +kernel))⟩
theorem c_MO_done (u : ab_S) (h17 : 0 < N 17) : ab_C false l D ca y_MO_done b_MO_done 1 (some .int) 0 N u [ab_O 17 0] (fun u' v => u' = ab_ui u 17 0 0 0 ∧ v = some (ab_I (u.1 17 0 33))) := by
  refine ab_C.of (by decide) (Nat.le_of_ble_eq_true rfl) ?_
  intro p e s m args below meth c ad X hZ hr0 hlk
  refine ab_aload_n X 0 d_MO_done_0 rfl rfl ?_
  refine ab_iconst (v := 0) X d_MO_done_1 (by decide) ?_
  refine ab_putI X fp_MO_7 d_MO_done_2 (by first | assumption | decide) rfl rfl ?_
  refine ab_aload_n X 0 d_MO_done_5 rfl rfl ?_
  refine ab_gI X fl_MO_111 d_MO_done_6 (by first | assumption | decide) ((show _ = u.1 17 0 33 by simp [ab_up])) ?_
  exact ab_reti X hr0 hlk d_MO_done_9 ⟨rfl, rfl⟩
abbrev b_MO_clear : ByteArray := prog_10_method_64_code
def y_MO_clear : MethodName := ⟨"PolicyForgeModel", "clear", "()V"⟩
theorem d_MO_clear_0 : decode b_MO_clear 0 = .ok (.aload_n 0, 1) := by decide +kernel
theorem d_MO_clear_1 : decode b_MO_clear 1 = .ok (.iconst 0, 1) := by decide +kernel
theorem d_MO_clear_2 : decode b_MO_clear 2 = .ok (.putfield 7, 3) := by decide +kernel
theorem d_MO_clear_5 : decode b_MO_clear 5 = .ok (.aload_n 0, 1) := by decide +kernel
theorem d_MO_clear_6 : decode b_MO_clear 6 = .ok (.iconst 0, 1) := by decide +kernel
theorem d_MO_clear_7 : decode b_MO_clear 7 = .ok (.putfield 108, 3) := by decide +kernel
theorem d_MO_clear_10 : decode b_MO_clear 10 = .ok (.return_, 1) := by decide +kernel
theorem c_MO_clear (u : ab_S) (h17 : 0 < N 17) : ab_C false l D ca y_MO_clear b_MO_clear 1 none 0 N u [ab_O 17 0] (fun u' v => u' = ab_ui (ab_ui u 17 0 0 0) 17 0 32 0 ∧ v = none) := by
  refine ab_C.of (by decide) (Nat.le_of_ble_eq_true rfl) ?_
  intro p e s m args below meth c ad X hZ hr0 hlk
  refine ab_aload_n X 0 d_MO_clear_0 rfl rfl ?_
  refine ab_iconst (v := 0) X d_MO_clear_1 (by decide) ?_
  refine ab_putI X fp_MO_7 d_MO_clear_2 (by first | assumption | decide) rfl rfl ?_
  refine ab_aload_n X 0 d_MO_clear_5 rfl rfl ?_
  refine ab_iconst (v := 0) X d_MO_clear_6 (by decide) ?_
  refine ab_putI X fp_MO_108 d_MO_clear_7 (by first | assumption | decide) rfl rfl ?_
  exact ab_retv X hr0 hlk d_MO_clear_10 ⟨rfl, rfl⟩
abbrev b_MO_holds : ByteArray := prog_10_method_59_code
def y_MO_holds : MethodName := ⟨"PolicyForgeModel", "holds", "(IIII)Z"⟩
theorem d_MO_holds_0 : decode b_MO_holds 0 = .ok (.aload_n 0, 1) := by decide +kernel
theorem d_MO_holds_1 : decode b_MO_holds 1 = .ok (.aload_n 0, 1) := by decide +kernel
theorem d_MO_holds_2 : decode b_MO_holds 2 = .ok (.getfield 23, 3) := by decide +kernel
theorem d_MO_holds_5 : decode b_MO_holds 5 = .ok (.ifCond .eq 7, 3) := by decide +kernel
theorem d_MO_holds_8 : decode b_MO_holds 8 = .ok (.iconst 0, 1) := by decide +kernel
theorem d_MO_holds_9 : decode b_MO_holds 9 = .ok (.goto 4, 3) := by decide +kernel
theorem d_MO_holds_12 : decode b_MO_holds 12 = .ok (.iconst 1, 1) := by decide +kernel
theorem d_MO_holds_13 : decode b_MO_holds 13 = .ok (.putfield 7, 3) := by decide +kernel
theorem d_MO_holds_16 : decode b_MO_holds 16 = .ok (.aload_n 0, 1) := by decide +kernel
theorem d_MO_holds_17 : decode b_MO_holds 17 = .ok (.getfield 23, 3) := by decide +kernel
theorem d_MO_holds_20 : decode b_MO_holds 20 = .ok (.ifCond .ne 5, 3) := by decide +kernel
theorem d_MO_holds_23 : decode b_MO_holds 23 = .ok (.iconst 0, 1) := by decide +kernel
theorem d_MO_holds_24 : decode b_MO_holds 24 = .ok (.ireturn, 1) := by decide +kernel
theorem d_MO_holds_25 : decode b_MO_holds 25 = .ok (.aload_n 0, 1) := by decide +kernel
theorem d_MO_holds_26 : decode b_MO_holds 26 = .ok (.getfield 27, 3) := by decide +kernel
theorem d_MO_holds_29 : decode b_MO_holds 29 = .ok (.iconst 1, 1) := by decide +kernel
theorem d_MO_holds_30 : decode b_MO_holds 30 = .ok (.isub, 1) := by decide +kernel
theorem d_MO_holds_31 : decode b_MO_holds 31 = .ok (.istore 5, 2) := by decide +kernel
theorem d_MO_holds_33 : decode b_MO_holds 33 = .ok (.iload 5, 2) := by decide +kernel
theorem d_MO_holds_35 : decode b_MO_holds 35 = .ok (.ifCond .lt 143, 3) := by decide +kernel
theorem d_MO_holds_38 : decode b_MO_holds 38 = .ok (.iconst 0, 1) := by decide +kernel
theorem d_MO_holds_39 : decode b_MO_holds 39 = .ok (.istore 6, 2) := by decide +kernel
theorem d_MO_holds_41 : decode b_MO_holds 41 = .ok (.iconst 0, 1) := by decide +kernel
theorem d_MO_holds_42 : decode b_MO_holds 42 = .ok (.istore 7, 2) := by decide +kernel
theorem d_MO_holds_44 : decode b_MO_holds 44 = .ok (.iload 7, 2) := by decide +kernel
theorem d_MO_holds_46 : decode b_MO_holds 46 = .ok (.aload_n 0, 1) := by decide +kernel
theorem d_MO_holds_47 : decode b_MO_holds 47 = .ok (.getfield 39, 3) := by decide +kernel
theorem d_MO_holds_50 : decode b_MO_holds 50 = .ok (.iload 5, 2) := by decide +kernel
theorem d_MO_holds_52 : decode b_MO_holds 52 = .ok (.iaload, 1) := by decide +kernel
theorem d_MO_holds_53 : decode b_MO_holds 53 = .ok (.if_icmp .ge 39, 3) := by decide +kernel
theorem d_MO_holds_56 : decode b_MO_holds 56 = .ok (.iload 6, 2) := by decide +kernel
theorem d_MO_holds_58 : decode b_MO_holds 58 = .ok (.aload_n 0, 1) := by decide +kernel
theorem d_MO_holds_59 : decode b_MO_holds 59 = .ok (.getfield 141, 3) := by decide +kernel
theorem d_MO_holds_62 : decode b_MO_holds 62 = .ok (.aload_n 0, 1) := by decide +kernel
theorem d_MO_holds_63 : decode b_MO_holds 63 = .ok (.getfield 42, 3) := by decide +kernel
theorem d_MO_holds_66 : decode b_MO_holds 66 = .ok (.iconst 4, 1) := by decide +kernel
theorem d_MO_holds_67 : decode b_MO_holds 67 = .ok (.iload 5, 2) := by decide +kernel
theorem d_MO_holds_69 : decode b_MO_holds 69 = .ok (.imul, 1) := by decide +kernel
theorem d_MO_holds_70 : decode b_MO_holds 70 = .ok (.iload 7, 2) := by decide +kernel
theorem d_MO_holds_72 : decode b_MO_holds 72 = .ok (.iadd, 1) := by decide +kernel
theorem d_MO_holds_73 : decode b_MO_holds 73 = .ok (.iaload, 1) := by decide +kernel
theorem d_MO_holds_74 : decode b_MO_holds 74 = .ok (.baload, 1) := by decide +kernel
theorem d_MO_holds_75 : decode b_MO_holds 75 = .ok (.ifCond .eq 7, 3) := by decide +kernel
theorem d_MO_holds_78 : decode b_MO_holds 78 = .ok (.iconst 1, 1) := by decide +kernel
theorem d_MO_holds_79 : decode b_MO_holds 79 = .ok (.goto 4, 3) := by decide +kernel
theorem d_MO_holds_82 : decode b_MO_holds 82 = .ok (.iconst 0, 1) := by decide +kernel
theorem d_MO_holds_83 : decode b_MO_holds 83 = .ok (.iadd, 1) := by decide +kernel
theorem d_MO_holds_84 : decode b_MO_holds 84 = .ok (.istore 6, 2) := by decide +kernel
theorem d_MO_holds_86 : decode b_MO_holds 86 = .ok (.iinc 7 1, 3) := by decide +kernel
theorem d_MO_holds_89 : decode b_MO_holds 89 = .ok (.goto (-45), 3) := by decide +kernel
theorem d_MO_holds_92 : decode b_MO_holds 92 = .ok (.aload_n 0, 1) := by decide +kernel
theorem d_MO_holds_93 : decode b_MO_holds 93 = .ok (.getfield 141, 3) := by decide +kernel
theorem d_MO_holds_96 : decode b_MO_holds 96 = .ok (.iload 5, 2) := by decide +kernel
theorem d_MO_holds_98 : decode b_MO_holds 98 = .ok (.aload_n 0, 1) := by decide +kernel
theorem d_MO_holds_99 : decode b_MO_holds 99 = .ok (.getfield 33, 3) := by decide +kernel
theorem d_MO_holds_102 : decode b_MO_holds 102 = .ok (.iload 5, 2) := by decide +kernel
theorem d_MO_holds_104 : decode b_MO_holds 104 = .ok (.iaload, 1) := by decide +kernel
theorem d_MO_holds_105 : decode b_MO_holds 105 = .ok (.iconst 5, 1) := by decide +kernel
theorem d_MO_holds_106 : decode b_MO_holds 106 = .ok (.if_icmp .ge 17, 3) := by decide +kernel
theorem d_MO_holds_109 : decode b_MO_holds 109 = .ok (.aload_n 0, 1) := by decide +kernel
theorem d_MO_holds_110 : decode b_MO_holds 110 = .ok (.iload 5, 2) := by decide +kernel
theorem d_MO_holds_112 : decode b_MO_holds 112 = .ok (.iload_n 1, 1) := by decide +kernel
theorem d_MO_holds_113 : decode b_MO_holds 113 = .ok (.iload_n 2, 1) := by decide +kernel
theorem d_MO_holds_114 : decode b_MO_holds 114 = .ok (.iload_n 3, 1) := by decide +kernel
theorem d_MO_holds_115 : decode b_MO_holds 115 = .ok (.iload 4, 2) := by decide +kernel
theorem d_MO_holds_117 : decode b_MO_holds 117 = .ok (.invokevirtual 319, 3) := by decide +kernel
theorem d_MO_holds_120 : decode b_MO_holds 120 = .ok (.goto 51, 3) := by decide +kernel
theorem d_MO_holds_123 : decode b_MO_holds 123 = .ok (.iload 6, 2) := by decide +kernel
theorem d_MO_holds_125 : decode b_MO_holds 125 = .ok (.aload_n 0, 1) := by decide +kernel
theorem d_MO_holds_126 : decode b_MO_holds 126 = .ok (.getfield 33, 3) := by decide +kernel
theorem d_MO_holds_129 : decode b_MO_holds 129 = .ok (.iload 5, 2) := by decide +kernel
theorem d_MO_holds_131 : decode b_MO_holds 131 = .ok (.iaload, 1) := by decide +kernel
theorem d_MO_holds_132 : decode b_MO_holds 132 = .ok (.iconst 5, 1) := by decide +kernel
theorem d_MO_holds_133 : decode b_MO_holds 133 = .ok (.if_icmp .ne 7, 3) := by decide +kernel
theorem d_MO_holds_136 : decode b_MO_holds 136 = .ok (.iconst 2, 1) := by decide +kernel
theorem d_MO_holds_137 : decode b_MO_holds 137 = .ok (.goto 26, 3) := by decide +kernel
theorem d_MO_holds_140 : decode b_MO_holds 140 = .ok (.aload_n 0, 1) := by decide +kernel
theorem d_MO_holds_141 : decode b_MO_holds 141 = .ok (.getfield 33, 3) := by decide +kernel
theorem d_MO_holds_144 : decode b_MO_holds 144 = .ok (.iload 5, 2) := by decide +kernel
theorem d_MO_holds_146 : decode b_MO_holds 146 = .ok (.iaload, 1) := by decide +kernel
theorem d_MO_holds_147 : decode b_MO_holds 147 = .ok (.bipush 6, 2) := by decide +kernel
theorem d_MO_holds_149 : decode b_MO_holds 149 = .ok (.if_icmp .ne 7, 3) := by decide +kernel
theorem d_MO_holds_152 : decode b_MO_holds 152 = .ok (.iconst 1, 1) := by decide +kernel
theorem d_MO_holds_153 : decode b_MO_holds 153 = .ok (.goto 10, 3) := by decide +kernel
theorem d_MO_holds_156 : decode b_MO_holds 156 = .ok (.aload_n 0, 1) := by decide +kernel
theorem d_MO_holds_157 : decode b_MO_holds 157 = .ok (.getfield 36, 3) := by decide +kernel
theorem d_MO_holds_160 : decode b_MO_holds 160 = .ok (.iload 5, 2) := by decide +kernel
theorem d_MO_holds_162 : decode b_MO_holds 162 = .ok (.iaload, 1) := by decide +kernel
theorem d_MO_holds_163 : decode b_MO_holds 163 = .ok (.if_icmp .lt 7, 3) := by decide +kernel
theorem d_MO_holds_166 : decode b_MO_holds 166 = .ok (.iconst 1, 1) := by decide +kernel
theorem d_MO_holds_167 : decode b_MO_holds 167 = .ok (.goto 4, 3) := by decide +kernel
theorem d_MO_holds_170 : decode b_MO_holds 170 = .ok (.iconst 0, 1) := by decide +kernel
theorem d_MO_holds_171 : decode b_MO_holds 171 = .ok (.bastore, 1) := by decide +kernel
theorem d_MO_holds_172 : decode b_MO_holds 172 = .ok (.iinc 5 (-1), 3) := by decide +kernel
theorem d_MO_holds_175 : decode b_MO_holds 175 = .ok (.goto (-142), 3) := by decide +kernel
theorem d_MO_holds_178 : decode b_MO_holds 178 = .ok (.aload_n 0, 1) := by decide +kernel
theorem d_MO_holds_179 : decode b_MO_holds 179 = .ok (.getfield 141, 3) := by decide +kernel
theorem d_MO_holds_182 : decode b_MO_holds 182 = .ok (.iconst 0, 1) := by decide +kernel
theorem d_MO_holds_183 : decode b_MO_holds 183 = .ok (.baload, 1) := by decide +kernel
theorem d_MO_holds_184 : decode b_MO_holds 184 = .ok (.ireturn, 1) := by decide +kernel
theorem fl_MO_23 : ab_fl "PolicyForgeModel" 23 17 4 0 := ⟨rfl, R_MO, T_MO, 44, rfl, uw_MO, by decide, rfl, (ab_in 930 (by decide +kernel) (by decide +kernel))⟩
theorem fl_MO_27 : ab_fl "PolicyForgeModel" 27 17 5 0 := ⟨rfl, R_MO, T_MO, 44, rfl, uw_MO, by decide, rfl, (ab_in 931 (by decide +kernel) (by decide +kernel))⟩
theorem fl_MO_39 : ab_fl "PolicyForgeModel" 39 17 9 1 := ⟨rfl, R_MO, T_MO, 44, rfl, uw_MO, by decide, rfl, (ab_in 935 (by decide +kernel) (by decide +kernel))⟩
theorem fl_MO_141 : ab_fl "PolicyForgeModel" 141 17 43 1 := ⟨rfl, R_MO, T_MO, 44, rfl, uw_MO, by decide, rfl, (ab_in 969 (by decide +kernel) (by decide +kernel))⟩
theorem fl_MO_42 : ab_fl "PolicyForgeModel" 42 17 10 1 := ⟨rfl, R_MO, T_MO, 44, rfl, uw_MO, by decide, rfl, (ab_in 936 (by decide +kernel) (by decide +kernel))⟩
theorem fl_MO_33 : ab_fl "PolicyForgeModel" 33 17 7 1 := ⟨rfl, R_MO, T_MO, 44, rfl, uw_MO, by decide, rfl, (ab_in 933 (by decide +kernel) (by decide +kernel))⟩
abbrev b_MO_leafHolds : ByteArray := prog_10_method_44_code
def y_MO_leafHolds : MethodName := ⟨"PolicyForgeModel", "leafHolds", "(IIIII)Z"⟩
theorem lk_MO_319 : ab_lk "PolicyForgeModel" 319 y_MO_leafHolds b_MO_leafHolds 7 (some FieldType.boolean) 5 17 := ⟨⟨rfl, T_MO, 44, rfl⟩, List.forall_mem_cons.mpr ⟨(ab_in 1209 (by decide +kernel) (by decide +kernel)), List.forall_mem_cons.mpr ⟨(ab_in 1211 (by decide +kernel) (by decide +kernel)), List.forall_mem_cons.mpr ⟨(ab_in 72 (by decide +kernel) (by decide +kernel)), List.forall_mem_cons.mpr ⟨(ab_in 100 (by decide +kernel) (by decide +kernel)), List.forall_mem_cons.mpr ⟨(ab_in 1212 (by decide +kernel) (by decide +kernel)), fun _ h => absurd h List.not_mem_nil⟩⟩⟩⟩⟩, ⟨by decide +kernel, by decide +kernel, by decide +kernel⟩, by decide⟩
theorem fl_MO_36 : ab_fl "PolicyForgeModel" 36 17 8 1 := ⟨rfl, R_MO, T_MO, 44, rfl, uw_MO, by decide, rfl, (ab_in 934 (by decide +kernel) (by decide +kernel))⟩
theorem c_MO_holds0 (u : ab_S) (a1 a2 a3 a4 : Int32) (h17 : 0 < N 17) (et : u.1 17 0 4 = 0) : ab_C false l D ca y_MO_holds b_MO_holds 8 (some .boolean) 0 N u [ab_O 17 0, ab_I a1, ab_I a2, ab_I a3, ab_I a4] (fun u' v => u' = ab_ui u 17 0 0 1 ∧ v = some (ab_I 0)) := by
  refine ab_C.of (by decide) (Nat.le_of_ble_eq_true rfl) ?_
  intro p e s m args below meth c ad X hZ hr0 hlk
  refine ab_aload_n X 0 d_MO_holds_0 rfl rfl ?_
  refine ab_aload_n X 0 d_MO_holds_1 rfl rfl ?_
  refine ab_gI X fl_MO_23 d_MO_holds_2 (by first | assumption | decide) (et) ?_
  refine ab_if_eq X 12 d_MO_holds_5 rfl (fun _ => ?_) (fun hb => absurd (rfl) hb)
  refine ab_iconst (v := 1) X d_MO_holds_12 (by decide) ?_
  refine ab_putI X fp_MO_7 d_MO_holds_13 (by first | assumption | decide) rfl rfl ?_
  refine ab_aload_n X 0 d_MO_holds_16 rfl rfl ?_
  refine ab_gI X fl_MO_23 d_MO_holds_17 (by first | assumption | decide) ((show _ = (0 : Int32) by simpa [ab_up] using et)) ?_
  refine ab_if_ne X 25 d_MO_holds_20 rfl (fun hb => absurd (rfl) hb) (fun _ => ?_)
  refine ab_iconst (v := 0) X d_MO_holds_23 (by decide) ?_
  exact ab_retz X hr0 hlk (Or.inl rfl) d_MO_holds_24 ⟨rfl, rfl⟩
abbrev b_MO_satisfy : ByteArray := prog_10_method_62_code
def y_MO_satisfy : MethodName := ⟨"PolicyForgeModel", "satisfy", "(IIII)I"⟩
theorem d_MO_satisfy_0 : decode b_MO_satisfy 0 = .ok (.aload_n 0, 1) := by decide +kernel
theorem d_MO_satisfy_1 : decode b_MO_satisfy 1 = .ok (.aload_n 0, 1) := by decide +kernel
theorem d_MO_satisfy_2 : decode b_MO_satisfy 2 = .ok (.getfield 23, 3) := by decide +kernel
theorem d_MO_satisfy_5 : decode b_MO_satisfy 5 = .ok (.ifCond .eq 7, 3) := by decide +kernel
theorem d_MO_satisfy_8 : decode b_MO_satisfy 8 = .ok (.iconst 0, 1) := by decide +kernel
theorem d_MO_satisfy_9 : decode b_MO_satisfy 9 = .ok (.goto 4, 3) := by decide +kernel
theorem d_MO_satisfy_12 : decode b_MO_satisfy 12 = .ok (.iconst 1, 1) := by decide +kernel
theorem d_MO_satisfy_13 : decode b_MO_satisfy 13 = .ok (.putfield 7, 3) := by decide +kernel
theorem d_MO_satisfy_16 : decode b_MO_satisfy 16 = .ok (.aload_n 0, 1) := by decide +kernel
theorem d_MO_satisfy_17 : decode b_MO_satisfy 17 = .ok (.getfield 23, 3) := by decide +kernel
theorem d_MO_satisfy_20 : decode b_MO_satisfy 20 = .ok (.ifCond .ne 5, 3) := by decide +kernel
theorem d_MO_satisfy_23 : decode b_MO_satisfy 23 = .ok (.iconst 0, 1) := by decide +kernel
theorem d_MO_satisfy_24 : decode b_MO_satisfy 24 = .ok (.ireturn, 1) := by decide +kernel
theorem d_MO_satisfy_25 : decode b_MO_satisfy 25 = .ok (.aload_n 0, 1) := by decide +kernel
theorem d_MO_satisfy_26 : decode b_MO_satisfy 26 = .ok (.getfield 27, 3) := by decide +kernel
theorem d_MO_satisfy_29 : decode b_MO_satisfy 29 = .ok (.iconst 1, 1) := by decide +kernel
theorem d_MO_satisfy_30 : decode b_MO_satisfy 30 = .ok (.isub, 1) := by decide +kernel
theorem d_MO_satisfy_31 : decode b_MO_satisfy 31 = .ok (.istore 5, 2) := by decide +kernel
theorem d_MO_satisfy_33 : decode b_MO_satisfy 33 = .ok (.iload 5, 2) := by decide +kernel
theorem d_MO_satisfy_35 : decode b_MO_satisfy 35 = .ok (.ifCond .lt 77, 3) := by decide +kernel
theorem d_MO_satisfy_38 : decode b_MO_satisfy 38 = .ok (.aload_n 0, 1) := by decide +kernel
theorem d_MO_satisfy_39 : decode b_MO_satisfy 39 = .ok (.getfield 33, 3) := by decide +kernel
theorem d_MO_satisfy_42 : decode b_MO_satisfy 42 = .ok (.iload 5, 2) := by decide +kernel
theorem d_MO_satisfy_44 : decode b_MO_satisfy 44 = .ok (.iaload, 1) := by decide +kernel
theorem d_MO_satisfy_45 : decode b_MO_satisfy 45 = .ok (.iconst 5, 1) := by decide +kernel
theorem d_MO_satisfy_46 : decode b_MO_satisfy 46 = .ok (.if_icmp .ge 21, 3) := by decide +kernel
theorem d_MO_satisfy_49 : decode b_MO_satisfy 49 = .ok (.aload_n 0, 1) := by decide +kernel
theorem d_MO_satisfy_50 : decode b_MO_satisfy 50 = .ok (.iload 5, 2) := by decide +kernel
theorem d_MO_satisfy_52 : decode b_MO_satisfy 52 = .ok (.iload_n 1, 1) := by decide +kernel
theorem d_MO_satisfy_53 : decode b_MO_satisfy 53 = .ok (.iload_n 2, 1) := by decide +kernel
theorem d_MO_satisfy_54 : decode b_MO_satisfy 54 = .ok (.iload_n 3, 1) := by decide +kernel
theorem d_MO_satisfy_55 : decode b_MO_satisfy 55 = .ok (.iload 4, 2) := by decide +kernel
theorem d_MO_satisfy_57 : decode b_MO_satisfy 57 = .ok (.invokevirtual 319, 3) := by decide +kernel
theorem d_MO_satisfy_60 : decode b_MO_satisfy 60 = .ok (.ifCond .eq 7, 3) := by decide +kernel
theorem d_MO_satisfy_63 : decode b_MO_satisfy 63 = .ok (.iconst 1, 1) := by decide +kernel
theorem d_MO_satisfy_64 : decode b_MO_satisfy 64 = .ok (.goto 4, 3) := by decide +kernel
theorem d_MO_satisfy_67 : decode b_MO_satisfy 67 = .ok (.iconst 0, 1) := by decide +kernel
theorem d_MO_satisfy_68 : decode b_MO_satisfy 68 = .ok (.istore 6, 2) := by decide +kernel
theorem d_MO_satisfy_70 : decode b_MO_satisfy 70 = .ok (.aload_n 0, 1) := by decide +kernel
theorem d_MO_satisfy_71 : decode b_MO_satisfy 71 = .ok (.iload 5, 2) := by decide +kernel
theorem d_MO_satisfy_73 : decode b_MO_satisfy 73 = .ok (.invokevirtual 323, 3) := by decide +kernel
theorem d_MO_satisfy_76 : decode b_MO_satisfy 76 = .ok (.iconst 0, 1) := by decide +kernel
theorem d_MO_satisfy_77 : decode b_MO_satisfy 77 = .ok (.istore 7, 2) := by decide +kernel
theorem d_MO_satisfy_79 : decode b_MO_satisfy 79 = .ok (.iload 7, 2) := by decide +kernel
theorem d_MO_satisfy_81 : decode b_MO_satisfy 81 = .ok (.iconst 3, 1) := by decide +kernel
theorem d_MO_satisfy_82 : decode b_MO_satisfy 82 = .ok (.if_icmp .ge 24, 3) := by decide +kernel
theorem d_MO_satisfy_85 : decode b_MO_satisfy 85 = .ok (.aload_n 0, 1) := by decide +kernel
theorem d_MO_satisfy_86 : decode b_MO_satisfy 86 = .ok (.iload 5, 2) := by decide +kernel
theorem d_MO_satisfy_88 : decode b_MO_satisfy 88 = .ok (.iconst 3, 1) := by decide +kernel
theorem d_MO_satisfy_89 : decode b_MO_satisfy 89 = .ok (.iload 5, 2) := by decide +kernel
theorem d_MO_satisfy_91 : decode b_MO_satisfy 91 = .ok (.imul, 1) := by decide +kernel
theorem d_MO_satisfy_92 : decode b_MO_satisfy 92 = .ok (.iload 7, 2) := by decide +kernel
theorem d_MO_satisfy_94 : decode b_MO_satisfy 94 = .ok (.iadd, 1) := by decide +kernel
theorem d_MO_satisfy_95 : decode b_MO_satisfy 95 = .ok (.iload 6, 2) := by decide +kernel
theorem d_MO_satisfy_97 : decode b_MO_satisfy 97 = .ok (.invokevirtual 326, 3) := by decide +kernel
theorem d_MO_satisfy_100 : decode b_MO_satisfy 100 = .ok (.iinc 7 1, 3) := by decide +kernel
theorem d_MO_satisfy_103 : decode b_MO_satisfy 103 = .ok (.goto (-24), 3) := by decide +kernel
theorem d_MO_satisfy_106 : decode b_MO_satisfy 106 = .ok (.iinc 5 (-1), 3) := by decide +kernel
theorem d_MO_satisfy_109 : decode b_MO_satisfy 109 = .ok (.goto (-76), 3) := by decide +kernel
theorem d_MO_satisfy_112 : decode b_MO_satisfy 112 = .ok (.aload_n 0, 1) := by decide +kernel
theorem d_MO_satisfy_113 : decode b_MO_satisfy 113 = .ok (.getfield 75, 3) := by decide +kernel
theorem d_MO_satisfy_116 : decode b_MO_satisfy 116 = .ok (.iconst 0, 1) := by decide +kernel
theorem d_MO_satisfy_117 : decode b_MO_satisfy 117 = .ok (.iaload, 1) := by decide +kernel
theorem d_MO_satisfy_118 : decode b_MO_satisfy 118 = .ok (.ifCond .ge 5, 3) := by decide +kernel
theorem d_MO_satisfy_121 : decode b_MO_satisfy 121 = .ok (.iconst (-1), 1) := by decide +kernel
theorem d_MO_satisfy_122 : decode b_MO_satisfy 122 = .ok (.ireturn, 1) := by decide +kernel
theorem d_MO_satisfy_123 : decode b_MO_satisfy 123 = .ok (.aload_n 0, 1) := by decide +kernel
theorem d_MO_satisfy_124 : decode b_MO_satisfy 124 = .ok (.aload_n 0, 1) := by decide +kernel
theorem d_MO_satisfy_125 : decode b_MO_satisfy 125 = .ok (.getfield 75, 3) := by decide +kernel
theorem d_MO_satisfy_128 : decode b_MO_satisfy 128 = .ok (.iconst 0, 1) := by decide +kernel
theorem d_MO_satisfy_129 : decode b_MO_satisfy 129 = .ok (.iaload, 1) := by decide +kernel
theorem d_MO_satisfy_130 : decode b_MO_satisfy 130 = .ok (.putfield 108, 3) := by decide +kernel
theorem d_MO_satisfy_133 : decode b_MO_satisfy 133 = .ok (.iconst 0, 1) := by decide +kernel
theorem d_MO_satisfy_134 : decode b_MO_satisfy 134 = .ok (.istore 5, 2) := by decide +kernel
theorem d_MO_satisfy_136 : decode b_MO_satisfy 136 = .ok (.iload 5, 2) := by decide +kernel
theorem d_MO_satisfy_138 : decode b_MO_satisfy 138 = .ok (.aload_n 0, 1) := by decide +kernel
theorem d_MO_satisfy_139 : decode b_MO_satisfy 139 = .ok (.getfield 108, 3) := by decide +kernel
theorem d_MO_satisfy_142 : decode b_MO_satisfy 142 = .ok (.if_icmp .ge 23, 3) := by decide +kernel
theorem d_MO_satisfy_145 : decode b_MO_satisfy 145 = .ok (.aload_n 0, 1) := by decide +kernel
theorem d_MO_satisfy_146 : decode b_MO_satisfy 146 = .ok (.getfield 105, 3) := by decide +kernel
theorem d_MO_satisfy_149 : decode b_MO_satisfy 149 = .ok (.iload 5, 2) := by decide +kernel
theorem d_MO_satisfy_151 : decode b_MO_satisfy 151 = .ok (.aload_n 0, 1) := by decide +kernel
theorem d_MO_satisfy_152 : decode b_MO_satisfy 152 = .ok (.getfield 72, 3) := by decide +kernel
theorem d_MO_satisfy_155 : decode b_MO_satisfy 155 = .ok (.iload 5, 2) := by decide +kernel
theorem d_MO_satisfy_157 : decode b_MO_satisfy 157 = .ok (.iaload, 1) := by decide +kernel
theorem d_MO_satisfy_158 : decode b_MO_satisfy 158 = .ok (.iastore, 1) := by decide +kernel
theorem d_MO_satisfy_159 : decode b_MO_satisfy 159 = .ok (.iinc 5 1, 3) := by decide +kernel
theorem d_MO_satisfy_162 : decode b_MO_satisfy 162 = .ok (.goto (-26), 3) := by decide +kernel
theorem d_MO_satisfy_165 : decode b_MO_satisfy 165 = .ok (.aload_n 0, 1) := by decide +kernel
theorem d_MO_satisfy_166 : decode b_MO_satisfy 166 = .ok (.getfield 78, 3) := by decide +kernel
theorem d_MO_satisfy_169 : decode b_MO_satisfy 169 = .ok (.iconst 0, 1) := by decide +kernel
theorem d_MO_satisfy_170 : decode b_MO_satisfy 170 = .ok (.iaload, 1) := by decide +kernel
theorem d_MO_satisfy_171 : decode b_MO_satisfy 171 = .ok (.ireturn, 1) := by decide +kernel
abbrev b_MO_dissatisfied : ByteArray := prog_10_method_47_code
def y_MO_dissatisfied : MethodName := ⟨"PolicyForgeModel", "dissatisfied", "(I)V"⟩
theorem lk_MO_323 : ab_lk "PolicyForgeModel" 323 y_MO_dissatisfied b_MO_dissatisfied 4 none 1 17 := ⟨⟨rfl, T_MO, 44, rfl⟩, List.forall_mem_cons.mpr ⟨(ab_in 1225 (by decide +kernel) (by decide +kernel)), List.forall_mem_cons.mpr ⟨(ab_in 1227 (by decide +kernel) (by decide +kernel)), List.forall_mem_cons.mpr ⟨(ab_in 73 (by decide +kernel) (by decide +kernel)), List.forall_mem_cons.mpr ⟨(ab_in 100 (by decide +kernel) (by decide +kernel)), List.forall_mem_cons.mpr ⟨(ab_in 1228 (by decide +kernel) (by decide +kernel)), fun _ h => absurd h List.not_mem_nil⟩⟩⟩⟩⟩, ⟨by decide +kernel, by decide +kernel, by decide +kernel⟩, by decide⟩
abbrev b_MO_satisfied : ByteArray := prog_10_method_45_code
def y_MO_satisfied : MethodName := ⟨"PolicyForgeModel", "satisfied", "(IIZ)V"⟩
theorem lk_MO_326 : ab_lk "PolicyForgeModel" 326 y_MO_satisfied b_MO_satisfied 8 none 3 17 := ⟨⟨rfl, T_MO, 44, rfl⟩, List.forall_mem_cons.mpr ⟨(ab_in 1244 (by decide +kernel) (by decide +kernel)), List.forall_mem_cons.mpr ⟨(ab_in 1246 (by decide +kernel) (by decide +kernel)), List.forall_mem_cons.mpr ⟨(ab_in 77 (by decide +kernel) (by decide +kernel)), List.forall_mem_cons.mpr ⟨(ab_in 100 (by decide +kernel) (by decide +kernel)), List.forall_mem_cons.mpr ⟨(ab_in 1247 (by decide +kernel) (by decide +kernel)), fun _ h => absurd h List.not_mem_nil⟩⟩⟩⟩⟩, ⟨by decide +kernel, by decide +kernel, by decide +kernel⟩, by decide⟩
theorem fl_MO_75 : ab_fl "PolicyForgeModel" 75 17 21 1 := ⟨rfl, R_MO, T_MO, 44, rfl, uw_MO, by decide, rfl, (ab_in 947 (by decide +kernel) (by decide +kernel))⟩
theorem fl_MO_108 : ab_fl "PolicyForgeModel" 108 17 32 0 := ⟨rfl, R_MO, T_MO, 44, rfl, uw_MO, by decide, rfl, (ab_in 958 (by decide +kernel) (by decide +kernel))⟩
theorem fl_MO_105 : ab_fl "PolicyForgeModel" 105 17 31 1 := ⟨rfl, R_MO, T_MO, 44, rfl, uw_MO, by decide, rfl, (ab_in 957 (by decide +kernel) (by decide +kernel))⟩
theorem fl_MO_72 : ab_fl "PolicyForgeModel" 72 17 20 1 := ⟨rfl, R_MO, T_MO, 44, rfl, uw_MO, by decide, rfl, (ab_in 946 (by decide +kernel) (by decide +kernel))⟩
theorem fl_MO_78 : ab_fl "PolicyForgeModel" 78 17 22 1 := ⟨rfl, R_MO, T_MO, 44, rfl, uw_MO, by decide, rfl, (ab_in 948 (by decide +kernel) (by decide +kernel))⟩
theorem c_MO_satisfy0 (u : ab_S) (a1 a2 a3 a4 : Int32) (h17 : 0 < N 17) (et : u.1 17 0 4 = 0) : ab_C false l D ca y_MO_satisfy b_MO_satisfy 8 (some .int) 0 N u [ab_O 17 0, ab_I a1, ab_I a2, ab_I a3, ab_I a4] (fun u' v => u' = ab_ui u 17 0 0 1 ∧ v = some (ab_I 0)) := by
  refine ab_C.of (by decide) (Nat.le_of_ble_eq_true rfl) ?_
  intro p e s m args below meth c ad X hZ hr0 hlk
  refine ab_aload_n X 0 d_MO_satisfy_0 rfl rfl ?_
  refine ab_aload_n X 0 d_MO_satisfy_1 rfl rfl ?_
  refine ab_gI X fl_MO_23 d_MO_satisfy_2 (by first | assumption | decide) (et) ?_
  refine ab_if_eq X 12 d_MO_satisfy_5 rfl (fun _ => ?_) (fun hb => absurd (rfl) hb)
  refine ab_iconst (v := 1) X d_MO_satisfy_12 (by decide) ?_
  refine ab_putI X fp_MO_7 d_MO_satisfy_13 (by first | assumption | decide) rfl rfl ?_
  refine ab_aload_n X 0 d_MO_satisfy_16 rfl rfl ?_
  refine ab_gI X fl_MO_23 d_MO_satisfy_17 (by first | assumption | decide) ((show _ = (0 : Int32) by simpa [ab_up] using et)) ?_
  refine ab_if_ne X 25 d_MO_satisfy_20 rfl (fun hb => absurd (rfl) hb) (fun _ => ?_)
  refine ab_iconst (v := 0) X d_MO_satisfy_23 (by decide) ?_
  exact ab_reti X hr0 hlk d_MO_satisfy_24 ⟨rfl, rfl⟩
abbrev b_MO_check : ByteArray := prog_10_method_66_code
def y_MO_check : MethodName := ⟨"PolicyForgeModel", "check", "(II)I"⟩
theorem d_MO_check_0 : decode b_MO_check 0 = .ok (.aload_n 0, 1) := by decide +kernel
theorem d_MO_check_1 : decode b_MO_check 1 = .ok (.aload_n 0, 1) := by decide +kernel
theorem d_MO_check_2 : decode b_MO_check 2 = .ok (.getfield 23, 3) := by decide +kernel
theorem d_MO_check_5 : decode b_MO_check 5 = .ok (.ifCond .eq 7, 3) := by decide +kernel
theorem d_MO_check_8 : decode b_MO_check 8 = .ok (.iconst 0, 1) := by decide +kernel
theorem d_MO_check_9 : decode b_MO_check 9 = .ok (.goto 4, 3) := by decide +kernel
theorem d_MO_check_12 : decode b_MO_check 12 = .ok (.iconst 1, 1) := by decide +kernel
theorem d_MO_check_13 : decode b_MO_check 13 = .ok (.putfield 7, 3) := by decide +kernel
theorem d_MO_check_16 : decode b_MO_check 16 = .ok (.aload_n 0, 1) := by decide +kernel
theorem d_MO_check_17 : decode b_MO_check 17 = .ok (.getfield 23, 3) := by decide +kernel
theorem d_MO_check_20 : decode b_MO_check 20 = .ok (.ifCond .ne 5, 3) := by decide +kernel
theorem d_MO_check_23 : decode b_MO_check 23 = .ok (.iconst 0, 1) := by decide +kernel
theorem d_MO_check_24 : decode b_MO_check 24 = .ok (.ireturn, 1) := by decide +kernel
theorem d_MO_check_25 : decode b_MO_check 25 = .ok (.aload_n 0, 1) := by decide +kernel
theorem d_MO_check_26 : decode b_MO_check 26 = .ok (.iconst 0, 1) := by decide +kernel
theorem d_MO_check_27 : decode b_MO_check 27 = .ok (.putfield 117, 3) := by decide +kernel
theorem d_MO_check_30 : decode b_MO_check 30 = .ok (.aload_n 0, 1) := by decide +kernel
theorem d_MO_check_31 : decode b_MO_check 31 = .ok (.iconst 0, 1) := by decide +kernel
theorem d_MO_check_32 : decode b_MO_check 32 = .ok (.putfield 123, 3) := by decide +kernel
theorem d_MO_check_35 : decode b_MO_check 35 = .ok (.aload_n 0, 1) := by decide +kernel
theorem d_MO_check_36 : decode b_MO_check 36 = .ok (.iconst 0, 1) := by decide +kernel
theorem d_MO_check_37 : decode b_MO_check 37 = .ok (.putfield 132, 3) := by decide +kernel
theorem d_MO_check_40 : decode b_MO_check 40 = .ok (.aload_n 0, 1) := by decide +kernel
theorem d_MO_check_41 : decode b_MO_check 41 = .ok (.iconst 0, 1) := by decide +kernel
theorem d_MO_check_42 : decode b_MO_check 42 = .ok (.putfield 111, 3) := by decide +kernel
theorem d_MO_check_45 : decode b_MO_check 45 = .ok (.aload_n 0, 1) := by decide +kernel
theorem d_MO_check_46 : decode b_MO_check 46 = .ok (.getfield 108, 3) := by decide +kernel
theorem d_MO_check_49 : decode b_MO_check 49 = .ok (.iconst 1, 1) := by decide +kernel
theorem d_MO_check_50 : decode b_MO_check 50 = .ok (.isub, 1) := by decide +kernel
theorem d_MO_check_51 : decode b_MO_check 51 = .ok (.istore_n 3, 1) := by decide +kernel
theorem d_MO_check_52 : decode b_MO_check 52 = .ok (.iload_n 3, 1) := by decide +kernel
theorem d_MO_check_53 : decode b_MO_check 53 = .ok (.ifCond .lt 19, 3) := by decide +kernel
theorem d_MO_check_56 : decode b_MO_check 56 = .ok (.aload_n 0, 1) := by decide +kernel
theorem d_MO_check_57 : decode b_MO_check 57 = .ok (.aload_n 0, 1) := by decide +kernel
theorem d_MO_check_58 : decode b_MO_check 58 = .ok (.getfield 105, 3) := by decide +kernel
theorem d_MO_check_61 : decode b_MO_check 61 = .ok (.iload_n 3, 1) := by decide +kernel
theorem d_MO_check_62 : decode b_MO_check 62 = .ok (.iaload, 1) := by decide +kernel
theorem d_MO_check_63 : decode b_MO_check 63 = .ok (.invokevirtual 301, 3) := by decide +kernel
theorem d_MO_check_66 : decode b_MO_check 66 = .ok (.iinc 3 (-1), 3) := by decide +kernel
theorem d_MO_check_69 : decode b_MO_check 69 = .ok (.goto (-17), 3) := by decide +kernel
theorem d_MO_check_72 : decode b_MO_check 72 = .ok (.iconst 0, 1) := by decide +kernel
theorem d_MO_check_73 : decode b_MO_check 73 = .ok (.istore_n 3, 1) := by decide +kernel
theorem d_MO_check_74 : decode b_MO_check 74 = .ok (.iconst 0, 1) := by decide +kernel
theorem d_MO_check_75 : decode b_MO_check 75 = .ok (.istore 4, 2) := by decide +kernel
theorem d_MO_check_77 : decode b_MO_check 77 = .ok (.iload_n 3, 1) := by decide +kernel
theorem d_MO_check_78 : decode b_MO_check 78 = .ok (.aload_n 0, 1) := by decide +kernel
theorem d_MO_check_79 : decode b_MO_check 79 = .ok (.getfield 48, 3) := by decide +kernel
theorem d_MO_check_82 : decode b_MO_check 82 = .ok (.iconst 0, 1) := by decide +kernel
theorem d_MO_check_83 : decode b_MO_check 83 = .ok (.iaload, 1) := by decide +kernel
theorem d_MO_check_84 : decode b_MO_check 84 = .ok (.if_icmp .ge 34, 3) := by decide +kernel
theorem d_MO_check_87 : decode b_MO_check 87 = .ok (.aload_n 0, 1) := by decide +kernel
theorem d_MO_check_88 : decode b_MO_check 88 = .ok (.getfield 132, 3) := by decide +kernel
theorem d_MO_check_91 : decode b_MO_check 91 = .ok (.ifCond .ne 27, 3) := by decide +kernel
theorem d_MO_check_94 : decode b_MO_check 94 = .ok (.iload_n 3, 1) := by decide +kernel
theorem d_MO_check_95 : decode b_MO_check 95 = .ok (.istore 4, 2) := by decide +kernel
theorem d_MO_check_97 : decode b_MO_check 97 = .ok (.aload_n 0, 1) := by decide +kernel
theorem d_MO_check_98 : decode b_MO_check 98 = .ok (.iload_n 3, 1) := by decide +kernel
theorem d_MO_check_99 : decode b_MO_check 99 = .ok (.iload_n 1, 1) := by decide +kernel
theorem d_MO_check_100 : decode b_MO_check 100 = .ok (.iload_n 2, 1) := by decide +kernel
theorem d_MO_check_101 : decode b_MO_check 101 = .ok (.invokevirtual 330, 3) := by decide +kernel
theorem d_MO_check_104 : decode b_MO_check 104 = .ok (.istore_n 3, 1) := by decide +kernel
theorem d_MO_check_105 : decode b_MO_check 105 = .ok (.aload_n 0, 1) := by decide +kernel
theorem d_MO_check_106 : decode b_MO_check 106 = .ok (.dup, 1) := by decide +kernel
theorem d_MO_check_107 : decode b_MO_check 107 = .ok (.getfield 111, 3) := by decide +kernel
theorem d_MO_check_110 : decode b_MO_check 110 = .ok (.iconst 1, 1) := by decide +kernel
theorem d_MO_check_111 : decode b_MO_check 111 = .ok (.iadd, 1) := by decide +kernel
theorem d_MO_check_112 : decode b_MO_check 112 = .ok (.putfield 111, 3) := by decide +kernel
theorem d_MO_check_115 : decode b_MO_check 115 = .ok (.goto (-38), 3) := by decide +kernel
theorem d_MO_check_118 : decode b_MO_check 118 = .ok (.aload_n 0, 1) := by decide +kernel
theorem d_MO_check_119 : decode b_MO_check 119 = .ok (.getfield 132, 3) := by decide +kernel
theorem d_MO_check_122 : decode b_MO_check 122 = .ok (.ifCond .eq 6, 3) := by decide +kernel
theorem d_MO_check_125 : decode b_MO_check 125 = .ok (.iload 4, 2) := by decide +kernel
theorem d_MO_check_127 : decode b_MO_check 127 = .ok (.ireturn, 1) := by decide +kernel
theorem d_MO_check_128 : decode b_MO_check 128 = .ok (.aload_n 0, 1) := by decide +kernel
theorem d_MO_check_129 : decode b_MO_check 129 = .ok (.getfield 117, 3) := by decide +kernel
theorem d_MO_check_132 : decode b_MO_check 132 = .ok (.iconst 1, 1) := by decide +kernel
theorem d_MO_check_133 : decode b_MO_check 133 = .ok (.if_icmp .ne 24, 3) := by decide +kernel
theorem d_MO_check_136 : decode b_MO_check 136 = .ok (.aload_n 0, 1) := by decide +kernel
theorem d_MO_check_137 : decode b_MO_check 137 = .ok (.getfield 114, 3) := by decide +kernel
theorem d_MO_check_140 : decode b_MO_check 140 = .ok (.iconst 0, 1) := by decide +kernel
theorem d_MO_check_141 : decode b_MO_check 141 = .ok (.iaload, 1) := by decide +kernel
theorem d_MO_check_142 : decode b_MO_check 142 = .ok (.iconst 1, 1) := by decide +kernel
theorem d_MO_check_143 : decode b_MO_check 143 = .ok (.if_icmp .ne 14, 3) := by decide +kernel
theorem d_MO_check_146 : decode b_MO_check 146 = .ok (.aload_n 0, 1) := by decide +kernel
theorem d_MO_check_147 : decode b_MO_check 147 = .ok (.getfield 123, 3) := by decide +kernel
theorem d_MO_check_150 : decode b_MO_check 150 = .ok (.ifCond .ne 7, 3) := by decide +kernel
theorem d_MO_check_153 : decode b_MO_check 153 = .ok (.iconst (-1), 1) := by decide +kernel
theorem d_MO_check_154 : decode b_MO_check 154 = .ok (.goto 9, 3) := by decide +kernel
theorem d_MO_check_157 : decode b_MO_check 157 = .ok (.aload_n 0, 1) := by decide +kernel
theorem d_MO_check_158 : decode b_MO_check 158 = .ok (.getfield 48, 3) := by decide +kernel
theorem d_MO_check_161 : decode b_MO_check 161 = .ok (.iconst 0, 1) := by decide +kernel
theorem d_MO_check_162 : decode b_MO_check 162 = .ok (.iaload, 1) := by decide +kernel
theorem d_MO_check_163 : decode b_MO_check 163 = .ok (.ireturn, 1) := by decide +kernel
abbrev b_MO_putOn : ByteArray := prog_10_method_50_code
def y_MO_putOn : MethodName := ⟨"PolicyForgeModel", "putOn", "(I)V"⟩
theorem lk_MO_301 : ab_lk "PolicyForgeModel" 301 y_MO_putOn b_MO_putOn 2 none 1 17 := ⟨⟨rfl, T_MO, 44, rfl⟩, List.forall_mem_cons.mpr ⟨(ab_in 1293 (by decide +kernel) (by decide +kernel)), List.forall_mem_cons.mpr ⟨(ab_in 1295 (by decide +kernel) (by decide +kernel)), List.forall_mem_cons.mpr ⟨(ab_in 85 (by decide +kernel) (by decide +kernel)), List.forall_mem_cons.mpr ⟨(ab_in 100 (by decide +kernel) (by decide +kernel)), List.forall_mem_cons.mpr ⟨(ab_in 1296 (by decide +kernel) (by decide +kernel)), fun _ h => absurd h List.not_mem_nil⟩⟩⟩⟩⟩, ⟨by decide +kernel, by decide +kernel, by decide +kernel⟩, by decide⟩
theorem fl_MO_48 : ab_fl "PolicyForgeModel" 48 17 12 1 := ⟨rfl, R_MO, T_MO, 44, rfl, uw_MO, by decide, rfl, (ab_in 938 (by decide +kernel) (by decide +kernel))⟩
theorem fl_MO_132 : ab_fl "PolicyForgeModel" 132 17 40 0 := ⟨rfl, R_MO, T_MO, 44, rfl, uw_MO, by decide, rfl, (ab_in 966 (by decide +kernel) (by decide +kernel))⟩
abbrev b_MO_step : ByteArray := prog_10_method_53_code
def y_MO_step : MethodName := ⟨"PolicyForgeModel", "step", "(III)I"⟩
theorem lk_MO_330 : ab_lk "PolicyForgeModel" 330 y_MO_step b_MO_step 7 (some FieldType.int) 3 17 := ⟨⟨rfl, T_MO, 44, rfl⟩, List.forall_mem_cons.mpr ⟨(ab_in 1297 (by decide +kernel) (by decide +kernel)), List.forall_mem_cons.mpr ⟨(ab_in 1299 (by decide +kernel) (by decide +kernel)), List.forall_mem_cons.mpr ⟨(ab_in 86 (by decide +kernel) (by decide +kernel)), List.forall_mem_cons.mpr ⟨(ab_in 100 (by decide +kernel) (by decide +kernel)), List.forall_mem_cons.mpr ⟨(ab_in 1300 (by decide +kernel) (by decide +kernel)), fun _ h => absurd h List.not_mem_nil⟩⟩⟩⟩⟩, ⟨by decide +kernel, by decide +kernel, by decide +kernel⟩, by decide⟩
theorem fl_MO_117 : ab_fl "PolicyForgeModel" 117 17 35 0 := ⟨rfl, R_MO, T_MO, 44, rfl, uw_MO, by decide, rfl, (ab_in 961 (by decide +kernel) (by decide +kernel))⟩
theorem fl_MO_114 : ab_fl "PolicyForgeModel" 114 17 34 1 := ⟨rfl, R_MO, T_MO, 44, rfl, uw_MO, by decide, rfl, (ab_in 960 (by decide +kernel) (by decide +kernel))⟩
theorem fl_MO_123 : ab_fl "PolicyForgeModel" 123 17 37 0 := ⟨rfl, R_MO, T_MO, 44, rfl, uw_MO, by decide, rfl, (ab_in 963 (by decide +kernel) (by decide +kernel))⟩
theorem c_MO_check0 (u : ab_S) (a1 a2 : Int32) (h17 : 0 < N 17) (et : u.1 17 0 4 = 0) : ab_C false l D ca y_MO_check b_MO_check 5 (some .int) 0 N u [ab_O 17 0, ab_I a1, ab_I a2] (fun u' v => u' = ab_ui u 17 0 0 1 ∧ v = some (ab_I 0)) := by
  refine ab_C.of (by decide) (Nat.le_of_ble_eq_true rfl) ?_
  intro p e s m args below meth c ad X hZ hr0 hlk
  refine ab_aload_n X 0 d_MO_check_0 rfl rfl ?_
  refine ab_aload_n X 0 d_MO_check_1 rfl rfl ?_
  refine ab_gI X fl_MO_23 d_MO_check_2 (by first | assumption | decide) (et) ?_
  refine ab_if_eq X 12 d_MO_check_5 rfl (fun _ => ?_) (fun hb => absurd (rfl) hb)
  refine ab_iconst (v := 1) X d_MO_check_12 (by decide) ?_
  refine ab_putI X fp_MO_7 d_MO_check_13 (by first | assumption | decide) rfl rfl ?_
  refine ab_aload_n X 0 d_MO_check_16 rfl rfl ?_
  refine ab_gI X fl_MO_23 d_MO_check_17 (by first | assumption | decide) ((show _ = (0 : Int32) by simpa [ab_up] using et)) ?_
  refine ab_if_ne X 25 d_MO_check_20 rfl (fun hb => absurd (rfl) hb) (fun _ => ?_)
  refine ab_iconst (v := 0) X d_MO_check_23 (by decide) ?_
  exact ab_reti X hr0 hlk d_MO_check_24 ⟨rfl, rfl⟩
abbrev b_MO_word : ByteArray := prog_10_method_60_code
def y_MO_word : MethodName := ⟨"PolicyForgeModel", "word", "(I)I"⟩
theorem d_MO_word_0 : decode b_MO_word 0 = .ok (.aload_n 0, 1) := by decide +kernel
theorem d_MO_word_1 : decode b_MO_word 1 = .ok (.aload_n 0, 1) := by decide +kernel
theorem d_MO_word_2 : decode b_MO_word 2 = .ok (.getfield 23, 3) := by decide +kernel
theorem d_MO_word_5 : decode b_MO_word 5 = .ok (.ifCond .eq 17, 3) := by decide +kernel
theorem d_MO_word_8 : decode b_MO_word 8 = .ok (.iload_n 1, 1) := by decide +kernel
theorem d_MO_word_9 : decode b_MO_word 9 = .ok (.ifCond .lt 13, 3) := by decide +kernel
theorem d_MO_word_12 : decode b_MO_word 12 = .ok (.iload_n 1, 1) := by decide +kernel
theorem d_MO_word_13 : decode b_MO_word 13 = .ok (.aload_n 0, 1) := by decide +kernel
theorem d_MO_word_14 : decode b_MO_word 14 = .ok (.getfield 48, 3) := by decide +kernel
theorem d_MO_word_17 : decode b_MO_word 17 = .ok (.iconst 0, 1) := by decide +kernel
theorem d_MO_word_18 : decode b_MO_word 18 = .ok (.iaload, 1) := by decide +kernel
theorem d_MO_word_19 : decode b_MO_word 19 = .ok (.if_icmp .lt 7, 3) := by decide +kernel
theorem d_MO_word_22 : decode b_MO_word 22 = .ok (.iconst 1, 1) := by decide +kernel
theorem d_MO_word_23 : decode b_MO_word 23 = .ok (.goto 4, 3) := by decide +kernel
theorem d_MO_word_26 : decode b_MO_word 26 = .ok (.iconst 0, 1) := by decide +kernel
theorem d_MO_word_27 : decode b_MO_word 27 = .ok (.putfield 7, 3) := by decide +kernel
theorem d_MO_word_30 : decode b_MO_word 30 = .ok (.aload_n 0, 1) := by decide +kernel
theorem d_MO_word_31 : decode b_MO_word 31 = .ok (.getfield 7, 3) := by decide +kernel
theorem d_MO_word_34 : decode b_MO_word 34 = .ok (.ifCond .eq 7, 3) := by decide +kernel
theorem d_MO_word_37 : decode b_MO_word 37 = .ok (.iconst 0, 1) := by decide +kernel
theorem d_MO_word_38 : decode b_MO_word 38 = .ok (.goto 9, 3) := by decide +kernel
theorem d_MO_word_41 : decode b_MO_word 41 = .ok (.aload_n 0, 1) := by decide +kernel
theorem d_MO_word_42 : decode b_MO_word 42 = .ok (.getfield 57, 3) := by decide +kernel
theorem d_MO_word_45 : decode b_MO_word 45 = .ok (.iload_n 1, 1) := by decide +kernel
theorem d_MO_word_46 : decode b_MO_word 46 = .ok (.iaload, 1) := by decide +kernel
theorem d_MO_word_47 : decode b_MO_word 47 = .ok (.ireturn, 1) := by decide +kernel
theorem fl_MO_7 : ab_fl "PolicyForgeModel" 7 17 0 0 := ⟨rfl, R_MO, T_MO, 44, rfl, uw_MO, by decide, rfl, (ab_in 926 (by decide +kernel) (by decide +kernel))⟩
theorem fl_MO_57 : ab_fl "PolicyForgeModel" 57 17 15 1 := ⟨rfl, R_MO, T_MO, 44, rfl, uw_MO, by decide, rfl, (ab_in 941 (by decide +kernel) (by decide +kernel))⟩
theorem c_MO_word0 (u : ab_S) (x : Int32) (h17 : 0 < N 17) (et : u.1 17 0 4 = 0) : ab_C false l D ca y_MO_word b_MO_word 2 (some .int) 0 N u [ab_O 17 0, ab_I x] (fun u' v => u' = ab_ui u 17 0 0 1 ∧ v = some (ab_I 0)) := by
  refine ab_C.of (by decide) (Nat.le_of_ble_eq_true rfl) ?_
  intro p e s m args below meth c ad X hZ hr0 hlk
  refine ab_aload_n X 0 d_MO_word_0 rfl rfl ?_
  refine ab_aload_n X 0 d_MO_word_1 rfl rfl ?_
  refine ab_gI X fl_MO_23 d_MO_word_2 (by first | assumption | decide) (et) ?_
  refine ab_if_eq X 22 d_MO_word_5 rfl (fun _ => ?_) (fun hb => absurd (rfl) hb)
  refine ab_iconst (v := 1) X d_MO_word_22 (by decide) ?_
  refine ab_goto X 27 d_MO_word_23 rfl ?_
  refine ab_putI X fp_MO_7 d_MO_word_27 (by first | assumption | decide) rfl rfl ?_
  refine ab_aload_n X 0 d_MO_word_30 rfl rfl ?_
  refine ab_gI X fl_MO_7 d_MO_word_31 (by first | assumption | decide) ((show _ = (1 : Int32) by simp [ab_up])) ?_
  refine ab_if_eq X 41 d_MO_word_34 rfl (fun hb => absurd hb ((by decide))) (fun _ => ?_)
  refine ab_iconst (v := 0) X d_MO_word_37 (by decide) ?_
  refine ab_goto X 47 d_MO_word_38 rfl ?_
  exact ab_reti X hr0 hlk d_MO_word_47 ⟨rfl, rfl⟩
abbrev b_MO_size : ByteArray := prog_10_method_61_code
def y_MO_size : MethodName := ⟨"PolicyForgeModel", "size", "(I)I"⟩
theorem d_MO_size_0 : decode b_MO_size 0 = .ok (.aload_n 0, 1) := by decide +kernel
theorem d_MO_size_1 : decode b_MO_size 1 = .ok (.aload_n 0, 1) := by decide +kernel
theorem d_MO_size_2 : decode b_MO_size 2 = .ok (.getfield 23, 3) := by decide +kernel
theorem d_MO_size_5 : decode b_MO_size 5 = .ok (.ifCond .ne 7, 3) := by decide +kernel
theorem d_MO_size_8 : decode b_MO_size 8 = .ok (.iconst 1, 1) := by decide +kernel
theorem d_MO_size_9 : decode b_MO_size 9 = .ok (.goto 18, 3) := by decide +kernel
theorem d_MO_size_12 : decode b_MO_size 12 = .ok (.iload_n 1, 1) := by decide +kernel
theorem d_MO_size_13 : decode b_MO_size 13 = .ok (.ifCond .lt 9, 3) := by decide +kernel
theorem d_MO_size_16 : decode b_MO_size 16 = .ok (.iload_n 1, 1) := by decide +kernel
theorem d_MO_size_17 : decode b_MO_size 17 = .ok (.bipush 7, 2) := by decide +kernel
theorem d_MO_size_19 : decode b_MO_size 19 = .ok (.if_icmp .le 7, 3) := by decide +kernel
theorem d_MO_size_22 : decode b_MO_size 22 = .ok (.iconst 2, 1) := by decide +kernel
theorem d_MO_size_23 : decode b_MO_size 23 = .ok (.goto 4, 3) := by decide +kernel
theorem d_MO_size_26 : decode b_MO_size 26 = .ok (.iconst 0, 1) := by decide +kernel
theorem d_MO_size_27 : decode b_MO_size 27 = .ok (.putfield 7, 3) := by decide +kernel
theorem d_MO_size_30 : decode b_MO_size 30 = .ok (.aload_n 0, 1) := by decide +kernel
theorem d_MO_size_31 : decode b_MO_size 31 = .ok (.getfield 7, 3) := by decide +kernel
theorem d_MO_size_34 : decode b_MO_size 34 = .ok (.ifCond .eq 5, 3) := by decide +kernel
theorem d_MO_size_37 : decode b_MO_size 37 = .ok (.iconst 0, 1) := by decide +kernel
theorem d_MO_size_38 : decode b_MO_size 38 = .ok (.ireturn, 1) := by decide +kernel
theorem d_MO_size_39 : decode b_MO_size 39 = .ok (.iload_n 1, 1) := by decide +kernel
theorem d_MO_size_40 : decode b_MO_size 40 = .ok (.ifCond .ne 10, 3) := by decide +kernel
theorem d_MO_size_43 : decode b_MO_size 43 = .ok (.aload_n 0, 1) := by decide +kernel
theorem d_MO_size_44 : decode b_MO_size 44 = .ok (.getfield 30, 3) := by decide +kernel
theorem d_MO_size_47 : decode b_MO_size 47 = .ok (.goto 40, 3) := by decide +kernel
theorem d_MO_size_50 : decode b_MO_size 50 = .ok (.iload_n 1, 1) := by decide +kernel
theorem d_MO_size_51 : decode b_MO_size 51 = .ok (.iconst 4, 1) := by decide +kernel
theorem d_MO_size_52 : decode b_MO_size 52 = .ok (.if_icmp .ge 14, 3) := by decide +kernel
theorem d_MO_size_55 : decode b_MO_size 55 = .ok (.aload_n 0, 1) := by decide +kernel
theorem d_MO_size_56 : decode b_MO_size 56 = .ok (.getfield 48, 3) := by decide +kernel
theorem d_MO_size_59 : decode b_MO_size 59 = .ok (.iload_n 1, 1) := by decide +kernel
theorem d_MO_size_60 : decode b_MO_size 60 = .ok (.iconst 1, 1) := by decide +kernel
theorem d_MO_size_61 : decode b_MO_size 61 = .ok (.isub, 1) := by decide +kernel
theorem d_MO_size_62 : decode b_MO_size 62 = .ok (.iaload, 1) := by decide +kernel
theorem d_MO_size_63 : decode b_MO_size 63 = .ok (.goto 24, 3) := by decide +kernel
theorem d_MO_size_66 : decode b_MO_size 66 = .ok (.iload_n 1, 1) := by decide +kernel
theorem d_MO_size_67 : decode b_MO_size 67 = .ok (.bipush 7, 2) := by decide +kernel
theorem d_MO_size_69 : decode b_MO_size 69 = .ok (.if_icmp .ge 14, 3) := by decide +kernel
theorem d_MO_size_72 : decode b_MO_size 72 = .ok (.aload_n 0, 1) := by decide +kernel
theorem d_MO_size_73 : decode b_MO_size 73 = .ok (.getfield 51, 3) := by decide +kernel
theorem d_MO_size_76 : decode b_MO_size 76 = .ok (.iload_n 1, 1) := by decide +kernel
theorem d_MO_size_77 : decode b_MO_size 77 = .ok (.iconst 4, 1) := by decide +kernel
theorem d_MO_size_78 : decode b_MO_size 78 = .ok (.isub, 1) := by decide +kernel
theorem d_MO_size_79 : decode b_MO_size 79 = .ok (.iaload, 1) := by decide +kernel
theorem d_MO_size_80 : decode b_MO_size 80 = .ok (.goto 7, 3) := by decide +kernel
theorem d_MO_size_83 : decode b_MO_size 83 = .ok (.aload_n 0, 1) := by decide +kernel
theorem d_MO_size_84 : decode b_MO_size 84 = .ok (.getfield 27, 3) := by decide +kernel
theorem d_MO_size_87 : decode b_MO_size 87 = .ok (.ireturn, 1) := by decide +kernel
theorem fl_MO_30 : ab_fl "PolicyForgeModel" 30 17 6 0 := ⟨rfl, R_MO, T_MO, 44, rfl, uw_MO, by decide, rfl, (ab_in 932 (by decide +kernel) (by decide +kernel))⟩
theorem fl_MO_51 : ab_fl "PolicyForgeModel" 51 17 13 1 := ⟨rfl, R_MO, T_MO, 44, rfl, uw_MO, by decide, rfl, (ab_in 939 (by decide +kernel) (by decide +kernel))⟩
theorem c_MO_size0 (u : ab_S) (x : Int32) (h17 : 0 < N 17) (et : u.1 17 0 4 = 0) : ab_C false l D ca y_MO_size b_MO_size 2 (some .int) 0 N u [ab_O 17 0, ab_I x] (fun u' v => u' = ab_ui u 17 0 0 1 ∧ v = some (ab_I 0)) := by
  refine ab_C.of (by decide) (Nat.le_of_ble_eq_true rfl) ?_
  intro p e s m args below meth c ad X hZ hr0 hlk
  refine ab_aload_n X 0 d_MO_size_0 rfl rfl ?_
  refine ab_aload_n X 0 d_MO_size_1 rfl rfl ?_
  refine ab_gI X fl_MO_23 d_MO_size_2 (by first | assumption | decide) (et) ?_
  refine ab_if_ne X 12 d_MO_size_5 rfl (fun hb => absurd (rfl) hb) (fun _ => ?_)
  refine ab_iconst (v := 1) X d_MO_size_8 (by decide) ?_
  refine ab_goto X 27 d_MO_size_9 rfl ?_
  refine ab_putI X fp_MO_7 d_MO_size_27 (by first | assumption | decide) rfl rfl ?_
  refine ab_aload_n X 0 d_MO_size_30 rfl rfl ?_
  refine ab_gI X fl_MO_7 d_MO_size_31 (by first | assumption | decide) ((show _ = (1 : Int32) by simp [ab_up])) ?_
  refine ab_if_eq X 39 d_MO_size_34 rfl (fun hb => absurd hb ((by decide))) (fun _ => ?_)
  refine ab_iconst (v := 0) X d_MO_size_37 (by decide) ?_
  exact ab_reti X hr0 hlk d_MO_size_38 ⟨rfl, rfl⟩
abbrev b_MO_item : ByteArray := prog_10_method_65_code
def y_MO_item : MethodName := ⟨"PolicyForgeModel", "item", "(I)I"⟩
theorem d_MO_item_0 : decode b_MO_item 0 = .ok (.aload_n 0, 1) := by decide +kernel
theorem d_MO_item_1 : decode b_MO_item 1 = .ok (.iload_n 1, 1) := by decide +kernel
theorem d_MO_item_2 : decode b_MO_item 2 = .ok (.ifCond .lt 11, 3) := by decide +kernel
theorem d_MO_item_5 : decode b_MO_item 5 = .ok (.iload_n 1, 1) := by decide +kernel
theorem d_MO_item_6 : decode b_MO_item 6 = .ok (.aload_n 0, 1) := by decide +kernel
theorem d_MO_item_7 : decode b_MO_item 7 = .ok (.getfield 108, 3) := by decide +kernel
theorem d_MO_item_10 : decode b_MO_item 10 = .ok (.if_icmp .lt 7, 3) := by decide +kernel
theorem d_MO_item_13 : decode b_MO_item 13 = .ok (.iconst 1, 1) := by decide +kernel
theorem d_MO_item_14 : decode b_MO_item 14 = .ok (.goto 4, 3) := by decide +kernel
theorem d_MO_item_17 : decode b_MO_item 17 = .ok (.iconst 0, 1) := by decide +kernel
theorem d_MO_item_18 : decode b_MO_item 18 = .ok (.putfield 7, 3) := by decide +kernel
theorem d_MO_item_21 : decode b_MO_item 21 = .ok (.aload_n 0, 1) := by decide +kernel
theorem d_MO_item_22 : decode b_MO_item 22 = .ok (.getfield 7, 3) := by decide +kernel
theorem d_MO_item_25 : decode b_MO_item 25 = .ok (.ifCond .eq 7, 3) := by decide +kernel
theorem d_MO_item_28 : decode b_MO_item 28 = .ok (.iconst 0, 1) := by decide +kernel
theorem d_MO_item_29 : decode b_MO_item 29 = .ok (.goto 9, 3) := by decide +kernel
theorem d_MO_item_32 : decode b_MO_item 32 = .ok (.aload_n 0, 1) := by decide +kernel
theorem d_MO_item_33 : decode b_MO_item 33 = .ok (.getfield 105, 3) := by decide +kernel
theorem d_MO_item_36 : decode b_MO_item 36 = .ok (.iload_n 1, 1) := by decide +kernel
theorem d_MO_item_37 : decode b_MO_item 37 = .ok (.iaload, 1) := by decide +kernel
theorem d_MO_item_38 : decode b_MO_item 38 = .ok (.ireturn, 1) := by decide +kernel
set_option maxRecDepth 100000 in
set_option maxHeartbeats 4000000 in
theorem c_MO_item (u : ab_S) (x : Int32) (n : Nat) (h17 : 0 < N 17) (h18 : 17 < N 18) (ew : u.2.1 17 0 31 = some (18, 17)) (en : u.1 17 0 32 = nI n) (hn : n ≤ 64) : ab_C false l D ca y_MO_item b_MO_item 2 (some .int) 0 N u [ab_O 17 0, ab_I x] (fun u' v => (∃ j, j < n ∧ x = nI j ∧ u' = ab_ui u 17 0 0 0 ∧ v = some (ab_I (u.1 18 17 j))) ∨ ((x < 0 ∨ nI n ≤ x) ∧ u' = ab_ui u 17 0 0 1 ∧ v = some (ab_I 0))) := by
  refine ab_C.of (by decide) (Nat.le_of_ble_eq_true rfl) ?_
  intro p e s m args below meth c ad X hZ hr0 hlk
  by_cases h1 : x < 0
  ·
    refine ab_aload_n X 0 d_MO_item_0 rfl rfl ?_
    refine ab_iload_n X 1 d_MO_item_1 rfl rfl ?_
    refine ab_if_lt X 13 d_MO_item_2 rfl (fun _ => ?_) (fun hb => absurd (h1) hb)
    refine ab_iconst (v := 1) X d_MO_item_13 (by decide) ?_
    refine ab_goto X 18 d_MO_item_14 rfl ?_
    refine ab_putI X fp_MO_7 d_MO_item_18 (by first | assumption | decide) rfl rfl ?_
    refine ab_aload_n X 0 d_MO_item_21 rfl rfl ?_
    refine ab_gI X fl_MO_7 d_MO_item_22 (by first | assumption | decide) ((show _ = (1 : Int32) by simp [ab_up])) ?_
    refine ab_if_eq X 32 d_MO_item_25 rfl (fun hb => absurd hb ((by decide))) (fun _ => ?_)
    refine ab_iconst (v := 0) X d_MO_item_28 (by decide) ?_
    refine ab_goto X 38 d_MO_item_29 rfl ?_
    exact ab_reti X hr0 hlk d_MO_item_38 (Or.inr ⟨Or.inl h1, rfl, rfl⟩)
  · by_cases h2 : x < nI n
    · obtain ⟨j, hj, rfl⟩ : ∃ j, j < n ∧ x = nI j := by
        rcases pk_ix x (n := n) (by omega) with h | h | h
        · exact absurd h h1
        · exact absurd h2 (Int32.not_lt.mpr h)
        · exact h
      refine ab_aload_n X 0 d_MO_item_0 rfl rfl ?_
      refine ab_iload_n X 1 d_MO_item_1 rfl rfl ?_
      refine ab_if_lt X 13 d_MO_item_2 rfl (fun hb => absurd hb (h1)) (fun _ => ?_)
      refine ab_iload_n X 1 d_MO_item_5 rfl rfl ?_
      refine ab_aload_n X 0 d_MO_item_6 rfl rfl ?_
      refine ab_gI X fl_MO_108 d_MO_item_7 (by first | assumption | decide) (en) ?_
      refine ab_icmp_lt X 17 d_MO_item_10 rfl (fun _ => ?_) (fun hb => absurd (h2) hb)
      refine ab_iconst (v := 0) X d_MO_item_17 (by decide) ?_
      refine ab_putI X fp_MO_7 d_MO_item_18 (by first | assumption | decide) rfl rfl ?_
      refine ab_aload_n X 0 d_MO_item_21 rfl rfl ?_
      refine ab_gI X fl_MO_7 d_MO_item_22 (by first | assumption | decide) ((show _ = (0 : Int32) by simp [ab_up])) ?_
      refine ab_if_eq X 32 d_MO_item_25 rfl (fun _ => ?_) (fun hb => absurd (rfl) hb)
      refine ab_aload_n X 0 d_MO_item_32 rfl rfl ?_
      refine ab_gR X fl_MO_105 d_MO_item_33 (by first | assumption | decide) (ew) ?_
      refine ab_iload_n X 1 d_MO_item_36 rfl rfl ?_
      refine ab_iald X (j) ⟨rfl, rfl⟩ d_MO_item_37 (by first | assumption | decide) (rfl) (show j < 64 by omega) (ab_ln_lt _ _) ?_
      exact ab_reti X hr0 hlk d_MO_item_38 (Or.inl ⟨j, hj, rfl, rfl, by simp [ab_up]⟩)
    ·
      refine ab_aload_n X 0 d_MO_item_0 rfl rfl ?_
      refine ab_iload_n X 1 d_MO_item_1 rfl rfl ?_
      refine ab_if_lt X 13 d_MO_item_2 rfl (fun hb => absurd hb (h1)) (fun _ => ?_)
      refine ab_iload_n X 1 d_MO_item_5 rfl rfl ?_
      refine ab_aload_n X 0 d_MO_item_6 rfl rfl ?_
      refine ab_gI X fl_MO_108 d_MO_item_7 (by first | assumption | decide) (en) ?_
      refine ab_icmp_lt X 17 d_MO_item_10 rfl (fun hb => absurd hb (h2)) (fun _ => ?_)
      refine ab_iconst (v := 1) X d_MO_item_13 (by decide) ?_
      refine ab_goto X 18 d_MO_item_14 rfl ?_
      refine ab_putI X fp_MO_7 d_MO_item_18 (by first | assumption | decide) rfl rfl ?_
      refine ab_aload_n X 0 d_MO_item_21 rfl rfl ?_
      refine ab_gI X fl_MO_7 d_MO_item_22 (by first | assumption | decide) ((show _ = (1 : Int32) by simp [ab_up])) ?_
      refine ab_if_eq X 32 d_MO_item_25 rfl (fun hb => absurd hb ((by decide))) (fun _ => ?_)
      refine ab_iconst (v := 0) X d_MO_item_28 (by decide) ?_
      refine ab_goto X 38 d_MO_item_29 rfl ?_
      exact ab_reti X hr0 hlk d_MO_item_38 (Or.inr ⟨Or.inr (Int32.not_lt.mp h2), rfl, rfl⟩)
abbrev b_MO_put : ByteArray := prog_10_method_63_code
def y_MO_put : MethodName := ⟨"PolicyForgeModel", "put", "(I)I"⟩
theorem d_MO_put_0 : decode b_MO_put 0 = .ok (.iload_n 1, 1) := by decide +kernel
theorem d_MO_put_1 : decode b_MO_put 1 = .ok (.ifCond .eq 32, 3) := by decide +kernel
theorem d_MO_put_4 : decode b_MO_put 4 = .ok (.iload_n 1, 1) := by decide +kernel
theorem d_MO_put_5 : decode b_MO_put 5 = .ok (.iconst 1, 1) := by decide +kernel
theorem d_MO_put_6 : decode b_MO_put 6 = .ok (.if_icmp .eq 27, 3) := by decide +kernel
theorem d_MO_put_9 : decode b_MO_put 9 = .ok (.iload_n 1, 1) := by decide +kernel
theorem d_MO_put_10 : decode b_MO_put 10 = .ok (.bipush 10, 2) := by decide +kernel
theorem d_MO_put_12 : decode b_MO_put 12 = .ok (.if_icmp .lt 9, 3) := by decide +kernel
theorem d_MO_put_15 : decode b_MO_put 15 = .ok (.iload_n 1, 1) := by decide +kernel
theorem d_MO_put_16 : decode b_MO_put 16 = .ok (.bipush 17, 2) := by decide +kernel
theorem d_MO_put_18 : decode b_MO_put 18 = .ok (.if_icmp .le 15, 3) := by decide +kernel
theorem d_MO_put_21 : decode b_MO_put 21 = .ok (.iload_n 1, 1) := by decide +kernel
theorem d_MO_put_22 : decode b_MO_put 22 = .ok (.bipush 20, 2) := by decide +kernel
theorem d_MO_put_24 : decode b_MO_put 24 = .ok (.if_icmp .lt 13, 3) := by decide +kernel
theorem d_MO_put_27 : decode b_MO_put 27 = .ok (.iload_n 1, 1) := by decide +kernel
theorem d_MO_put_28 : decode b_MO_put 28 = .ok (.bipush 29, 2) := by decide +kernel
theorem d_MO_put_30 : decode b_MO_put 30 = .ok (.if_icmp .gt 7, 3) := by decide +kernel
theorem d_MO_put_33 : decode b_MO_put 33 = .ok (.iconst 1, 1) := by decide +kernel
theorem d_MO_put_34 : decode b_MO_put 34 = .ok (.goto 4, 3) := by decide +kernel
theorem d_MO_put_37 : decode b_MO_put 37 = .ok (.iconst 0, 1) := by decide +kernel
theorem d_MO_put_38 : decode b_MO_put 38 = .ok (.istore_n 2, 1) := by decide +kernel
theorem d_MO_put_39 : decode b_MO_put 39 = .ok (.aload_n 0, 1) := by decide +kernel
theorem d_MO_put_40 : decode b_MO_put 40 = .ok (.iload_n 2, 1) := by decide +kernel
theorem d_MO_put_41 : decode b_MO_put 41 = .ok (.ifCond .ne 7, 3) := by decide +kernel
theorem d_MO_put_44 : decode b_MO_put 44 = .ok (.iconst 1, 1) := by decide +kernel
theorem d_MO_put_45 : decode b_MO_put 45 = .ok (.goto 17, 3) := by decide +kernel
theorem d_MO_put_48 : decode b_MO_put 48 = .ok (.aload_n 0, 1) := by decide +kernel
theorem d_MO_put_49 : decode b_MO_put 49 = .ok (.getfield 108, 3) := by decide +kernel
theorem d_MO_put_52 : decode b_MO_put 52 = .ok (.bipush 24, 2) := by decide +kernel
theorem d_MO_put_54 : decode b_MO_put 54 = .ok (.if_icmp .lt 7, 3) := by decide +kernel
theorem d_MO_put_57 : decode b_MO_put 57 = .ok (.iconst 2, 1) := by decide +kernel
theorem d_MO_put_58 : decode b_MO_put 58 = .ok (.goto 4, 3) := by decide +kernel
theorem d_MO_put_61 : decode b_MO_put 61 = .ok (.iconst 0, 1) := by decide +kernel
theorem d_MO_put_62 : decode b_MO_put 62 = .ok (.putfield 7, 3) := by decide +kernel
theorem d_MO_put_65 : decode b_MO_put 65 = .ok (.aload_n 0, 1) := by decide +kernel
theorem d_MO_put_66 : decode b_MO_put 66 = .ok (.getfield 7, 3) := by decide +kernel
theorem d_MO_put_69 : decode b_MO_put 69 = .ok (.ifCond .eq 5, 3) := by decide +kernel
theorem d_MO_put_72 : decode b_MO_put 72 = .ok (.iconst 0, 1) := by decide +kernel
theorem d_MO_put_73 : decode b_MO_put 73 = .ok (.ireturn, 1) := by decide +kernel
theorem d_MO_put_74 : decode b_MO_put 74 = .ok (.aload_n 0, 1) := by decide +kernel
theorem d_MO_put_75 : decode b_MO_put 75 = .ok (.getfield 105, 3) := by decide +kernel
theorem d_MO_put_78 : decode b_MO_put 78 = .ok (.aload_n 0, 1) := by decide +kernel
theorem d_MO_put_79 : decode b_MO_put 79 = .ok (.getfield 108, 3) := by decide +kernel
theorem d_MO_put_82 : decode b_MO_put 82 = .ok (.iload_n 1, 1) := by decide +kernel
theorem d_MO_put_83 : decode b_MO_put 83 = .ok (.iastore, 1) := by decide +kernel
theorem d_MO_put_84 : decode b_MO_put 84 = .ok (.aload_n 0, 1) := by decide +kernel
theorem d_MO_put_85 : decode b_MO_put 85 = .ok (.dup, 1) := by decide +kernel
theorem d_MO_put_86 : decode b_MO_put 86 = .ok (.getfield 108, 3) := by decide +kernel
theorem d_MO_put_89 : decode b_MO_put 89 = .ok (.iconst 1, 1) := by decide +kernel
theorem d_MO_put_90 : decode b_MO_put 90 = .ok (.iadd, 1) := by decide +kernel
theorem d_MO_put_91 : decode b_MO_put 91 = .ok (.putfield 108, 3) := by decide +kernel
theorem d_MO_put_94 : decode b_MO_put 94 = .ok (.aload_n 0, 1) := by decide +kernel
theorem d_MO_put_95 : decode b_MO_put 95 = .ok (.getfield 108, 3) := by decide +kernel
theorem d_MO_put_98 : decode b_MO_put 98 = .ok (.ireturn, 1) := by decide +kernel
set_option maxRecDepth 100000 in
set_option maxHeartbeats 4000000 in
theorem c_MO_put (u : ab_S) (x : Int32) (n : Nat) (h17 : 0 < N 17) (hA18 : 17 < N 18) (ew : u.2.1 17 0 31 = some (18, 17)) (en : u.1 17 0 32 = nI n) (hn : n ≤ 64) : ab_C false l D ca y_MO_put b_MO_put 3 (some .int) 0 N u [ab_O 17 0, ab_I x] (fun u' v => (ab_item x ∧ n < 24 ∧ u' = ab_ui (ab_ui (ab_ui u 17 0 0 0) 18 17 n x) 17 0 32 (nI (n + 1)) ∧ v = some (ab_I (nI (n + 1)))) ∨ (¬ ab_item x ∧ u' = ab_ui u 17 0 0 1 ∧ v = some (ab_I 0)) ∨ (ab_item x ∧ 24 ≤ n ∧ u' = ab_ui u 17 0 0 2 ∧ v = some (ab_I 0))) := by
  refine ab_C.of (by decide) (Nat.le_of_ble_eq_true rfl) ?_
  intro p e s m args below meth c ad X hZ hr0 hlk
  have le : ∀ {a b : Int32}, ¬ a ≤ b → b < a := fun h => Int32.not_le.mp h
  have ge : ∀ {a b : Int32}, ¬ a < b → b ≤ a := fun h => Int32.not_lt.mp h
  have s17 : x ≤ 17 ↔ x < 18 := by
    rw [Int32.le_iff_toInt_le, Int32.lt_iff_toInt_lt]
    show _ ↔ _ < (18 : Int)
    show x.toInt ≤ (17 : Int) ↔ _
    omega
  have s29 : x ≤ 29 ↔ x < 30 := by
    rw [Int32.le_iff_toInt_le, Int32.lt_iff_toInt_lt]
    show _ ↔ _ < (30 : Int)
    show x.toInt ≤ (29 : Int) ↔ _
    omega
  have yes : ab_item x → ab_J p l e (ab_rm 0 0 0) s m args below meth c (MQ below (ab_Q D ca ad N s.heap.size (fun u' v => (ab_item x ∧ n < 24 ∧ u' = ab_ui (ab_ui (ab_ui u 17 0 0 0) 18 17 n x) 17 0 32 (nI (n + 1)) ∧ v = some (ab_I (nI (n + 1)))) ∨ (¬ ab_item x ∧ u' = ab_ui u 17 0 0 1 ∧ v = some (ab_I 0)) ∨ (ab_item x ∧ 24 ≤ n ∧ u' = ab_ui u 17 0 0 2 ∧ v = some (ab_I 0)))) args s 0 0 (ab_A ad N s.heap.size)) D ca (ab_A ad N s.heap.size) s.heap 3 0 0 ad N u 33 [(0, ab_O 17 0), (1, ab_I x)] [] := by
    intro hi
    by_cases h24 : n < 24
    ·
      refine ab_iconst (v := 1) X d_MO_put_33 (by decide) ?_
      refine ab_goto X 38 d_MO_put_34 rfl ?_
      refine ab_istore_n2 X 0 1 d_MO_put_38 rfl (by decide) rfl rfl rfl rfl ?_
      refine ab_aload_n X 1 d_MO_put_39 rfl rfl ?_
      refine ab_iload_n X 0 d_MO_put_40 rfl rfl ?_
      refine ab_if_ne X 48 d_MO_put_41 rfl (fun _ => ?_) (fun hb => absurd hb ((by decide)))
      refine ab_aload_n X 1 d_MO_put_48 rfl rfl ?_
      refine ab_gI X fl_MO_108 d_MO_put_49 (by first | assumption | decide) (en) ?_
      refine ab_bipush (v := 24) X d_MO_put_52 (by decide) ?_
      refine ab_icmp_lt X 61 d_MO_put_54 rfl (fun _ => ?_) (fun hb => absurd ((show nI n < 24 from nI_lt (b := 24) h24 (by decide))) hb)
      refine ab_iconst (v := 0) X d_MO_put_61 (by decide) ?_
      refine ab_putI X fp_MO_7 d_MO_put_62 (by first | assumption | decide) rfl rfl ?_
      refine ab_aload_n X 1 d_MO_put_65 rfl rfl ?_
      refine ab_gI X fl_MO_7 d_MO_put_66 (by first | assumption | decide) ((show _ = (0 : Int32) by simp [ab_up])) ?_
      refine ab_if_eq X 74 d_MO_put_69 rfl (fun _ => ?_) (fun hb => absurd (rfl) hb)
      refine ab_aload_n X 1 d_MO_put_74 rfl rfl ?_
      refine ab_gR X fl_MO_105 d_MO_put_75 (by first | assumption | decide) (ew) ?_
      refine ab_aload_n X 1 d_MO_put_78 rfl rfl ?_
      refine ab_gI X fl_MO_108 d_MO_put_79 (by first | assumption | decide) ((show _ = nI n by simpa [ab_up] using en)) ?_
      refine ab_iload_n X 2 d_MO_put_82 rfl rfl ?_
      refine ab_iast X (n) ⟨rfl, rfl⟩ d_MO_put_83 (by first | assumption | decide) (rfl) (show n < 64 by omega) (ab_ln_lt _ _) ?_
      refine ab_aload_n X 1 d_MO_put_84 rfl rfl ?_
      refine ab_dup X d_MO_put_85 rfl ?_
      refine ab_gI X fl_MO_108 d_MO_put_86 (by first | assumption | decide) ((show _ = nI n by simpa [ab_up] using en)) ?_
      refine ab_iconst (v := 1) X d_MO_put_89 (by decide) ?_
      refine ab_iadd X d_MO_put_90 ?_
      refine ab_top (nI_1 _) ?_
      refine ab_putI X fp_MO_108 d_MO_put_91 (by first | assumption | decide) rfl rfl ?_
      refine ab_aload_n X 1 d_MO_put_94 rfl rfl ?_
      refine ab_gI X fl_MO_108 d_MO_put_95 (by first | assumption | decide) ((show _ = nI (n + 1) by simp [ab_up])) ?_
      exact ab_reti X hr0 hlk d_MO_put_98 (Or.inl ⟨hi, h24, rfl, rfl⟩)
    ·
      refine ab_iconst (v := 1) X d_MO_put_33 (by decide) ?_
      refine ab_goto X 38 d_MO_put_34 rfl ?_
      refine ab_istore_n2 X 0 1 d_MO_put_38 rfl (by decide) rfl rfl rfl rfl ?_
      refine ab_aload_n X 1 d_MO_put_39 rfl rfl ?_
      refine ab_iload_n X 0 d_MO_put_40 rfl rfl ?_
      refine ab_if_ne X 48 d_MO_put_41 rfl (fun _ => ?_) (fun hb => absurd hb ((by decide)))
      refine ab_aload_n X 1 d_MO_put_48 rfl rfl ?_
      refine ab_gI X fl_MO_108 d_MO_put_49 (by first | assumption | decide) (en) ?_
      refine ab_bipush (v := 24) X d_MO_put_52 (by decide) ?_
      refine ab_icmp_lt X 61 d_MO_put_54 rfl (fun hb => absurd hb ((show ¬ nI n < 24 from nI_nlt (b := 24) (by omega) (by omega)))) (fun _ => ?_)
      refine ab_iconst (v := 2) X d_MO_put_57 (by decide) ?_
      refine ab_goto X 62 d_MO_put_58 rfl ?_
      refine ab_putI X fp_MO_7 d_MO_put_62 (by first | assumption | decide) rfl rfl ?_
      refine ab_aload_n X 1 d_MO_put_65 rfl rfl ?_
      refine ab_gI X fl_MO_7 d_MO_put_66 (by first | assumption | decide) ((show _ = (2 : Int32) by simp [ab_up])) ?_
      refine ab_if_eq X 74 d_MO_put_69 rfl (fun hb => absurd hb ((by decide))) (fun _ => ?_)
      refine ab_iconst (v := 0) X d_MO_put_72 (by decide) ?_
      exact ab_reti X hr0 hlk d_MO_put_73 (Or.inr (Or.inr ⟨hi, by omega, rfl, rfl⟩))
  have no : ¬ ab_item x → ab_J p l e (ab_rm 0 0 0) s m args below meth c (MQ below (ab_Q D ca ad N s.heap.size (fun u' v => (ab_item x ∧ n < 24 ∧ u' = ab_ui (ab_ui (ab_ui u 17 0 0 0) 18 17 n x) 17 0 32 (nI (n + 1)) ∧ v = some (ab_I (nI (n + 1)))) ∨ (¬ ab_item x ∧ u' = ab_ui u 17 0 0 1 ∧ v = some (ab_I 0)) ∨ (ab_item x ∧ 24 ≤ n ∧ u' = ab_ui u 17 0 0 2 ∧ v = some (ab_I 0)))) args s 0 0 (ab_A ad N s.heap.size)) D ca (ab_A ad N s.heap.size) s.heap 3 0 0 ad N u 37 [(0, ab_O 17 0), (1, ab_I x)] [] := by
    intro hi
    refine ab_iconst (v := 0) X d_MO_put_37 (by decide) ?_
    refine ab_istore_n2 X 0 1 d_MO_put_38 rfl (by decide) rfl rfl rfl rfl ?_
    refine ab_aload_n X 1 d_MO_put_39 rfl rfl ?_
    refine ab_iload_n X 0 d_MO_put_40 rfl rfl ?_
    refine ab_if_ne X 48 d_MO_put_41 rfl (fun hb => absurd (rfl) hb) (fun _ => ?_)
    refine ab_iconst (v := 1) X d_MO_put_44 (by decide) ?_
    refine ab_goto X 62 d_MO_put_45 rfl ?_
    refine ab_putI X fp_MO_7 d_MO_put_62 (by first | assumption | decide) rfl rfl ?_
    refine ab_aload_n X 1 d_MO_put_65 rfl rfl ?_
    refine ab_gI X fl_MO_7 d_MO_put_66 (by first | assumption | decide) ((show _ = (1 : Int32) by simp [ab_up])) ?_
    refine ab_if_eq X 74 d_MO_put_69 rfl (fun hb => absurd hb ((by decide))) (fun _ => ?_)
    refine ab_iconst (v := 0) X d_MO_put_72 (by decide) ?_
    exact ab_reti X hr0 hlk d_MO_put_73 (Or.inr (Or.inl ⟨hi, rfl, rfl⟩))
  have from21 : ¬ x = 0 → ¬ x = 1 → ¬ (10 ≤ x ∧ x < 18) → ab_J p l e (ab_rm 0 0 0) s m args below meth c (MQ below (ab_Q D ca ad N s.heap.size (fun u' v => (ab_item x ∧ n < 24 ∧ u' = ab_ui (ab_ui (ab_ui u 17 0 0 0) 18 17 n x) 17 0 32 (nI (n + 1)) ∧ v = some (ab_I (nI (n + 1)))) ∨ (¬ ab_item x ∧ u' = ab_ui u 17 0 0 1 ∧ v = some (ab_I 0)) ∨ (ab_item x ∧ 24 ≤ n ∧ u' = ab_ui u 17 0 0 2 ∧ v = some (ab_I 0)))) args s 0 0 (ab_A ad N s.heap.size)) D ca (ab_A ad N s.heap.size) s.heap 3 0 0 ad N u 21 [(0, ab_O 17 0), (1, ab_I x)] [] := by
    intro a0 a1 a2
    refine ab_iload_n X 1 d_MO_put_21 rfl rfl ?_
    refine ab_bipush (v := 20) X d_MO_put_22 (by decide) ?_
    refine ab_icmp_lt X 37 d_MO_put_24 rfl (fun h24 => ?_) (fun h24 => ?_)
    · exact no (fun h => by
        rcases h with h | h | h | h
        · exact a0 h
        · exact a1 h
        · exact a2 h
        · exact absurd h24 (Int32.not_lt.mpr h.1))
    ·
      refine ab_iload_n X 1 d_MO_put_27 rfl rfl ?_
      refine ab_bipush (v := 29) X d_MO_put_28 (by decide) ?_
      refine ab_icmp_gt X 37 d_MO_put_30 rfl (fun h30 => ?_) (fun h30 => ?_)
      · exact no (fun h => by
          rcases h with h | h | h | h
          · exact a0 h
          · exact a1 h
          · exact a2 h
          · exact absurd h30 (Int32.not_lt.mpr (s29.mpr h.2)))
      · exact yes (Or.inr (Or.inr (Or.inr ⟨ge h24, s29.mp (ge h30)⟩)))
  refine ab_iload_n X 1 d_MO_put_0 rfl rfl ?_
  refine ab_if_eq X 33 d_MO_put_1 rfl (fun h1 => ?_) (fun h1 => ?_)
  · exact yes (Or.inl h1)
  ·
    refine ab_iload_n X 1 d_MO_put_4 rfl rfl ?_
    refine ab_iconst (v := 1) X d_MO_put_5 (by decide) ?_
    refine ab_icmp_eq X 33 d_MO_put_6 rfl (fun h6 => ?_) (fun h6 => ?_)
    · exact yes (Or.inr (Or.inl h6))
    ·
      refine ab_iload_n X 1 d_MO_put_9 rfl rfl ?_
      refine ab_bipush (v := 10) X d_MO_put_10 (by decide) ?_
      refine ab_icmp_lt X 21 d_MO_put_12 rfl (fun h12 => ?_) (fun h12 => ?_)
      · exact from21 h1 h6 (fun h => absurd h12 (Int32.not_lt.mpr h.1))
      ·
        refine ab_iload_n X 1 d_MO_put_15 rfl rfl ?_
        refine ab_bipush (v := 17) X d_MO_put_16 (by decide) ?_
        refine ab_icmp_le X 33 d_MO_put_18 rfl (fun h18 => ?_) (fun h18 => ?_)
        · exact yes (Or.inr (Or.inr (Or.inl ⟨ge h12, s17.mp h18⟩)))
        · exact from21 h1 h6 (fun h => absurd (s17.mpr h.2) h18)
end AbMS

