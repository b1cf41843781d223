/-! Methods of the class that may throw. -/
section AbTh
variable {p : Program} {l : Launch} {e : Env} {R : Room} {s : State} {m : MethodId} {args : Array Value} {below : List Frame} {meth : Method} {c : Code}
variable {cc : ByteArray} {own : String} {nL : Nat} {D : va_G} {ca : Nat → ClassId} {cells slots : Nat} {ad : ab_Ad} {N : Nat → Nat} {u : ab_S} {pc : Nat} {lv : List (Nat × ab_V)} {Post : ab_S → Option ab_V → Prop} {PT : ab_S → String → Prop}
theorem ab_retTi (X : ab_X p s m args c cc own nL D ca (ab_A ad N s.heap.size) s.heap) (hr : meth.sig.returnType = some .int) (hlk : meth.locks = false) {v : Int32} (hd : decode cc pc = .ok (.ireturn, 1)) (hP : Post u (some (ab_I v))) : ab_J p l e R s m args below meth c (ab_MQ below (ab_QT D ca ad N s.heap.size Post PT) args s 1 6 (ab_A ad N s.heap.size)) D ca (ab_A ad N s.heap.size) s.heap nL 0 0 ad N u pc lv [ab_I v] :=
  ab_widen (k := 1) (n := 6) (by decide) (by decide) (ab_J_mono (fun t h => ab_QT_ret t h) (ab_reti X hr hlk hd hP))
theorem ab_retTz (X : ab_X p s m args c cc own nL D ca (ab_A ad N s.heap.size) s.heap) (hr : meth.sig.returnType = some .boolean) (hlk : meth.locks = false) {v : Int32} (hv : v = 0 ∨ v = 1) (hd : decode cc pc = .ok (.ireturn, 1)) (hP : Post u (some (ab_I v))) : ab_J p l e R s m args below meth c (ab_MQ below (ab_QT D ca ad N s.heap.size Post PT) args s 1 6 (ab_A ad N s.heap.size)) D ca (ab_A ad N s.heap.size) s.heap nL 0 0 ad N u pc lv [ab_I v] :=
  ab_widen (k := 1) (n := 6) (by decide) (by decide) (ab_J_mono (fun t h => ab_QT_ret t h) (ab_retz X hr hlk hv hd hP))
end AbTh
section AbThrows
variable {l : Launch} {D : va_G} {ca : Nat → ClassId} {N : Nat → Nat}
abbrev b_PF_holds : ByteArray := prog_1_method_5_code
def y_PF_holds : MethodName := ⟨"PolicyForge", "holds", "(IIII)Z"⟩
theorem d_PF_holds_0 : decode b_PF_holds 0 = .ok (.aload_n 0, 1) := by decide +kernel
theorem d_PF_holds_1 : decode b_PF_holds 1 = .ok (.getfield 58, 3) := by decide +kernel
theorem d_PF_holds_4 : decode b_PF_holds 4 = .ok (.ifnonnull 11, 3) := by decide +kernel
theorem d_PF_holds_7 : decode b_PF_holds 7 = .ok (.new 107, 3) := by decide +kernel
theorem d_PF_holds_10 : decode b_PF_holds 10 = .ok (.dup, 1) := by decide +kernel
theorem d_PF_holds_11 : decode b_PF_holds 11 = .ok (.invokespecial 109, 3) := by decide +kernel
theorem d_PF_holds_14 : decode b_PF_holds 14 = .ok (.athrow, 1) := by decide +kernel
theorem d_PF_holds_15 : decode b_PF_holds 15 = .ok (.aload_n 0, 1) := by decide +kernel
theorem d_PF_holds_16 : decode b_PF_holds 16 = .ok (.getfield 44, 3) := by decide +kernel
theorem d_PF_holds_19 : decode b_PF_holds 19 = .ok (.iload_n 1, 1) := by decide +kernel
theorem d_PF_holds_20 : decode b_PF_holds 20 = .ok (.iload_n 2, 1) := by decide +kernel
theorem d_PF_holds_21 : decode b_PF_holds 21 = .ok (.iload_n 3, 1) := by decide +kernel
theorem d_PF_holds_22 : decode b_PF_holds 22 = .ok (.iload 4, 2) := by decide +kernel
theorem d_PF_holds_24 : decode b_PF_holds 24 = .ok (.invokevirtual 110, 3) := by decide +kernel
theorem d_PF_holds_27 : decode b_PF_holds 27 = .ok (.aload_n 0, 1) := by decide +kernel
theorem d_PF_holds_28 : decode b_PF_holds 28 = .ok (.getfield 12, 3) := by decide +kernel
theorem d_PF_holds_31 : decode b_PF_holds 31 = .ok (.getfield 81, 3) := by decide +kernel
theorem d_PF_holds_34 : decode b_PF_holds 34 = .ok (.iconst 1, 1) := by decide +kernel
theorem d_PF_holds_35 : decode b_PF_holds 35 = .ok (.isub, 1) := by decide +kernel
theorem d_PF_holds_36 : decode b_PF_holds 36 = .ok (.istore 5, 2) := by decide +kernel
theorem d_PF_holds_38 : decode b_PF_holds 38 = .ok (.iload 5, 2) := by decide +kernel
theorem d_PF_holds_40 : decode b_PF_holds 40 = .ok (.ifCond .lt 26, 3) := by decide +kernel
theorem d_PF_holds_43 : decode b_PF_holds 43 = .ok (.aload_n 0, 1) := by decide +kernel
theorem d_PF_holds_44 : decode b_PF_holds 44 = .ok (.getfield 12, 3) := by decide +kernel
theorem d_PF_holds_47 : decode b_PF_holds 47 = .ok (.getfield 84, 3) := by decide +kernel
theorem d_PF_holds_50 : decode b_PF_holds 50 = .ok (.iload 5, 2) := by decide +kernel
theorem d_PF_holds_52 : decode b_PF_holds 52 = .ok (.aaload, 1) := by decide +kernel
theorem d_PF_holds_53 : decode b_PF_holds 53 = .ok (.aload_n 0, 1) := by decide +kernel
theorem d_PF_holds_54 : decode b_PF_holds 54 = .ok (.getfield 44, 3) := by decide +kernel
theorem d_PF_holds_57 : decode b_PF_holds 57 = .ok (.invokevirtual 114, 3) := by decide +kernel
theorem d_PF_holds_60 : decode b_PF_holds 60 = .ok (.iinc 5 (-1), 3) := by decide +kernel
theorem d_PF_holds_63 : decode b_PF_holds 63 = .ok (.goto (-25), 3) := by decide +kernel
theorem d_PF_holds_66 : decode b_PF_holds 66 = .ok (.aload_n 0, 1) := by decide +kernel
theorem d_PF_holds_67 : decode b_PF_holds 67 = .ok (.getfield 58, 3) := by decide +kernel
theorem d_PF_holds_70 : decode b_PF_holds 70 = .ok (.getfield 118, 3) := by decide +kernel
theorem d_PF_holds_73 : decode b_PF_holds 73 = .ok (.ireturn, 1) := by decide +kernel
theorem fl_PF_58 : ab_fl "PolicyForge" 58 0 7 1 := ⟨rfl, R_PF, T_PF, 8, rfl, uw_PF, by decide, rfl, (ab_in 362 (by decide +kernel) (by decide +kernel))⟩
theorem ow_PF_107 : ab_own "PolicyForge" 107 109 "java/util/NoSuchElementException" ["java/lang/RuntimeException", "java/lang/Exception"] := ⟨⟨by decide +kernel, by decide +kernel⟩, List.forall_mem_cons.mpr ⟨(ab_in 722 (by decide +kernel) (by decide +kernel)), List.forall_mem_cons.mpr ⟨(ab_in 723 (by decide +kernel) (by decide +kernel)), List.forall_mem_cons.mpr ⟨(ab_in 111 (by decide +kernel) (by decide +kernel)), fun _ h => absurd h List.not_mem_nil⟩⟩⟩, by decide, by decide +kernel⟩
theorem fl_PF_44 : ab_fl "PolicyForge" 44 0 4 1 := ⟨rfl, R_PF, T_PF, 8, rfl, uw_PF, by decide, rfl, (ab_in 359 (by decide +kernel) (by decide +kernel))⟩
abbrev b_FA_set : ByteArray := prog_2_method_2_code
def y_FA_set : MethodName := ⟨"PolicyForge$Facts", "set", "(IIII)V"⟩
theorem lk_PF_110 : ab_lk "PolicyForge" 110 y_FA_set b_FA_set 5 none 4 6 := ⟨⟨rfl, T_FA, 4, rfl⟩, List.forall_mem_cons.mpr ⟨(ab_in 737 (by decide +kernel) (by decide +kernel)), List.forall_mem_cons.mpr ⟨(ab_in 738 (by decide +kernel) (by decide +kernel)), List.forall_mem_cons.mpr ⟨(ab_in 739 (by decide +kernel) (by decide +kernel)), List.forall_mem_cons.mpr ⟨(ab_in 98 (by decide +kernel) (by decide +kernel)), List.forall_mem_cons.mpr ⟨(ab_in 740 (by decide +kernel) (by decide +kernel)), fun _ h => absurd h List.not_mem_nil⟩⟩⟩⟩⟩, ⟨by decide +kernel, by decide +kernel, by decide +kernel⟩, by decide⟩
theorem fl_PF_81 : ab_fl "PolicyForge" 81 1 7 0 := ⟨rfl, R_RD, T_RD, 8, rfl, uw_RD, by decide, rfl, (ab_in 255 (by decide +kernel) (by decide +kernel))⟩
theorem fl_PF_84 : ab_fl "PolicyForge" 84 1 1 1 := ⟨rfl, R_RD, T_RD, 8, rfl, uw_RD, by decide, rfl, (ab_in 245 (by decide +kernel) (by decide +kernel))⟩
abbrev b_PT_weigh : ByteArray := prog_5_method_4_code
def y_PT_weigh : MethodName := ⟨"PolicyForge$Part", "weigh", "(LPolicyForge$Facts;)V"⟩
theorem lk_PF_114 : ab_lk "PolicyForge" 114 y_PT_weigh b_PT_weigh 4 none 1 2 := ⟨⟨rfl, T_PT, 8, rfl⟩, List.forall_mem_cons.mpr ⟨(ab_in 741 (by decide +kernel) (by decide +kernel)), List.forall_mem_cons.mpr ⟨(ab_in 742 (by decide +kernel) (by decide +kernel)), List.forall_mem_cons.mpr ⟨(ab_in 743 (by decide +kernel) (by decide +kernel)), List.forall_mem_cons.mpr ⟨(ab_in 94 (by decide +kernel) (by decide +kernel)), List.forall_mem_cons.mpr ⟨(ab_in 744 (by decide +kernel) (by decide +kernel)), fun _ h => absurd h List.not_mem_nil⟩⟩⟩⟩⟩, ⟨by decide +kernel, by decide +kernel, by decide +kernel⟩, by decide⟩
theorem fl_PF_118 : ab_fl "PolicyForge" 118 2 7 0 := ⟨rfl, R_PT, T_PT, 8, rfl, uw_PT, by decide, rfl, (ab_in 225 (by decide +kernel) (by decide +kernel))⟩
set_option maxRecDepth 100000 in
set_option maxHeartbeats 4000000 in
theorem c_PF_holds0 (hfl : ab_fl0 l) (u : ab_S) (a1 a2 a3 a4 : Int32) (h0 : 0 < N 0) (e7 : u.2.1 0 0 7 = none) : ab_CT l D ca y_PF_holds b_PF_holds 6 (some .boolean) 8 N u [ab_O 0 0, ab_I a1, ab_I a2, ab_I a3, ab_I a4] (fun _ _ => False) (fun u' E => u' = u ∧ E = ab_NSE) := by
  refine ab_CT.of (by decide) (Nat.le_of_ble_eq_true rfl) ?_
  intro p e s m args below meth c ad X hZ hW0 hnh hr0 hlk
  refine ab_aload_n X 0 d_PF_holds_0 rfl rfl ?_
  refine ab_gR X fl_PF_58 d_PF_holds_1 (by first | assumption | decide) (e7) ?_
  refine ab_ifnonnull X 15 d_PF_holds_4 rfl (fun hb => absurd (rfl) hb) (fun _ => ?_)
  exact ab_throw (cells := 0) (slots := 0) X hfl hZ hW0 hnh hlk ow_PF_107 d_PF_holds_7 d_PF_holds_10 d_PF_holds_11 d_PF_holds_14 ⟨Nat.le_of_ble_eq_true rfl, Nat.le_of_ble_eq_true rfl⟩ ⟨Nat.le_of_ble_eq_true rfl, Nat.le_of_ble_eq_true rfl⟩ ⟨rfl, rfl⟩
abbrev b_PF_size : ByteArray := prog_1_method_7_code
def y_PF_size : MethodName := ⟨"PolicyForge", "size", "(I)I"⟩
theorem d_PF_size_0 : decode b_PF_size 0 = .ok (.aload_n 0, 1) := by decide +kernel
theorem d_PF_size_1 : decode b_PF_size 1 = .ok (.getfield 58, 3) := by decide +kernel
theorem d_PF_size_4 : decode b_PF_size 4 = .ok (.ifnonnull 11, 3) := by decide +kernel
theorem d_PF_size_7 : decode b_PF_size 7 = .ok (.new 107, 3) := by decide +kernel
theorem d_PF_size_10 : decode b_PF_size 10 = .ok (.dup, 1) := by decide +kernel
theorem d_PF_size_11 : decode b_PF_size 11 = .ok (.invokespecial 109, 3) := by decide +kernel
theorem d_PF_size_14 : decode b_PF_size 14 = .ok (.athrow, 1) := by decide +kernel
theorem d_PF_size_15 : decode b_PF_size 15 = .ok (.iload_n 1, 1) := by decide +kernel
theorem d_PF_size_16 : decode b_PF_size 16 = .ok (.tableswitch 130 0 7 #[48, 56, 67, 78, 89, 100, 111, 122], 48) := by decide +kernel
theorem d_PF_size_64 : decode b_PF_size 64 = .ok (.aload_n 0, 1) := by decide +kernel
theorem d_PF_size_65 : decode b_PF_size 65 = .ok (.getfield 12, 3) := by decide +kernel
theorem d_PF_size_68 : decode b_PF_size 68 = .ok (.getfield 129, 3) := by decide +kernel
theorem d_PF_size_71 : decode b_PF_size 71 = .ok (.ireturn, 1) := by decide +kernel
theorem d_PF_size_72 : decode b_PF_size 72 = .ok (.aload_n 0, 1) := by decide +kernel
theorem d_PF_size_73 : decode b_PF_size 73 = .ok (.getfield 58, 3) := by decide +kernel
theorem d_PF_size_76 : decode b_PF_size 76 = .ok (.getfield 94, 3) := by decide +kernel
theorem d_PF_size_79 : decode b_PF_size 79 = .ok (.getfield 132, 3) := by decide +kernel
theorem d_PF_size_82 : decode b_PF_size 82 = .ok (.ireturn, 1) := by decide +kernel
theorem d_PF_size_83 : decode b_PF_size 83 = .ok (.aload_n 0, 1) := by decide +kernel
theorem d_PF_size_84 : decode b_PF_size 84 = .ok (.getfield 58, 3) := by decide +kernel
theorem d_PF_size_87 : decode b_PF_size 87 = .ok (.getfield 134, 3) := by decide +kernel
theorem d_PF_size_90 : decode b_PF_size 90 = .ok (.getfield 132, 3) := by decide +kernel
theorem d_PF_size_93 : decode b_PF_size 93 = .ok (.ireturn, 1) := by decide +kernel
theorem d_PF_size_94 : decode b_PF_size 94 = .ok (.aload_n 0, 1) := by decide +kernel
theorem d_PF_size_95 : decode b_PF_size 95 = .ok (.getfield 58, 3) := by decide +kernel
theorem d_PF_size_98 : decode b_PF_size 98 = .ok (.getfield 137, 3) := by decide +kernel
theorem d_PF_size_101 : decode b_PF_size 101 = .ok (.getfield 132, 3) := by decide +kernel
theorem d_PF_size_104 : decode b_PF_size 104 = .ok (.ireturn, 1) := by decide +kernel
theorem d_PF_size_105 : decode b_PF_size 105 = .ok (.aload_n 0, 1) := by decide +kernel
theorem d_PF_size_106 : decode b_PF_size 106 = .ok (.getfield 58, 3) := by decide +kernel
theorem d_PF_size_109 : decode b_PF_size 109 = .ok (.getfield 94, 3) := by decide +kernel
theorem d_PF_size_112 : decode b_PF_size 112 = .ok (.getfield 140, 3) := by decide +kernel
theorem d_PF_size_115 : decode b_PF_size 115 = .ok (.ireturn, 1) := by decide +kernel
theorem d_PF_size_116 : decode b_PF_size 116 = .ok (.aload_n 0, 1) := by decide +kernel
theorem d_PF_size_117 : decode b_PF_size 117 = .ok (.getfield 58, 3) := by decide +kernel
theorem d_PF_size_120 : decode b_PF_size 120 = .ok (.getfield 134, 3) := by decide +kernel
theorem d_PF_size_123 : decode b_PF_size 123 = .ok (.getfield 140, 3) := by decide +kernel
theorem d_PF_size_126 : decode b_PF_size 126 = .ok (.ireturn, 1) := by decide +kernel
theorem d_PF_size_127 : decode b_PF_size 127 = .ok (.aload_n 0, 1) := by decide +kernel
theorem d_PF_size_128 : decode b_PF_size 128 = .ok (.getfield 58, 3) := by decide +kernel
theorem d_PF_size_131 : decode b_PF_size 131 = .ok (.getfield 137, 3) := by decide +kernel
theorem d_PF_size_134 : decode b_PF_size 134 = .ok (.getfield 140, 3) := by decide +kernel
theorem d_PF_size_137 : decode b_PF_size 137 = .ok (.ireturn, 1) := by decide +kernel
theorem d_PF_size_138 : decode b_PF_size 138 = .ok (.aload_n 0, 1) := by decide +kernel
theorem d_PF_size_139 : decode b_PF_size 139 = .ok (.getfield 12, 3) := by decide +kernel
theorem d_PF_size_142 : decode b_PF_size 142 = .ok (.getfield 81, 3) := by decide +kernel
theorem d_PF_size_145 : decode b_PF_size 145 = .ok (.ireturn, 1) := by decide +kernel
theorem d_PF_size_146 : decode b_PF_size 146 = .ok (.new 78, 3) := by decide +kernel
theorem d_PF_size_149 : decode b_PF_size 149 = .ok (.dup, 1) := by decide +kernel
theorem d_PF_size_150 : decode b_PF_size 150 = .ok (.invokespecial 80, 3) := by decide +kernel
theorem d_PF_size_153 : decode b_PF_size 153 = .ok (.athrow, 1) := by decide +kernel
theorem fl_PF_129 : ab_fl "PolicyForge" 129 1 6 0 := ⟨rfl, R_RD, T_RD, 8, rfl, uw_RD, by decide, rfl, (ab_in 253 (by decide +kernel) (by decide +kernel))⟩
theorem fl_PF_94 : ab_fl "PolicyForge" 94 2 1 1 := ⟨rfl, R_PT, T_PT, 8, rfl, uw_PT, by decide, rfl, (ab_in 214 (by decide +kernel) (by decide +kernel))⟩
theorem fl_PF_132 : ab_fl "PolicyForge" 132 3 8 0 := ⟨rfl, R_FM, T_FM, 10, rfl, uw_FM, by decide, rfl, (ab_in 188 (by decide +kernel) (by decide +kernel))⟩
theorem fl_PF_134 : ab_fl "PolicyForge" 134 2 2 1 := ⟨rfl, R_PT, T_PT, 8, rfl, uw_PT, by decide, rfl, (ab_in 216 (by decide +kernel) (by decide +kernel))⟩
theorem fl_PF_137 : ab_fl "PolicyForge" 137 2 3 1 := ⟨rfl, R_PT, T_PT, 8, rfl, uw_PT, by decide, rfl, (ab_in 218 (by decide +kernel) (by decide +kernel))⟩
theorem fl_PF_140 : ab_fl "PolicyForge" 140 3 9 0 := ⟨rfl, R_FM, T_FM, 10, rfl, uw_FM, by decide, rfl, (ab_in 190 (by decide +kernel) (by decide +kernel))⟩
theorem ow_PF_78 : ab_own "PolicyForge" 78 80 "java/lang/IllegalArgumentException" ["java/lang/RuntimeException", "java/lang/Exception"] := ⟨⟨by decide +kernel, by decide +kernel⟩, List.forall_mem_cons.mpr ⟨(ab_in 534 (by decide +kernel) (by decide +kernel)), List.forall_mem_cons.mpr ⟨(ab_in 535 (by decide +kernel) (by decide +kernel)), List.forall_mem_cons.mpr ⟨(ab_in 109 (by decide +kernel) (by decide +kernel)), fun _ h => absurd h List.not_mem_nil⟩⟩⟩, by decide, by decide +kernel⟩
set_option maxRecDepth 100000 in
set_option maxHeartbeats 4000000 in
theorem c_PF_size0 (hfl : ab_fl0 l) (u : ab_S) (a1 : Int32) (h0 : 0 < N 0) (e7 : u.2.1 0 0 7 = none) : ab_CT l D ca y_PF_size b_PF_size 2 (some .int) 8 N u [ab_O 0 0, ab_I a1] (fun _ _ => False) (fun u' E => u' = u ∧ E = ab_NSE) := by
  refine ab_CT.of (by decide) (Nat.le_of_ble_eq_true rfl) ?_
  intro p e s m args below meth c ad X hZ hW0 hnh hr0 hlk
  refine ab_aload_n X 0 d_PF_size_0 rfl rfl ?_
  refine ab_gR X fl_PF_58 d_PF_size_1 (by first | assumption | decide) (e7) ?_
  refine ab_ifnonnull X 15 d_PF_size_4 rfl (fun hb => absurd (rfl) hb) (fun _ => ?_)
  exact ab_throw (cells := 0) (slots := 0) X hfl hZ hW0 hnh hlk ow_PF_107 d_PF_size_7 d_PF_size_10 d_PF_size_11 d_PF_size_14 ⟨Nat.le_of_ble_eq_true rfl, Nat.le_of_ble_eq_true rfl⟩ ⟨Nat.le_of_ble_eq_true rfl, Nat.le_of_ble_eq_true rfl⟩ ⟨rfl, rfl⟩
abbrev b_PF_satisfy : ByteArray := prog_1_method_8_code
def y_PF_satisfy : MethodName := ⟨"PolicyForge", "satisfy", "(IIII)I"⟩
theorem d_PF_satisfy_0 : decode b_PF_satisfy 0 = .ok (.aload_n 0, 1) := by decide +kernel
theorem d_PF_satisfy_1 : decode b_PF_satisfy 1 = .ok (.getfield 58, 3) := by decide +kernel
theorem d_PF_satisfy_4 : decode b_PF_satisfy 4 = .ok (.ifnonnull 11, 3) := by decide +kernel
theorem d_PF_satisfy_7 : decode b_PF_satisfy 7 = .ok (.new 107, 3) := by decide +kernel
theorem d_PF_satisfy_10 : decode b_PF_satisfy 10 = .ok (.dup, 1) := by decide +kernel
theorem d_PF_satisfy_11 : decode b_PF_satisfy 11 = .ok (.invokespecial 109, 3) := by decide +kernel
theorem d_PF_satisfy_14 : decode b_PF_satisfy 14 = .ok (.athrow, 1) := by decide +kernel
theorem d_PF_satisfy_15 : decode b_PF_satisfy 15 = .ok (.aload_n 0, 1) := by decide +kernel
theorem d_PF_satisfy_16 : decode b_PF_satisfy 16 = .ok (.getfield 44, 3) := by decide +kernel
theorem d_PF_satisfy_19 : decode b_PF_satisfy 19 = .ok (.iload_n 1, 1) := by decide +kernel
theorem d_PF_satisfy_20 : decode b_PF_satisfy 20 = .ok (.iload_n 2, 1) := by decide +kernel
theorem d_PF_satisfy_21 : decode b_PF_satisfy 21 = .ok (.iload_n 3, 1) := by decide +kernel
theorem d_PF_satisfy_22 : decode b_PF_satisfy 22 = .ok (.iload 4, 2) := by decide +kernel
theorem d_PF_satisfy_24 : decode b_PF_satisfy 24 = .ok (.invokevirtual 110, 3) := by decide +kernel
theorem d_PF_satisfy_27 : decode b_PF_satisfy 27 = .ok (.iconst 0, 1) := by decide +kernel
theorem d_PF_satisfy_28 : decode b_PF_satisfy 28 = .ok (.istore 5, 2) := by decide +kernel
theorem d_PF_satisfy_30 : decode b_PF_satisfy 30 = .ok (.iload 5, 2) := by decide +kernel
theorem d_PF_satisfy_32 : decode b_PF_satisfy 32 = .ok (.aload_n 0, 1) := by decide +kernel
theorem d_PF_satisfy_33 : decode b_PF_satisfy 33 = .ok (.getfield 37, 3) := by decide +kernel
theorem d_PF_satisfy_36 : decode b_PF_satisfy 36 = .ok (.getfield 143, 3) := by decide +kernel
theorem d_PF_satisfy_39 : decode b_PF_satisfy 39 = .ok (.if_icmp .ge 30, 3) := by decide +kernel
theorem d_PF_satisfy_42 : decode b_PF_satisfy 42 = .ok (.aload_n 0, 1) := by decide +kernel
theorem d_PF_satisfy_43 : decode b_PF_satisfy 43 = .ok (.getfield 37, 3) := by decide +kernel
theorem d_PF_satisfy_46 : decode b_PF_satisfy 46 = .ok (.getfield 146, 3) := by decide +kernel
theorem d_PF_satisfy_49 : decode b_PF_satisfy 49 = .ok (.iload 5, 2) := by decide +kernel
theorem d_PF_satisfy_51 : decode b_PF_satisfy 51 = .ok (.aaload, 1) := by decide +kernel
theorem d_PF_satisfy_52 : decode b_PF_satisfy 52 = .ok (.aload_n 0, 1) := by decide +kernel
theorem d_PF_satisfy_53 : decode b_PF_satisfy 53 = .ok (.getfield 44, 3) := by decide +kernel
theorem d_PF_satisfy_56 : decode b_PF_satisfy 56 = .ok (.aload_n 0, 1) := by decide +kernel
theorem d_PF_satisfy_57 : decode b_PF_satisfy 57 = .ok (.getfield 30, 3) := by decide +kernel
theorem d_PF_satisfy_60 : decode b_PF_satisfy 60 = .ok (.invokevirtual 150, 3) := by decide +kernel
theorem d_PF_satisfy_63 : decode b_PF_satisfy 63 = .ok (.iinc 5 1, 3) := by decide +kernel
theorem d_PF_satisfy_66 : decode b_PF_satisfy 66 = .ok (.goto (-36), 3) := by decide +kernel
theorem d_PF_satisfy_69 : decode b_PF_satisfy 69 = .ok (.aload_n 0, 1) := by decide +kernel
theorem d_PF_satisfy_70 : decode b_PF_satisfy 70 = .ok (.getfield 58, 3) := by decide +kernel
theorem d_PF_satisfy_73 : decode b_PF_satisfy 73 = .ok (.getfield 94, 3) := by decide +kernel
theorem d_PF_satisfy_76 : decode b_PF_satisfy 76 = .ok (.getfield 154, 3) := by decide +kernel
theorem d_PF_satisfy_79 : decode b_PF_satisfy 79 = .ok (.astore 5, 2) := by decide +kernel
theorem d_PF_satisfy_81 : decode b_PF_satisfy 81 = .ok (.aload 5, 2) := by decide +kernel
theorem d_PF_satisfy_83 : decode b_PF_satisfy 83 = .ok (.getfield 157, 3) := by decide +kernel
theorem d_PF_satisfy_86 : decode b_PF_satisfy 86 = .ok (.ifCond .ne 5, 3) := by decide +kernel
theorem d_PF_satisfy_89 : decode b_PF_satisfy 89 = .ok (.iconst (-1), 1) := by decide +kernel
theorem d_PF_satisfy_90 : decode b_PF_satisfy 90 = .ok (.ireturn, 1) := by decide +kernel
theorem d_PF_satisfy_91 : decode b_PF_satisfy 91 = .ok (.aload_n 0, 1) := by decide +kernel
theorem d_PF_satisfy_92 : decode b_PF_satisfy 92 = .ok (.getfield 48, 3) := by decide +kernel
theorem d_PF_satisfy_95 : decode b_PF_satisfy 95 = .ok (.aload 5, 2) := by decide +kernel
theorem d_PF_satisfy_97 : decode b_PF_satisfy 97 = .ok (.invokevirtual 160, 3) := by decide +kernel
theorem d_PF_satisfy_100 : decode b_PF_satisfy 100 = .ok (.aload_n 0, 1) := by decide +kernel
theorem d_PF_satisfy_101 : decode b_PF_satisfy 101 = .ok (.getfield 48, 3) := by decide +kernel
theorem d_PF_satisfy_104 : decode b_PF_satisfy 104 = .ok (.getfield 164, 3) := by decide +kernel
theorem d_PF_satisfy_107 : decode b_PF_satisfy 107 = .ok (.ireturn, 1) := by decide +kernel
theorem fl_PF_37 : ab_fl "PolicyForge" 37 0 3 1 := ⟨rfl, R_PF, T_PF, 8, rfl, uw_PF, by decide, rfl, (ab_in 358 (by decide +kernel) (by decide +kernel))⟩
theorem fl_PF_143 : ab_fl "PolicyForge" 143 5 3 0 := ⟨rfl, R_SC, T_SC, 4, rfl, uw_SC, by decide, rfl, (ab_in 293 (by decide +kernel) (by decide +kernel))⟩
theorem fl_PF_146 : ab_fl "PolicyForge" 146 5 1 1 := ⟨rfl, R_SC, T_SC, 4, rfl, uw_SC, by decide, rfl, (ab_in 288 (by decide +kernel) (by decide +kernel))⟩
theorem fl_PF_30 : ab_fl "PolicyForge" 30 0 2 1 := ⟨rfl, R_PF, T_PF, 8, rfl, uw_PF, by decide, rfl, (ab_in 357 (by decide +kernel) (by decide +kernel))⟩
abbrev b_FM_lighten : ByteArray := prog_3_method_10_code
def y_FM_lighten : MethodName := ⟨"PolicyForge$Form", "lighten", "(LPolicyForge$Facts;LPolicyForge$Row;)V"⟩
theorem lk_PF_150 : ab_lk "PolicyForge" 150 y_FM_lighten b_FM_lighten 3 none 2 3 := ⟨⟨rfl, T_FM, 10, rfl⟩, List.forall_mem_cons.mpr ⟨(ab_in 786 (by decide +kernel) (by decide +kernel)), List.forall_mem_cons.mpr ⟨(ab_in 787 (by decide +kernel) (by decide +kernel)), List.forall_mem_cons.mpr ⟨(ab_in 788 (by decide +kernel) (by decide +kernel)), List.forall_mem_cons.mpr ⟨(ab_in 95 (by decide +kernel) (by decide +kernel)), List.forall_mem_cons.mpr ⟨(ab_in 789 (by decide +kernel) (by decide +kernel)), fun _ h => absurd h List.not_mem_nil⟩⟩⟩⟩⟩, ⟨by decide +kernel, by decide +kernel, by decide +kernel⟩, by decide⟩
theorem fl_PF_154 : ab_fl "PolicyForge" 154 3 3 1 := ⟨rfl, R_FM, T_FM, 10, rfl, uw_FM, by decide, rfl, (ab_in 177 (by decide +kernel) (by decide +kernel))⟩
theorem fl_PF_157 : ab_fl "PolicyForge" 157 4 3 0 := ⟨rfl, R_RW, T_RW, 4, rfl, uw_RW, by decide, rfl, (ab_in 160 (by decide +kernel) (by decide +kernel))⟩
abbrev b_RW_become : ByteArray := prog_7_method_5_code
def y_RW_become : MethodName := ⟨"PolicyForge$Row", "become", "(LPolicyForge$Row;)V"⟩
theorem lk_PF_160 : ab_lk "PolicyForge" 160 y_RW_become b_RW_become 2 none 1 4 := ⟨⟨rfl, T_RW, 4, rfl⟩, List.forall_mem_cons.mpr ⟨(ab_in 822 (by decide +kernel) (by decide +kernel)), List.forall_mem_cons.mpr ⟨(ab_in 808 (by decide +kernel) (by decide +kernel)), List.forall_mem_cons.mpr ⟨(ab_in 809 (by decide +kernel) (by decide +kernel)), List.forall_mem_cons.mpr ⟨(ab_in 96 (by decide +kernel) (by decide +kernel)), List.forall_mem_cons.mpr ⟨(ab_in 810 (by decide +kernel) (by decide +kernel)), fun _ h => absurd h List.not_mem_nil⟩⟩⟩⟩⟩, ⟨by decide +kernel, by decide +kernel, by decide +kernel⟩, by decide⟩
theorem fl_PF_164 : ab_fl "PolicyForge" 164 4 2 0 := ⟨rfl, R_RW, T_RW, 4, rfl, uw_RW, by decide, rfl, (ab_in 158 (by decide +kernel) (by decide +kernel))⟩
set_option maxRecDepth 100000 in
set_option maxHeartbeats 4000000 in
theorem c_PF_satisfy0 (hfl : ab_fl0 l) (u : ab_S) (a1 a2 a3 a4 : Int32) (h0 : 0 < N 0) (e7 : u.2.1 0 0 7 = none) : ab_CT l D ca y_PF_satisfy b_PF_satisfy 6 (some .int) 8 N u [ab_O 0 0, ab_I a1, ab_I a2, ab_I a3, ab_I a4] (fun _ _ => False) (fun u' E => u' = u ∧ E = ab_NSE) := by
  refine ab_CT.of (by decide) (Nat.le_of_ble_eq_true rfl) ?_
  intro p e s m args below meth c ad X hZ hW0 hnh hr0 hlk
  refine ab_aload_n X 0 d_PF_satisfy_0 rfl rfl ?_
  refine ab_gR X fl_PF_58 d_PF_satisfy_1 (by first | assumption | decide) (e7) ?_
  refine ab_ifnonnull X 15 d_PF_satisfy_4 rfl (fun hb => absurd (rfl) hb) (fun _ => ?_)
  exact ab_throw (cells := 0) (slots := 0) X hfl hZ hW0 hnh hlk ow_PF_107 d_PF_satisfy_7 d_PF_satisfy_10 d_PF_satisfy_11 d_PF_satisfy_14 ⟨Nat.le_of_ble_eq_true rfl, Nat.le_of_ble_eq_true rfl⟩ ⟨Nat.le_of_ble_eq_true rfl, Nat.le_of_ble_eq_true rfl⟩ ⟨rfl, rfl⟩
abbrev b_PF_check : ByteArray := prog_1_method_12_code
def y_PF_check : MethodName := ⟨"PolicyForge", "check", "(II)I"⟩
theorem d_PF_check_0 : decode b_PF_check 0 = .ok (.aload_n 0, 1) := by decide +kernel
theorem d_PF_check_1 : decode b_PF_check 1 = .ok (.getfield 58, 3) := by decide +kernel
theorem d_PF_check_4 : decode b_PF_check 4 = .ok (.ifnonnull 11, 3) := by decide +kernel
theorem d_PF_check_7 : decode b_PF_check 7 = .ok (.new 107, 3) := by decide +kernel
theorem d_PF_check_10 : decode b_PF_check 10 = .ok (.dup, 1) := by decide +kernel
theorem d_PF_check_11 : decode b_PF_check 11 = .ok (.invokespecial 109, 3) := by decide +kernel
theorem d_PF_check_14 : decode b_PF_check 14 = .ok (.athrow, 1) := by decide +kernel
theorem d_PF_check_15 : decode b_PF_check 15 = .ok (.aload_n 0, 1) := by decide +kernel
theorem d_PF_check_16 : decode b_PF_check 16 = .ok (.getfield 44, 3) := by decide +kernel
theorem d_PF_check_19 : decode b_PF_check 19 = .ok (.iconst 0, 1) := by decide +kernel
theorem d_PF_check_20 : decode b_PF_check 20 = .ok (.iconst 0, 1) := by decide +kernel
theorem d_PF_check_21 : decode b_PF_check 21 = .ok (.iload_n 1, 1) := by decide +kernel
theorem d_PF_check_22 : decode b_PF_check 22 = .ok (.iload_n 2, 1) := by decide +kernel
theorem d_PF_check_23 : decode b_PF_check 23 = .ok (.invokevirtual 110, 3) := by decide +kernel
theorem d_PF_check_26 : decode b_PF_check 26 = .ok (.aload_n 0, 1) := by decide +kernel
theorem d_PF_check_27 : decode b_PF_check 27 = .ok (.getfield 54, 3) := by decide +kernel
theorem d_PF_check_30 : decode b_PF_check 30 = .ok (.aload_n 0, 1) := by decide +kernel
theorem d_PF_check_31 : decode b_PF_check 31 = .ok (.getfield 37, 3) := by decide +kernel
theorem d_PF_check_34 : decode b_PF_check 34 = .ok (.aload_n 0, 1) := by decide +kernel
theorem d_PF_check_35 : decode b_PF_check 35 = .ok (.getfield 48, 3) := by decide +kernel
theorem d_PF_check_38 : decode b_PF_check 38 = .ok (.aload_n 0, 1) := by decide +kernel
theorem d_PF_check_39 : decode b_PF_check 39 = .ok (.getfield 44, 3) := by decide +kernel
theorem d_PF_check_42 : decode b_PF_check 42 = .ok (.invokevirtual 179, 3) := by decide +kernel
theorem d_PF_check_45 : decode b_PF_check 45 = .ok (.ireturn, 1) := by decide +kernel
abbrev b_MA_run : ByteArray := prog_4_method_2_code
def y_MA_run : MethodName := ⟨"PolicyForge$Machine", "run", "(LPolicyForge$Script;LPolicyForge$Row;LPolicyForge$Facts;)I"⟩
theorem lk_PF_179 : ab_lk "PolicyForge" 179 y_MA_run b_MA_run 5 (some FieldType.int) 3 7 := ⟨⟨rfl, T_MA, 7, rfl⟩, List.forall_mem_cons.mpr ⟨(ab_in 864 (by decide +kernel) (by decide +kernel)), List.forall_mem_cons.mpr ⟨(ab_in 865 (by decide +kernel) (by decide +kernel)), List.forall_mem_cons.mpr ⟨(ab_in 866 (by decide +kernel) (by decide +kernel)), List.forall_mem_cons.mpr ⟨(ab_in 99 (by decide +kernel) (by decide +kernel)), List.forall_mem_cons.mpr ⟨(ab_in 867 (by decide +kernel) (by decide +kernel)), fun _ h => absurd h List.not_mem_nil⟩⟩⟩⟩⟩, ⟨by decide +kernel, by decide +kernel, by decide +kernel⟩, by decide⟩
set_option maxRecDepth 100000 in
set_option maxHeartbeats 4000000 in
theorem c_PF_check0 (hfl : ab_fl0 l) (u : ab_S) (a1 a2 : Int32) (h0 : 0 < N 0) (e7 : u.2.1 0 0 7 = none) : ab_CT l D ca y_PF_check b_PF_check 3 (some .int) 8 N u [ab_O 0 0, ab_I a1, ab_I a2] (fun _ _ => False) (fun u' E => u' = u ∧ E = ab_NSE) := by
  refine ab_CT.of (by decide) (Nat.le_of_ble_eq_true rfl) ?_
  intro p e s m args below meth c ad X hZ hW0 hnh hr0 hlk
  refine ab_aload_n X 0 d_PF_check_0 rfl rfl ?_
  refine ab_gR X fl_PF_58 d_PF_check_1 (by first | assumption | decide) (e7) ?_
  refine ab_ifnonnull X 15 d_PF_check_4 rfl (fun hb => absurd (rfl) hb) (fun _ => ?_)
  exact ab_throw (cells := 0) (slots := 0) X hfl hZ hW0 hnh hlk ow_PF_107 d_PF_check_7 d_PF_check_10 d_PF_check_11 d_PF_check_14 ⟨Nat.le_of_ble_eq_true rfl, Nat.le_of_ble_eq_true rfl⟩ ⟨Nat.le_of_ble_eq_true rfl, Nat.le_of_ble_eq_true rfl⟩ ⟨rfl, rfl⟩
abbrev b_PF_item : ByteArray := prog_1_method_11_code
def y_PF_item : MethodName := ⟨"PolicyForge", "item", "(I)I"⟩
theorem d_PF_item_0 : decode b_PF_item 0 = .ok (.iload_n 1, 1) := by decide +kernel
theorem d_PF_item_1 : decode b_PF_item 1 = .ok (.ifCond .lt 14, 3) := by decide +kernel
theorem d_PF_item_4 : decode b_PF_item 4 = .ok (.iload_n 1, 1) := by decide +kernel
theorem d_PF_item_5 : decode b_PF_item 5 = .ok (.aload_n 0, 1) := by decide +kernel
theorem d_PF_item_6 : decode b_PF_item 6 = .ok (.getfield 48, 3) := by decide +kernel
theorem d_PF_item_9 : decode b_PF_item 9 = .ok (.getfield 169, 3) := by decide +kernel
theorem d_PF_item_12 : decode b_PF_item 12 = .ok (.if_icmp .lt 11, 3) := by decide +kernel
theorem d_PF_item_15 : decode b_PF_item 15 = .ok (.new 122, 3) := by decide +kernel
theorem d_PF_item_18 : decode b_PF_item 18 = .ok (.dup, 1) := by decide +kernel
theorem d_PF_item_19 : decode b_PF_item 19 = .ok (.invokespecial 124, 3) := by decide +kernel
theorem d_PF_item_22 : decode b_PF_item 22 = .ok (.athrow, 1) := by decide +kernel
theorem d_PF_item_23 : decode b_PF_item 23 = .ok (.aload_n 0, 1) := by decide +kernel
theorem d_PF_item_24 : decode b_PF_item 24 = .ok (.getfield 48, 3) := by decide +kernel
theorem d_PF_item_27 : decode b_PF_item 27 = .ok (.getfield 176, 3) := by decide +kernel
theorem d_PF_item_30 : decode b_PF_item 30 = .ok (.iload_n 1, 1) := by decide +kernel
theorem d_PF_item_31 : decode b_PF_item 31 = .ok (.iaload, 1) := by decide +kernel
theorem d_PF_item_32 : decode b_PF_item 32 = .ok (.ireturn, 1) := by decide +kernel
theorem fl_PF_169 : ab_fl "PolicyForge" 169 4 1 0 := ⟨rfl, R_RW, T_RW, 4, rfl, uw_RW, by decide, rfl, (ab_in 155 (by decide +kernel) (by decide +kernel))⟩
theorem ow_PF_122 : ab_own "PolicyForge" 122 124 "java/lang/IndexOutOfBoundsException" ["java/lang/RuntimeException", "java/lang/Exception"] := ⟨⟨by decide +kernel, by decide +kernel⟩, List.forall_mem_cons.mpr ⟨(ab_in 757 (by decide +kernel) (by decide +kernel)), List.forall_mem_cons.mpr ⟨(ab_in 758 (by decide +kernel) (by decide +kernel)), List.forall_mem_cons.mpr ⟨(ab_in 112 (by decide +kernel) (by decide +kernel)), fun _ h => absurd h List.not_mem_nil⟩⟩⟩, by decide, by decide +kernel⟩
theorem fl_PF_176 : ab_fl "PolicyForge" 176 4 0 1 := ⟨rfl, R_RW, T_RW, 4, rfl, uw_RW, by decide, rfl, (ab_in 152 (by decide +kernel) (by decide +kernel))⟩
set_option maxRecDepth 100000 in
set_option maxHeartbeats 4000000 in
theorem c_PF_item (hfl : ab_fl0 l) (u : ab_S) (x : Int32) (n : Nat) (h0 : 0 < N 0) (h4 : 123 < N 4) (h8 : 123 < N 8) (e5 : u.2.1 0 0 5 = some (4, 123)) (ei : u.2.1 4 123 0 = some (8, 123)) (en : u.1 4 123 1 = nI n) (hn : n ≤ 40) : ab_CT l D ca y_PF_item b_PF_item 2 (some .int) 8 N u [ab_O 0 0, ab_I x] (fun u' v => u' = u ∧ ∃ j, j < n ∧ x = nI j ∧ v = some (ab_I (u.1 8 123 j))) (fun u' E => u' = u ∧ E = ab_IOB ∧ (x < 0 ∨ nI n ≤ x)) := by
  refine ab_CT.of (by decide) (Nat.le_of_ble_eq_true rfl) ?_
  intro p e s m args below meth c ad X hZ hW0 hnh hr0 hlk
  have bad : (x < 0 ∨ nI n ≤ x) → ab_J p l e (ab_rm 8 1 6) s m args below meth c (ab_MQ below (ab_QT D ca ad N s.heap.size (fun u' v => u' = u ∧ ∃ j, j < n ∧ x = nI j ∧ v = some (ab_I (u.1 8 123 j))) (fun u' E => u' = u ∧ E = ab_IOB ∧ (x < 0 ∨ nI n ≤ x))) args s 1 6 (ab_A ad N s.heap.size)) D ca (ab_A ad N s.heap.size) s.heap 2 0 0 ad N u 15 [(0, ab_O 0 0), (1, ab_I x)] [] := fun hb =>
    ab_throw (cells := 0) (slots := 0) X hfl hZ hW0 hnh hlk ow_PF_122 d_PF_item_15 d_PF_item_18 d_PF_item_19 d_PF_item_22 ⟨Nat.le_of_ble_eq_true rfl, Nat.le_of_ble_eq_true rfl⟩ ⟨Nat.le_of_ble_eq_true rfl, Nat.le_of_ble_eq_true rfl⟩ ⟨rfl, rfl, hb⟩
  refine ab_iload_n X 1 d_PF_item_0 rfl rfl ?_
  refine ab_if_lt X 15 d_PF_item_1 rfl (fun h1 => ?_) (fun h1 => ?_)
  · exact bad (Or.inl h1)
  ·
    refine ab_iload_n X 1 d_PF_item_4 rfl rfl ?_
    refine ab_aload_n X 0 d_PF_item_5 rfl rfl ?_
    refine ab_gR X fl_PF_48 d_PF_item_6 (by first | assumption | decide) (e5) ?_
    refine ab_gI X fl_PF_169 d_PF_item_9 (by first | assumption | decide) (en) ?_
    refine ab_icmp_lt X 23 d_PF_item_12 rfl (fun h12 => ?_) (fun h12 => ?_)
    · obtain ⟨j, hj, rfl⟩ : ∃ j, j < n ∧ x = nI j := by
        rcases pk_ix x (n := n) (by omega) with h | h | h
        · exact absurd h h1
        · exact absurd h12 (Int32.not_lt.mpr h)
        · exact h
      refine ab_aload_n X 0 d_PF_item_23 rfl rfl ?_
      refine ab_gR X fl_PF_48 d_PF_item_24 (by first | assumption | decide) (e5) ?_
      refine ab_gR X fl_PF_176 d_PF_item_27 (by first | assumption | decide) (ei) ?_
      refine ab_iload_n X 1 d_PF_item_30 rfl rfl ?_
      refine ab_iald X (j) ⟨rfl, rfl⟩ d_PF_item_31 (by first | assumption | decide) (rfl) (show j < 40 by omega) (ab_ln_lt _ _) ?_
      exact ab_retTi X hr0 hlk d_PF_item_32 ⟨rfl, j, hj, rfl, rfl⟩
    · exact bad (Or.inr (Int32.not_lt.mp h12))
abbrev b_PF_word : ByteArray := prog_1_method_6_code
def y_PF_word : MethodName := ⟨"PolicyForge", "word", "(I)I"⟩
theorem d_PF_word_0 : decode b_PF_word 0 = .ok (.iload_n 1, 1) := by decide +kernel
theorem d_PF_word_1 : decode b_PF_word 1 = .ok (.ifCond .lt 14, 3) := by decide +kernel
theorem d_PF_word_4 : decode b_PF_word 4 = .ok (.iload_n 1, 1) := by decide +kernel
theorem d_PF_word_5 : decode b_PF_word 5 = .ok (.aload_n 0, 1) := by decide +kernel
theorem d_PF_word_6 : decode b_PF_word 6 = .ok (.getfield 37, 3) := by decide +kernel
theorem d_PF_word_9 : decode b_PF_word 9 = .ok (.getfield 101, 3) := by decide +kernel
theorem d_PF_word_12 : decode b_PF_word 12 = .ok (.if_icmp .lt 11, 3) := by decide +kernel
theorem d_PF_word_15 : decode b_PF_word 15 = .ok (.new 122, 3) := by decide +kernel
theorem d_PF_word_18 : decode b_PF_word 18 = .ok (.dup, 1) := by decide +kernel
theorem d_PF_word_19 : decode b_PF_word 19 = .ok (.invokespecial 124, 3) := by decide +kernel
theorem d_PF_word_22 : decode b_PF_word 22 = .ok (.athrow, 1) := by decide +kernel
theorem d_PF_word_23 : decode b_PF_word 23 = .ok (.aload_n 0, 1) := by decide +kernel
theorem d_PF_word_24 : decode b_PF_word 24 = .ok (.getfield 37, 3) := by decide +kernel
theorem d_PF_word_27 : decode b_PF_word 27 = .ok (.getfield 125, 3) := by decide +kernel
theorem d_PF_word_30 : decode b_PF_word 30 = .ok (.iload_n 1, 1) := by decide +kernel
theorem d_PF_word_31 : decode b_PF_word 31 = .ok (.iaload, 1) := by decide +kernel
theorem d_PF_word_32 : decode b_PF_word 32 = .ok (.ireturn, 1) := by decide +kernel
theorem fl_PF_101 : ab_fl "PolicyForge" 101 5 2 0 := ⟨rfl, R_SC, T_SC, 4, rfl, uw_SC, by decide, rfl, (ab_in 291 (by decide +kernel) (by decide +kernel))⟩
theorem fl_PF_125 : ab_fl "PolicyForge" 125 5 0 1 := ⟨rfl, R_SC, T_SC, 4, rfl, uw_SC, by decide, rfl, (ab_in 286 (by decide +kernel) (by decide +kernel))⟩
set_option maxRecDepth 100000 in
set_option maxHeartbeats 4000000 in
theorem c_PF_word (hfl : ab_fl0 l) (u : ab_S) (x : Int32) (n : Nat) (h0 : 0 < N 0) (h5 : 0 < N 5) (h13 : 0 < N 13) (e3 : u.2.1 0 0 3 = some (5, 0)) (ei : u.2.1 5 0 0 = some (13, 0)) (en : u.1 5 0 2 = nI n) (hn : n ≤ 128) : ab_CT l D ca y_PF_word b_PF_word 2 (some .int) 8 N u [ab_O 0 0, ab_I x] (fun u' v => u' = u ∧ ∃ j, j < n ∧ x = nI j ∧ v = some (ab_I (u.1 13 0 j))) (fun u' E => u' = u ∧ E = ab_IOB ∧ (x < 0 ∨ nI n ≤ x)) := by
  refine ab_CT.of (by decide) (Nat.le_of_ble_eq_true rfl) ?_
  intro p e s m args below meth c ad X hZ hW0 hnh hr0 hlk
  have bad : (x < 0 ∨ nI n ≤ x) → ab_J p l e (ab_rm 8 1 6) s m args below meth c (ab_MQ below (ab_QT D ca ad N s.heap.size (fun u' v => u' = u ∧ ∃ j, j < n ∧ x = nI j ∧ v = some (ab_I (u.1 13 0 j))) (fun u' E => u' = u ∧ E = ab_IOB ∧ (x < 0 ∨ nI n ≤ x))) args s 1 6 (ab_A ad N s.heap.size)) D ca (ab_A ad N s.heap.size) s.heap 2 0 0 ad N u 15 [(0, ab_O 0 0), (1, ab_I x)] [] := fun hb =>
    ab_throw (cells := 0) (slots := 0) X hfl hZ hW0 hnh hlk ow_PF_122 d_PF_word_15 d_PF_word_18 d_PF_word_19 d_PF_word_22 ⟨Nat.le_of_ble_eq_true rfl, Nat.le_of_ble_eq_true rfl⟩ ⟨Nat.le_of_ble_eq_true rfl, Nat.le_of_ble_eq_true rfl⟩ ⟨rfl, rfl, hb⟩
  refine ab_iload_n X 1 d_PF_word_0 rfl rfl ?_
  refine ab_if_lt X 15 d_PF_word_1 rfl (fun h1 => ?_) (fun h1 => ?_)
  · exact bad (Or.inl h1)
  ·
    refine ab_iload_n X 1 d_PF_word_4 rfl rfl ?_
    refine ab_aload_n X 0 d_PF_word_5 rfl rfl ?_
    refine ab_gR X fl_PF_37 d_PF_word_6 (by first | assumption | decide) (e3) ?_
    refine ab_gI X fl_PF_101 d_PF_word_9 (by first | assumption | decide) (en) ?_
    refine ab_icmp_lt X 23 d_PF_word_12 rfl (fun h12 => ?_) (fun h12 => ?_)
    · obtain ⟨j, hj, rfl⟩ : ∃ j, j < n ∧ x = nI j := by
        rcases pk_ix x (n := n) (by omega) with h | h | h
        · exact absurd h h1
        · exact absurd h12 (Int32.not_lt.mpr h)
        · exact h
      refine ab_aload_n X 0 d_PF_word_23 rfl rfl ?_
      refine ab_gR X fl_PF_37 d_PF_word_24 (by first | assumption | decide) (e3) ?_
      refine ab_gR X fl_PF_125 d_PF_word_27 (by first | assumption | decide) (ei) ?_
      refine ab_iload_n X 1 d_PF_word_30 rfl rfl ?_
      refine ab_iald X (j) ⟨rfl, rfl⟩ d_PF_word_31 (by first | assumption | decide) (rfl) (show j < 128 by omega) (ab_ln_lt _ _) ?_
      exact ab_retTi X hr0 hlk d_PF_word_32 ⟨rfl, j, hj, rfl, rfl⟩
    · exact bad (Or.inr (Int32.not_lt.mp h12))
abbrev b_PF_put : ByteArray := prog_1_method_9_code
def y_PF_put : MethodName := ⟨"PolicyForge", "put", "(I)I"⟩
theorem d_PF_put_0 : decode b_PF_put 0 = .ok (.iload_n 1, 1) := by decide +kernel
theorem d_PF_put_1 : decode b_PF_put 1 = .ok (.invokestatic 165, 3) := by decide +kernel
theorem d_PF_put_4 : decode b_PF_put 4 = .ok (.ifCond .ne 11, 3) := by decide +kernel
theorem d_PF_put_7 : decode b_PF_put 7 = .ok (.new 78, 3) := by decide +kernel
theorem d_PF_put_10 : decode b_PF_put 10 = .ok (.dup, 1) := by decide +kernel
theorem d_PF_put_11 : decode b_PF_put 11 = .ok (.invokespecial 80, 3) := by decide +kernel
theorem d_PF_put_14 : decode b_PF_put 14 = .ok (.athrow, 1) := by decide +kernel
theorem d_PF_put_15 : decode b_PF_put 15 = .ok (.aload_n 0, 1) := by decide +kernel
theorem d_PF_put_16 : decode b_PF_put 16 = .ok (.getfield 48, 3) := by decide +kernel
theorem d_PF_put_19 : decode b_PF_put 19 = .ok (.getfield 169, 3) := by decide +kernel
theorem d_PF_put_22 : decode b_PF_put 22 = .ok (.bipush 24, 2) := by decide +kernel
theorem d_PF_put_24 : decode b_PF_put 24 = .ok (.if_icmp .lt 11, 3) := by decide +kernel
theorem d_PF_put_27 : decode b_PF_put 27 = .ok (.new 170, 3) := by decide +kernel
theorem d_PF_put_30 : decode b_PF_put 30 = .ok (.dup, 1) := by decide +kernel
theorem d_PF_put_31 : decode b_PF_put 31 = .ok (.invokespecial 172, 3) := by decide +kernel
theorem d_PF_put_34 : decode b_PF_put 34 = .ok (.athrow, 1) := by decide +kernel
theorem d_PF_put_35 : decode b_PF_put 35 = .ok (.aload_n 0, 1) := by decide +kernel
theorem d_PF_put_36 : decode b_PF_put 36 = .ok (.getfield 48, 3) := by decide +kernel
theorem d_PF_put_39 : decode b_PF_put 39 = .ok (.iload_n 1, 1) := by decide +kernel
theorem d_PF_put_40 : decode b_PF_put 40 = .ok (.invokevirtual 173, 3) := by decide +kernel
theorem d_PF_put_43 : decode b_PF_put 43 = .ok (.aload_n 0, 1) := by decide +kernel
theorem d_PF_put_44 : decode b_PF_put 44 = .ok (.getfield 48, 3) := by decide +kernel
theorem d_PF_put_47 : decode b_PF_put 47 = .ok (.getfield 169, 3) := by decide +kernel
theorem d_PF_put_50 : decode b_PF_put 50 = .ok (.ireturn, 1) := by decide +kernel
theorem ls_PF_165 : ab_ls "PolicyForge" 165 y_PF_isItem b_PF_isItem 1 (some FieldType.boolean) 1 := ⟨List.forall_mem_cons.mpr ⟨(ab_in 831 (by decide +kernel) (by decide +kernel)), List.forall_mem_cons.mpr ⟨(ab_in 832 (by decide +kernel) (by decide +kernel)), List.forall_mem_cons.mpr ⟨(ab_in 92 (by decide +kernel) (by decide +kernel)), List.forall_mem_cons.mpr ⟨(ab_in 833 (by decide +kernel) (by decide +kernel)), fun _ h => absurd h List.not_mem_nil⟩⟩⟩⟩, ⟨by decide +kernel, by decide +kernel, by decide +kernel⟩, by decide⟩
theorem ow_PF_170 : ab_own "PolicyForge" 170 172 "java/lang/IllegalStateException" ["java/lang/RuntimeException", "java/lang/Exception"] := ⟨⟨by decide +kernel, by decide +kernel⟩, List.forall_mem_cons.mpr ⟨(ab_in 834 (by decide +kernel) (by decide +kernel)), List.forall_mem_cons.mpr ⟨(ab_in 835 (by decide +kernel) (by decide +kernel)), List.forall_mem_cons.mpr ⟨(ab_in 113 (by decide +kernel) (by decide +kernel)), fun _ h => absurd h List.not_mem_nil⟩⟩⟩, by decide, by decide +kernel⟩
theorem lk_PF_173 : ab_lk "PolicyForge" 173 y_RW_add b_RW_add 2 none 1 4 := ⟨⟨rfl, T_RW, 4, rfl⟩, List.forall_mem_cons.mpr ⟨(ab_in 849 (by decide +kernel) (by decide +kernel)), List.forall_mem_cons.mpr ⟨(ab_in 669 (by decide +kernel) (by decide +kernel)), List.forall_mem_cons.mpr ⟨(ab_in 670 (by decide +kernel) (by decide +kernel)), List.forall_mem_cons.mpr ⟨(ab_in 96 (by decide +kernel) (by decide +kernel)), List.forall_mem_cons.mpr ⟨(ab_in 671 (by decide +kernel) (by decide +kernel)), fun _ h => absurd h List.not_mem_nil⟩⟩⟩⟩⟩, ⟨by decide +kernel, by decide +kernel, by decide +kernel⟩, by decide⟩
set_option maxRecDepth 100000 in
set_option maxHeartbeats 4000000 in
theorem c_PF_put (hfl : ab_fl0 l) (u : ab_S) (x : Int32) (n : Nat) (h0 : 0 < N 0) (h4 : 123 < N 4) (h8 : 123 < N 8) (e5 : u.2.1 0 0 5 = some (4, 123)) (ei : u.2.1 4 123 0 = some (8, 123)) (en : u.1 4 123 1 = nI n) (hn : n ≤ 40) : ab_CT l D ca y_PF_put b_PF_put 2 (some .int) 8 N u [ab_O 0 0, ab_I x] (fun u' v => ab_item x ∧ n < 24 ∧ u' = ab_ui (ab_ui (ab_ui u 8 123 n x) 4 123 1 (nI (n + 1))) 4 123 2 (u.1 4 123 2 + (if 20 ≤ x then 5 else if 10 ≤ x then 9 else 1)) ∧ v = some (ab_I (nI (n + 1)))) (fun u' E => u' = u ∧ ((E = ab_IAE ∧ ¬ ab_item x) ∨ (E = ab_ISE ∧ ab_item x ∧ 24 ≤ n))) := by
  refine ab_CT.of (by decide) (Nat.le_of_ble_eq_true rfl) ?_
  intro p e s m args below meth c ad X hZ hW0 hnh hr0 hlk
  refine ab_iload_n X 1 d_PF_put_0 rfl rfl ?_
  refine ab_callS (as := [ab_I x]) X (fun h => by cases h) (c_PF_isItem u x) ls_PF_165 d_PF_put_1 rfl rfl ⟨by first | exact Nat.le_of_ble_eq_true rfl | (simp only [ab_rm]; omega), by first | exact Nat.le_of_ble_eq_true rfl | (simp only [ab_rm]; omega)⟩ ⟨by first | exact Nat.le_of_ble_eq_true rfl | (simp only [ab_rm]; omega), by first | exact Nat.le_of_ble_eq_true rfl | (simp only [ab_rm]; omega)⟩ (Nat.le_of_ble_eq_true rfl) (fun u1 r1 h1 => ?_)
  obtain ⟨e1, hv⟩ := h1
  obtain rfl := e1.symm
  rcases hv with ⟨hi, rfl⟩ | ⟨hi, rfl⟩
  ·
    refine ab_if_ne X 15 d_PF_put_4 rfl (fun _ => ?_) (fun hb => absurd hb ((by decide)))
    by_cases h24 : n < 24
    ·
      refine ab_aload_n X 0 d_PF_put_15 rfl rfl ?_
      refine ab_gR X fl_PF_48 d_PF_put_16 (by first | assumption | decide) (e5) ?_
      refine ab_gI X fl_PF_169 d_PF_put_19 (by first | assumption | decide) (en) ?_
      refine ab_bipush (v := 24) X d_PF_put_22 (by decide) ?_
      refine ab_icmp_lt X 35 d_PF_put_24 rfl (fun _ => ?_) (fun hb => absurd ((show nI n < 24 from nI_lt (b := 24) h24 (by decide))) hb)
      refine ab_aload_n X 0 d_PF_put_35 rfl rfl ?_
      refine ab_gR X fl_PF_48 d_PF_put_36 (by first | assumption | decide) (e5) ?_
      refine ab_iload_n X 1 d_PF_put_39 rfl rfl ?_
      refine ab_callV (as := [ab_I x]) X (fun h => by cases h) (c_RW_add u 123 n x h4 h8 ei en (show n < 40 by omega)) lk_PF_173 d_PF_put_40 rfl rfl (by first | assumption | decide) ⟨by first | exact Nat.le_of_ble_eq_true rfl | (simp only [ab_rm]; omega), by first | exact Nat.le_of_ble_eq_true rfl | (simp only [ab_rm]; omega)⟩ ⟨by first | exact Nat.le_of_ble_eq_true rfl | (simp only [ab_rm]; omega), by first | exact Nat.le_of_ble_eq_true rfl | (simp only [ab_rm]; omega)⟩ (Nat.le_of_ble_eq_true rfl) (fun u40 r40 h40 => ?_)
      obtain ⟨rfl, rfl⟩ := h40
      refine ab_aload_n X 0 d_PF_put_43 rfl rfl ?_
      refine ab_gR X fl_PF_48 d_PF_put_44 (by first | assumption | decide) (e5) ?_
      refine ab_gI X fl_PF_169 d_PF_put_47 (by first | assumption | decide) (show _ = nI (n + 1) by simp [ab_up]) ?_
      exact ab_retTi X hr0 hlk d_PF_put_50 ⟨hi, h24, rfl, rfl⟩
    ·
      refine ab_aload_n X 0 d_PF_put_15 rfl rfl ?_
      refine ab_gR X fl_PF_48 d_PF_put_16 (by first | assumption | decide) (e5) ?_
      refine ab_gI X fl_PF_169 d_PF_put_19 (by first | assumption | decide) (en) ?_
      refine ab_bipush (v := 24) X d_PF_put_22 (by decide) ?_
      refine ab_icmp_lt X 35 d_PF_put_24 rfl (fun hb => absurd hb ((show ¬ nI n < 24 from nI_nlt (b := 24) (by omega) (by omega)))) (fun _ => ?_)
      exact ab_throw (cells := 0) (slots := 0) X hfl hZ hW0 hnh hlk ow_PF_170 d_PF_put_27 d_PF_put_30 d_PF_put_31 d_PF_put_34 ⟨Nat.le_of_ble_eq_true rfl, Nat.le_of_ble_eq_true rfl⟩ ⟨Nat.le_of_ble_eq_true rfl, Nat.le_of_ble_eq_true rfl⟩ ⟨rfl, Or.inr ⟨rfl, hi, by omega⟩⟩
  ·
    refine ab_if_ne X 15 d_PF_put_4 rfl (fun hb => absurd (rfl) hb) (fun _ => ?_)
    exact ab_throw (cells := 0) (slots := 0) X hfl hZ hW0 hnh hlk ow_PF_78 d_PF_put_7 d_PF_put_10 d_PF_put_11 d_PF_put_14 ⟨Nat.le_of_ble_eq_true rfl, Nat.le_of_ble_eq_true rfl⟩ ⟨Nat.le_of_ble_eq_true rfl, Nat.le_of_ble_eq_true rfl⟩ ⟨rfl, Or.inl ⟨rfl, hi⟩⟩
end AbThrows

