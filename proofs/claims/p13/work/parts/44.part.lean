/-! Parts: every call comes to its end. -/
section SaPart
variable {l : Launch} {D : va_G} {ca : Nat → ClassId}
abbrev b_PF_isLeaf : ByteArray := prog_1_method_15_code
def y_PF_isLeaf : MethodName := ⟨"PolicyForge", "isLeaf", "(I)Z"⟩
theorem d_PF_isLeaf_0 : decode b_PF_isLeaf 0 = .ok (.iload_n 0, 1) := by decide +kernel
theorem d_PF_isLeaf_1 : decode b_PF_isLeaf 1 = .ok (.iconst 1, 1) := by decide +kernel
theorem d_PF_isLeaf_2 : decode b_PF_isLeaf 2 = .ok (.if_icmp .lt 12, 3) := by decide +kernel
theorem d_PF_isLeaf_5 : decode b_PF_isLeaf 5 = .ok (.iload_n 0, 1) := by decide +kernel
theorem d_PF_isLeaf_6 : decode b_PF_isLeaf 6 = .ok (.iconst 4, 1) := by decide +kernel
theorem d_PF_isLeaf_7 : decode b_PF_isLeaf 7 = .ok (.if_icmp .gt 7, 3) := by decide +kernel
theorem d_PF_isLeaf_10 : decode b_PF_isLeaf 10 = .ok (.iconst 1, 1) := by decide +kernel
theorem d_PF_isLeaf_11 : decode b_PF_isLeaf 11 = .ok (.goto 4, 3) := by decide +kernel
theorem d_PF_isLeaf_14 : decode b_PF_isLeaf 14 = .ok (.iconst 0, 1) := by decide +kernel
theorem d_PF_isLeaf_15 : decode b_PF_isLeaf 15 = .ok (.ireturn, 1) := by decide +kernel
set_option maxRecDepth 100000 in
set_option maxHeartbeats 1000000 in
theorem t_PF_isLeaf (u : ab_S) (a : Int32) (h : CI u) : ab_C false l D ca y_PF_isLeaf b_PF_isLeaf 1 (some FieldType.boolean) 0 ab_nQ u [ab_I a] (fun u' v => u' = u ∧ ∃ b : Int32, (b = 0 ∨ b = 1) ∧ v = some (ab_I b)) := by
  refine ab_C.of (by decide) (Nat.le_of_ble_eq_true rfl) ?_
  intro p e s m args below meth c ad X hZ hr0 hlk
  have P0 : cP [] u u := cQ.rf h
  refine ab_iload_n X 0 d_PF_isLeaf_0 rfl rfl ?_
  refine ab_iconst (v := 1) X d_PF_isLeaf_1 (by decide) ?_
  refine ab_icmp_lt X 14 d_PF_isLeaf_2 rfl (fun h2 => ?_) (fun h2 => ?_)
  ·
    refine ab_iconst (v := 0) X d_PF_isLeaf_14 (by decide) ?_
    exact ab_retz X hr0 hlk (by first | exact Or.inl rfl | exact Or.inr rfl) d_PF_isLeaf_15 ⟨rfl, _, by first | exact Or.inl rfl | exact Or.inr rfl, rfl⟩
  ·
    refine ab_iload_n X 0 d_PF_isLeaf_5 rfl rfl ?_
    refine ab_iconst (v := 4) X d_PF_isLeaf_6 (by decide) ?_
    refine ab_icmp_gt X 14 d_PF_isLeaf_7 rfl (fun h7 => ?_) (fun h7 => ?_)
    ·
      refine ab_iconst (v := 0) X d_PF_isLeaf_14 (by decide) ?_
      exact ab_retz X hr0 hlk (by first | exact Or.inl rfl | exact Or.inr rfl) d_PF_isLeaf_15 ⟨rfl, _, by first | exact Or.inl rfl | exact Or.inr rfl, rfl⟩
    ·
      refine ab_iconst (v := 1) X d_PF_isLeaf_10 (by decide) ?_
      refine ab_goto X 15 d_PF_isLeaf_11 rfl ?_
      exact ab_retz X hr0 hlk (by first | exact Or.inl rfl | exact Or.inr rfl) d_PF_isLeaf_15 ⟨rfl, _, by first | exact Or.inl rfl | exact Or.inr rfl, rfl⟩
abbrev b_PT_start : ByteArray := prog_5_method_2_code
def y_PT_start : MethodName := ⟨"PolicyForge$Part", "start", "(I)V"⟩
theorem d_PT_start_0 : decode b_PT_start 0 = .ok (.aload_n 0, 1) := by decide +kernel
theorem d_PT_start_1 : decode b_PT_start 1 = .ok (.iload_n 1, 1) := by decide +kernel
theorem d_PT_start_2 : decode b_PT_start 2 = .ok (.putfield 30, 3) := by decide +kernel
theorem d_PT_start_5 : decode b_PT_start 5 = .ok (.aload_n 0, 1) := by decide +kernel
theorem d_PT_start_6 : decode b_PT_start 6 = .ok (.iconst 0, 1) := by decide +kernel
theorem d_PT_start_7 : decode b_PT_start 7 = .ok (.putfield 34, 3) := by decide +kernel
theorem d_PT_start_10 : decode b_PT_start 10 = .ok (.aload_n 0, 1) := by decide +kernel
theorem d_PT_start_11 : decode b_PT_start 11 = .ok (.iconst 0, 1) := by decide +kernel
theorem d_PT_start_12 : decode b_PT_start 12 = .ok (.putfield 37, 3) := by decide +kernel
theorem d_PT_start_15 : decode b_PT_start 15 = .ok (.return_, 1) := by decide +kernel
set_option maxRecDepth 100000 in
set_option maxHeartbeats 1000000 in
theorem s_PT_start (u : ab_S) (p1 : Nat) (a : Int32) (h : CI u) (hp : p1 < 20) : ab_C false l D ca y_PT_start b_PT_start 2 none 0 ab_nQ u [ab_O 2 p1, ab_I a] (fun u' v => cP [2, 10] u u' ∧ v = none) := by
  refine ab_C.of (by decide) (Nat.le_of_ble_eq_true rfl) ?_
  intro p e s m args below meth c ad X hZ hr0 hlk
  have P0 : cP [2, 10] u u := cQ.rf h
  refine ab_aload_n X 0 d_PT_start_0 rfl rfl ?_
  refine ab_iload_n X 1 d_PT_start_1 rfl rfl ?_
  refine ab_putI X fp_PT_30 d_PT_start_2 (by first | assumption | decide | (show _ < 124; omega) | (show _ < 61; omega) | (show _ < 20; omega)) rfl rfl ?_
  refine ab_gen (fun u2 e2 => ?_)
  have P2 : cP [2, 10] u u2 := by rw [e2]; exact P0.ui rfl (by decide)
  refine ab_aload_n X 0 d_PT_start_5 rfl rfl ?_
  refine ab_iconst (v := 0) X d_PT_start_6 (by decide) ?_
  refine ab_putI X fp_PT_34 d_PT_start_7 (by first | assumption | decide | (show _ < 124; omega) | (show _ < 61; omega) | (show _ < 20; omega)) rfl rfl ?_
  refine ab_gen (fun u7 e7 => ?_)
  have P7 : cP [2, 10] u u7 := by rw [e7]; exact P2.ui rfl (by decide)
  refine ab_aload_n X 0 d_PT_start_10 rfl rfl ?_
  refine ab_iconst (v := 0) X d_PT_start_11 (by decide) ?_
  refine ab_putI X fp_PT_37 d_PT_start_12 (by first | assumption | decide | (show _ < 124; omega) | (show _ < 61; omega) | (show _ < 20; omega)) rfl rfl ?_
  refine ab_gen (fun u12 e12 => ?_)
  have P12 : cP [2, 10] u u12 := by rw [e12]; exact P7.pc (by decide) (n := 0) (by omega) (fun j hj => absurd hj (by omega))
  exact ab_retv X hr0 hlk d_PT_start_15 ⟨P12, rfl⟩
abbrev b_PT_join : ByteArray := prog_5_method_3_code
def y_PT_join : MethodName := ⟨"PolicyForge$Part", "join", "(LPolicyForge$Part;)V"⟩
theorem d_PT_join_0 : decode b_PT_join 0 = .ok (.aload_n 0, 1) := by decide +kernel
theorem d_PT_join_1 : decode b_PT_join 1 = .ok (.getfield 37, 3) := by decide +kernel
theorem d_PT_join_4 : decode b_PT_join 4 = .ok (.iconst 4, 1) := by decide +kernel
theorem d_PT_join_5 : decode b_PT_join 5 = .ok (.if_icmp .ge 23, 3) := by decide +kernel
theorem d_PT_join_8 : decode b_PT_join 8 = .ok (.aload_n 0, 1) := by decide +kernel
theorem d_PT_join_9 : decode b_PT_join 9 = .ok (.getfield 11, 3) := by decide +kernel
theorem d_PT_join_12 : decode b_PT_join 12 = .ok (.aload_n 0, 1) := by decide +kernel
theorem d_PT_join_13 : decode b_PT_join 13 = .ok (.getfield 37, 3) := by decide +kernel
theorem d_PT_join_16 : decode b_PT_join 16 = .ok (.aload_n 1, 1) := by decide +kernel
theorem d_PT_join_17 : decode b_PT_join 17 = .ok (.aastore, 1) := by decide +kernel
theorem d_PT_join_18 : decode b_PT_join 18 = .ok (.aload_n 0, 1) := by decide +kernel
theorem d_PT_join_19 : decode b_PT_join 19 = .ok (.dup, 1) := by decide +kernel
theorem d_PT_join_20 : decode b_PT_join 20 = .ok (.getfield 37, 3) := by decide +kernel
theorem d_PT_join_23 : decode b_PT_join 23 = .ok (.iconst 1, 1) := by decide +kernel
theorem d_PT_join_24 : decode b_PT_join 24 = .ok (.iadd, 1) := by decide +kernel
theorem d_PT_join_25 : decode b_PT_join 25 = .ok (.putfield 37, 3) := by decide +kernel
theorem d_PT_join_28 : decode b_PT_join 28 = .ok (.return_, 1) := by decide +kernel
theorem fl_PT_37 : ab_fl "PolicyForge$Part" 37 2 6 0 := ⟨rfl, R_PT, T_PT, 8, rfl, uw_PT, by decide, rfl, (ab_in 223 (by decide +kernel) (by decide +kernel))⟩
theorem fl_PT_11 : ab_fl "PolicyForge$Part" 11 2 0 1 := ⟨rfl, R_PT, T_PT, 8, rfl, uw_PT, by decide, rfl, (ab_in 212 (by decide +kernel) (by decide +kernel))⟩
set_option maxRecDepth 100000 in
set_option maxHeartbeats 1000000 in
theorem s_PT_join (u : ab_S) (p1 q1 : Nat) (h : CI u) (hp : p1 < 20) (hq : q1 < 20) : ab_C false l D ca y_PT_join b_PT_join 2 none 0 ab_nQ u [ab_O 2 p1, ab_O 2 q1] (fun u' v => cP [2, 10] u u' ∧ v = none) := by
  refine ab_C.of (by decide) (Nat.le_of_ble_eq_true rfl) ?_
  intro p e s m args below meth c ad X hZ hr0 hlk
  have P0 : cP [2, 10] u u := cQ.rf h
  obtain ⟨k, hk, ek, he⟩ := h.part hp
  refine ab_aload_n X 0 d_PT_join_0 rfl rfl ?_
  refine ab_gI X fl_PT_37 d_PT_join_1 (by first | assumption | decide | (show _ < 124; omega) | (show _ < 61; omega) | (show _ < 20; omega)) (ek) ?_
  refine ab_iconst (v := 4) X d_PT_join_4 (by decide) ?_
  refine ab_icmp_ge X 28 d_PT_join_5 rfl (fun h5 => ?_) (fun h5 => ?_)
  ·
    exact ab_retv X hr0 hlk d_PT_join_28 ⟨P0, rfl⟩
  ·
    have hk4 : k < 4 := nI_lt_of h5 (by omega)
    refine ab_aload_n X 0 d_PT_join_8 rfl rfl ?_
    refine ab_gR X fl_PT_11 d_PT_join_9 (by first | assumption | decide | (show _ < 124; omega) | (show _ < 61; omega) | (show _ < 20; omega)) (P0.1.pt0 (by first | assumption | decide | omega)) ?_
    refine ab_aload_n X 0 d_PT_join_12 rfl rfl ?_
    refine ab_gI X fl_PT_37 d_PT_join_13 (by first | assumption | decide | (show _ < 124; omega) | (show _ < 61; omega) | (show _ < 20; omega)) (ek) ?_
    refine ab_aload_n X 1 d_PT_join_16 rfl rfl ?_
    refine ab_aast X (k) ⟨rfl, rfl, _, rfl, fun _ => rfl⟩ d_PT_join_17 (by first | assumption | decide | (show _ < 124; omega) | (show _ < 61; omega) | (show _ < 20; omega)) (by first | assumption | decide | (show _ < 124; omega) | (show _ < 61; omega) | (show _ < 20; omega)) (rfl) (hk4) (ab_ln_lt _ _) ?_
    refine ab_gen (fun u17 e17 => ?_)
    have P17 : cP [2, 10] u u17 := by rw [e17]; exact P0.pa (by decide) hq
    refine ab_aload_n X 0 d_PT_join_18 rfl rfl ?_
    refine ab_dup X d_PT_join_19 rfl ?_
    refine ab_gI X fl_PT_37 d_PT_join_20 (by first | assumption | decide | (show _ < 124; omega) | (show _ < 61; omega) | (show _ < 20; omega)) ((show _ = nI k by rw [e17]; exact ek)) ?_
    refine ab_iconst (v := 1) X d_PT_join_23 (by decide) ?_
    refine ab_iadd X d_PT_join_24 ?_
    refine ab_top (nI_1 _) ?_
    refine ab_putI X fp_PT_37 d_PT_join_25 (by first | assumption | decide | (show _ < 124; omega) | (show _ < 61; omega) | (show _ < 20; omega)) rfl rfl ?_
    refine ab_gen (fun u25 e25 => ?_)
    have P25 : cP [2, 10] u u25 := by rw [e25]; exact P17.pc (by decide) (by omega) (fun j hj => by
        by_cases q : j = k
        · subst q; rw [e17]; exact ⟨q1, hq, ab_up_s _ _ _ _ _⟩
        · obtain ⟨g', g1, g2⟩ := he j (by omega)
          refine ⟨g', g1, ?_⟩
          rw [e17]
          exact (ab_up_n _ _ (by omega)).trans g2)
    exact ab_retv X hr0 hlk d_PT_join_28 ⟨P25, rfl⟩
theorem d_PT_weigh_0 : decode b_PT_weigh 0 = .ok (.aload_n 0, 1) := by decide +kernel
theorem d_PT_weigh_1 : decode b_PT_weigh 1 = .ok (.getfield 30, 3) := by decide +kernel
theorem d_PT_weigh_4 : decode b_PT_weigh 4 = .ok (.invokestatic 44, 3) := by decide +kernel
theorem d_PT_weigh_7 : decode b_PT_weigh 7 = .ok (.ifCond .eq 20, 3) := by decide +kernel
theorem d_PT_weigh_10 : decode b_PT_weigh 10 = .ok (.aload_n 0, 1) := by decide +kernel
theorem d_PT_weigh_11 : decode b_PT_weigh 11 = .ok (.aload_n 1, 1) := by decide +kernel
theorem d_PT_weigh_12 : decode b_PT_weigh 12 = .ok (.aload_n 0, 1) := by decide +kernel
theorem d_PT_weigh_13 : decode b_PT_weigh 13 = .ok (.getfield 30, 3) := by decide +kernel
theorem d_PT_weigh_16 : decode b_PT_weigh 16 = .ok (.aload_n 0, 1) := by decide +kernel
theorem d_PT_weigh_17 : decode b_PT_weigh 17 = .ok (.getfield 34, 3) := by decide +kernel
theorem d_PT_weigh_20 : decode b_PT_weigh 20 = .ok (.invokevirtual 48, 3) := by decide +kernel
theorem d_PT_weigh_23 : decode b_PT_weigh 23 = .ok (.putfield 40, 3) := by decide +kernel
theorem d_PT_weigh_26 : decode b_PT_weigh 26 = .ok (.return_, 1) := by decide +kernel
theorem d_PT_weigh_27 : decode b_PT_weigh 27 = .ok (.iconst 0, 1) := by decide +kernel
theorem d_PT_weigh_28 : decode b_PT_weigh 28 = .ok (.istore_n 2, 1) := by decide +kernel
theorem d_PT_weigh_29 : decode b_PT_weigh 29 = .ok (.iconst 0, 1) := by decide +kernel
theorem d_PT_weigh_30 : decode b_PT_weigh 30 = .ok (.istore_n 3, 1) := by decide +kernel
theorem d_PT_weigh_31 : decode b_PT_weigh 31 = .ok (.iload_n 3, 1) := by decide +kernel
theorem d_PT_weigh_32 : decode b_PT_weigh 32 = .ok (.aload_n 0, 1) := by decide +kernel
theorem d_PT_weigh_33 : decode b_PT_weigh 33 = .ok (.getfield 37, 3) := by decide +kernel
theorem d_PT_weigh_36 : decode b_PT_weigh 36 = .ok (.if_icmp .ge 29, 3) := by decide +kernel
theorem d_PT_weigh_39 : decode b_PT_weigh 39 = .ok (.iload_n 2, 1) := by decide +kernel
theorem d_PT_weigh_40 : decode b_PT_weigh 40 = .ok (.aload_n 0, 1) := by decide +kernel
theorem d_PT_weigh_41 : decode b_PT_weigh 41 = .ok (.getfield 11, 3) := by decide +kernel
theorem d_PT_weigh_44 : decode b_PT_weigh 44 = .ok (.iload_n 3, 1) := by decide +kernel
theorem d_PT_weigh_45 : decode b_PT_weigh 45 = .ok (.aaload, 1) := by decide +kernel
theorem d_PT_weigh_46 : decode b_PT_weigh 46 = .ok (.getfield 40, 3) := by decide +kernel
theorem d_PT_weigh_49 : decode b_PT_weigh 49 = .ok (.ifCond .eq 7, 3) := by decide +kernel
theorem d_PT_weigh_52 : decode b_PT_weigh 52 = .ok (.iconst 1, 1) := by decide +kernel
theorem d_PT_weigh_53 : decode b_PT_weigh 53 = .ok (.goto 4, 3) := by decide +kernel
theorem d_PT_weigh_56 : decode b_PT_weigh 56 = .ok (.iconst 0, 1) := by decide +kernel
theorem d_PT_weigh_57 : decode b_PT_weigh 57 = .ok (.iadd, 1) := by decide +kernel
theorem d_PT_weigh_58 : decode b_PT_weigh 58 = .ok (.istore_n 2, 1) := by decide +kernel
theorem d_PT_weigh_59 : decode b_PT_weigh 59 = .ok (.iinc 3 1, 3) := by decide +kernel
theorem d_PT_weigh_62 : decode b_PT_weigh 62 = .ok (.goto (-31), 3) := by decide +kernel
theorem d_PT_weigh_65 : decode b_PT_weigh 65 = .ok (.aload_n 0, 1) := by decide +kernel
theorem d_PT_weigh_66 : decode b_PT_weigh 66 = .ok (.iload_n 2, 1) := by decide +kernel
theorem d_PT_weigh_67 : decode b_PT_weigh 67 = .ok (.aload_n 0, 1) := by decide +kernel
theorem d_PT_weigh_68 : decode b_PT_weigh 68 = .ok (.getfield 34, 3) := by decide +kernel
theorem d_PT_weigh_71 : decode b_PT_weigh 71 = .ok (.if_icmp .lt 7, 3) := by decide +kernel
theorem d_PT_weigh_74 : decode b_PT_weigh 74 = .ok (.iconst 1, 1) := by decide +kernel
theorem d_PT_weigh_75 : decode b_PT_weigh 75 = .ok (.goto 4, 3) := by decide +kernel
theorem d_PT_weigh_78 : decode b_PT_weigh 78 = .ok (.iconst 0, 1) := by decide +kernel
theorem d_PT_weigh_79 : decode b_PT_weigh 79 = .ok (.putfield 40, 3) := by decide +kernel
theorem d_PT_weigh_82 : decode b_PT_weigh 82 = .ok (.return_, 1) := by decide +kernel
theorem fl_PT_30 : ab_fl "PolicyForge$Part" 30 2 4 0 := ⟨rfl, R_PT, T_PT, 8, rfl, uw_PT, by decide, rfl, (ab_in 219 (by decide +kernel) (by decide +kernel))⟩
theorem ls_PT_44 : ab_lSN "PolicyForge$Part" 44 y_PF_isLeaf "PolicyForge" b_PF_isLeaf 1 (some FieldType.boolean) 1 := ⟨(List.mem_filter.mpr ⟨List.mem_of_getElem? (i := 607) (by decide +kernel), by decide +kernel⟩), List.forall_mem_cons.mpr ⟨(ab_in 504 (by decide +kernel) (by decide +kernel)), List.forall_mem_cons.mpr ⟨(ab_in 92 (by decide +kernel) (by decide +kernel)), List.forall_mem_cons.mpr ⟨(ab_in 505 (by decide +kernel) (by decide +kernel)), fun _ h => absurd h List.not_mem_nil⟩⟩⟩, ⟨by decide +kernel, by decide +kernel, by decide +kernel⟩, by decide⟩
theorem fl_PT_34 : ab_fl "PolicyForge$Part" 34 2 5 0 := ⟨rfl, R_PT, T_PT, 8, rfl, uw_PT, by decide, rfl, (ab_in 221 (by decide +kernel) (by decide +kernel))⟩
theorem lk_PT_48 : ab_lk "PolicyForge$Part" 48 y_FA_meet b_FA_meet 3 (some FieldType.boolean) 2 6 := ⟨⟨rfl, T_FA, 4, rfl⟩, List.forall_mem_cons.mpr ⟨(ab_in 745 (by decide +kernel) (by decide +kernel)), List.forall_mem_cons.mpr ⟨(ab_in 746 (by decide +kernel) (by decide +kernel)), List.forall_mem_cons.mpr ⟨(ab_in 747 (by decide +kernel) (by decide +kernel)), List.forall_mem_cons.mpr ⟨(ab_in 98 (by decide +kernel) (by decide +kernel)), List.forall_mem_cons.mpr ⟨(ab_in 748 (by decide +kernel) (by decide +kernel)), fun _ h => absurd h List.not_mem_nil⟩⟩⟩⟩⟩, ⟨by decide +kernel, by decide +kernel, by decide +kernel⟩, by decide⟩
theorem fl_PT_40 : ab_fl "PolicyForge$Part" 40 2 7 0 := ⟨rfl, R_PT, T_PT, 8, rfl, uw_PT, by decide, rfl, (ab_in 224 (by decide +kernel) (by decide +kernel))⟩
set_option maxRecDepth 100000 in
set_option maxHeartbeats 1000000 in
theorem s_PT_weigh (u : ab_S) (p1 : Nat) (h : CI u) (hp : p1 < 20) : ab_C false l D ca y_PT_weigh b_PT_weigh 4 none 1 ab_nQ u [ab_O 2 p1, ab_O 6 0] (fun u' v => cP [2] u u' ∧ v = none) := by
  refine ab_C.of (by decide) (Nat.le_of_ble_eq_true rfl) ?_
  intro p e s m args below meth c ad X hZ hr0 hlk
  have P0 : cP [2] u u := cQ.rf h
  obtain ⟨n, hn, en, he⟩ := h.part hp
  have loop : ∀ (k j : Nat) (y : Int32), k + j = 4 → ab_J p l e (ab_rm 1 0 0) s m args below meth c (MQ below (ab_Q D ca ad ab_nQ s.heap.size (fun u' v => cP [2] u u' ∧ v = none)) args s 0 0 (ab_A ad ab_nQ s.heap.size)) D ca (ab_A ad ab_nQ s.heap.size) s.heap 4 0 0 ad ab_nQ u 31 [(3, ab_I (nI j)), (2, ab_I y), (0, ab_O 2 p1), (1, ab_O 6 0)] [] := by
    intro k
    induction k with
    | zero =>
      intro j y hj
      refine ab_iload_n X 0 d_PT_weigh_31 rfl rfl ?_
      refine ab_aload_n X 2 d_PT_weigh_32 rfl rfl ?_
      refine ab_gI X fl_PT_37 d_PT_weigh_33 (by first | assumption | decide | (show _ < 124; omega) | (show _ < 61; omega) | (show _ < 20; omega)) (en) ?_
      refine ab_icmp_ge X 65 d_PT_weigh_36 rfl (fun _ => ?_) (fun hb => absurd ((nI_le (by omega) (by omega))) hb)
      refine ab_aload_n X 2 d_PT_weigh_65 rfl rfl ?_
      refine ab_iload_n X 1 d_PT_weigh_66 rfl rfl ?_
      refine ab_aload_n X 2 d_PT_weigh_67 rfl rfl ?_
      refine ab_gI X fl_PT_34 d_PT_weigh_68 (by first | assumption | decide | (show _ < 124; omega) | (show _ < 61; omega) | (show _ < 20; omega)) (rfl) ?_
      refine ab_icmp_lt X 78 d_PT_weigh_71 rfl (fun h71 => ?_) (fun h71 => ?_)
      ·
        refine ab_iconst (v := 0) X d_PT_weigh_78 (by decide) ?_
        refine ab_putI X fp_PT_40 d_PT_weigh_79 (by first | assumption | decide | (show _ < 124; omega) | (show _ < 61; omega) | (show _ < 20; omega)) rfl rfl ?_
        refine ab_gen (fun u79 e79 => ?_)
        have P79 : cP [2] u u79 := by rw [e79]; exact P0.hd (by decide) (by first | exact Or.inl rfl | exact Or.inr rfl)
        exact ab_retv X hr0 hlk d_PT_weigh_82 ⟨P79, rfl⟩
      ·
        refine ab_iconst (v := 1) X d_PT_weigh_74 (by decide) ?_
        refine ab_goto X 79 d_PT_weigh_75 rfl ?_
        refine ab_putI X fp_PT_40 d_PT_weigh_79 (by first | assumption | decide | (show _ < 124; omega) | (show _ < 61; omega) | (show _ < 20; omega)) rfl rfl ?_
        refine ab_gen (fun u79 e79 => ?_)
        have P79 : cP [2] u u79 := by rw [e79]; exact P0.hd (by decide) (by first | exact Or.inl rfl | exact Or.inr rfl)
        exact ab_retv X hr0 hlk d_PT_weigh_82 ⟨P79, rfl⟩
    | succ k ih =>
      intro j y hj
      refine ab_iload_n X 0 d_PT_weigh_31 rfl rfl ?_
      refine ab_aload_n X 2 d_PT_weigh_32 rfl rfl ?_
      refine ab_gI X fl_PT_37 d_PT_weigh_33 (by first | assumption | decide | (show _ < 124; omega) | (show _ < 61; omega) | (show _ < 20; omega)) (en) ?_
      refine ab_icmp_ge X 65 d_PT_weigh_36 rfl (fun h36 => ?_) (fun h36 => ?_)
      ·
        refine ab_aload_n X 2 d_PT_weigh_65 rfl rfl ?_
        refine ab_iload_n X 1 d_PT_weigh_66 rfl rfl ?_
        refine ab_aload_n X 2 d_PT_weigh_67 rfl rfl ?_
        refine ab_gI X fl_PT_34 d_PT_weigh_68 (by first | assumption | decide | (show _ < 124; omega) | (show _ < 61; omega) | (show _ < 20; omega)) (rfl) ?_
        refine ab_icmp_lt X 78 d_PT_weigh_71 rfl (fun h71 => ?_) (fun h71 => ?_)
        ·
          refine ab_iconst (v := 0) X d_PT_weigh_78 (by decide) ?_
          refine ab_putI X fp_PT_40 d_PT_weigh_79 (by first | assumption | decide | (show _ < 124; omega) | (show _ < 61; omega) | (show _ < 20; omega)) rfl rfl ?_
          refine ab_gen (fun u79 e79 => ?_)
          have P79 : cP [2] u u79 := by rw [e79]; exact P0.hd (by decide) (by first | exact Or.inl rfl | exact Or.inr rfl)
          exact ab_retv X hr0 hlk d_PT_weigh_82 ⟨P79, rfl⟩
        ·
          refine ab_iconst (v := 1) X d_PT_weigh_74 (by decide) ?_
          refine ab_goto X 79 d_PT_weigh_75 rfl ?_
          refine ab_putI X fp_PT_40 d_PT_weigh_79 (by first | assumption | decide | (show _ < 124; omega) | (show _ < 61; omega) | (show _ < 20; omega)) rfl rfl ?_
          refine ab_gen (fun u79 e79 => ?_)
          have P79 : cP [2] u u79 := by rw [e79]; exact P0.hd (by decide) (by first | exact Or.inl rfl | exact Or.inr rfl)
          exact ab_retv X hr0 hlk d_PT_weigh_82 ⟨P79, rfl⟩
      ·
        have hjn := nI_lt_of h36 (by omega)
        obtain ⟨g, hg, eg⟩ := he j hjn
        refine ab_iload_n X 1 d_PT_weigh_39 rfl rfl ?_
        refine ab_aload_n X 2 d_PT_weigh_40 rfl rfl ?_
        refine ab_gR X fl_PT_11 d_PT_weigh_41 (by first | assumption | decide | (show _ < 124; omega) | (show _ < 61; omega) | (show _ < 20; omega)) (P0.1.pt0 (by first | assumption | decide | omega)) ?_
        refine ab_iload_n X 0 d_PT_weigh_44 rfl rfl ?_
        refine ab_aalv X (j) ⟨rfl, _, fun _ => rfl⟩ d_PT_weigh_45 (by first | assumption | decide | (show _ < 124; omega) | (show _ < 61; omega) | (show _ < 20; omega)) (rfl) (show j < 4 by omega) (ab_ln_lt _ _) (eg) ?_
        refine ab_gI X fl_PT_40 d_PT_weigh_46 (by first | assumption | decide | (show _ < 124; omega) | (show _ < 61; omega) | (show _ < 20; omega)) (rfl) ?_
        refine ab_if_eq X 56 d_PT_weigh_49 rfl (fun h49 => ?_) (fun h49 => ?_)
        ·
          refine ab_iconst (v := 0) X d_PT_weigh_56 (by decide) ?_
          refine ab_iadd X d_PT_weigh_57 ?_
          refine ab_istore_n3 X 0 2 3 d_PT_weigh_58 rfl (by decide) rfl rfl rfl rfl rfl rfl ?_
          refine ab_iinc3 X 1 0 2 3 d_PT_weigh_59 rfl (by decide) rfl rfl rfl rfl rfl rfl ?_
          refine ab_goto X 31 d_PT_weigh_62 rfl ?_
          rw [show nI j + Int32.ofInt 1 = nI (j + 1) from nI_1 j]
          exact ih (j + 1) _ (by omega)
        ·
          refine ab_iconst (v := 1) X d_PT_weigh_52 (by decide) ?_
          refine ab_goto X 57 d_PT_weigh_53 rfl ?_
          refine ab_iadd X d_PT_weigh_57 ?_
          refine ab_istore_n3 X 0 2 3 d_PT_weigh_58 rfl (by decide) rfl rfl rfl rfl rfl rfl ?_
          refine ab_iinc3 X 1 0 2 3 d_PT_weigh_59 rfl (by decide) rfl rfl rfl rfl rfl rfl ?_
          refine ab_goto X 31 d_PT_weigh_62 rfl ?_
          rw [show nI j + Int32.ofInt 1 = nI (j + 1) from nI_1 j]
          exact ih (j + 1) _ (by omega)
  refine ab_aload_n X 0 d_PT_weigh_0 rfl rfl ?_
  refine ab_gI X fl_PT_30 d_PT_weigh_1 (by first | assumption | decide | (show _ < 124; omega) | (show _ < 61; omega) | (show _ < 20; omega)) (rfl) ?_
  refine ab_callSN (as := [ab_I _]) X (fun h => by cases h) (t_PF_isLeaf u _ h) ls_PT_44 d_PT_weigh_4 rfl rfl ⟨by first | exact Nat.le_of_ble_eq_true rfl | (simp only [ab_rm]; omega), by first | exact Nat.le_of_ble_eq_true rfl | (simp only [ab_rm]; omega)⟩ ⟨by first | exact Nat.le_of_ble_eq_true rfl | (simp only [ab_rm]; omega), by first | exact Nat.le_of_ble_eq_true rfl | (simp only [ab_rm]; omega)⟩ (Nat.le_of_ble_eq_true rfl) (fun u4 r4 h4 => ?_)
  obtain ⟨e4, b4, hb4, rfl⟩ := h4
  subst u4
  refine ab_if_eq X 27 d_PT_weigh_7 rfl (fun h7 => ?_) (fun h7 => ?_)
  ·
    refine ab_iconst (v := 0) X d_PT_weigh_27 (by decide) ?_
    refine ab_istore_n2 X 0 1 d_PT_weigh_28 rfl (by decide) rfl rfl rfl rfl ?_
    refine ab_iconst (v := 0) X d_PT_weigh_29 (by decide) ?_
    refine ab_istore_n3 X 0 1 2 d_PT_weigh_30 rfl (by decide) rfl rfl rfl rfl rfl rfl ?_
    exact loop 4 0 _ rfl
  ·
    refine ab_aload_n X 0 d_PT_weigh_10 rfl rfl ?_
    refine ab_aload_n X 1 d_PT_weigh_11 rfl rfl ?_
    refine ab_aload_n X 0 d_PT_weigh_12 rfl rfl ?_
    refine ab_gI X fl_PT_30 d_PT_weigh_13 (by first | assumption | decide | (show _ < 124; omega) | (show _ < 61; omega) | (show _ < 20; omega)) (rfl) ?_
    refine ab_aload_n X 0 d_PT_weigh_16 rfl rfl ?_
    refine ab_gI X fl_PT_34 d_PT_weigh_17 (by first | assumption | decide | (show _ < 124; omega) | (show _ < 61; omega) | (show _ < 20; omega)) (rfl) ?_
    refine ab_callV (as := [ab_I _, ab_I _]) X (fun h => by cases h) (t_FA_meet u _ _ h) lk_PT_48 d_PT_weigh_20 rfl rfl (by first | assumption | decide | (show _ < 124; omega) | (show _ < 61; omega) | (show _ < 20; omega)) ⟨by first | exact Nat.le_of_ble_eq_true rfl | (simp only [ab_rm]; omega), by first | exact Nat.le_of_ble_eq_true rfl | (simp only [ab_rm]; omega)⟩ ⟨by first | exact Nat.le_of_ble_eq_true rfl | (simp only [ab_rm]; omega), by first | exact Nat.le_of_ble_eq_true rfl | (simp only [ab_rm]; omega)⟩ (Nat.le_of_ble_eq_true rfl) (fun u20 r20 h20 => ?_)
    obtain ⟨e20, b20, hb20, rfl⟩ := h20
    subst u20
    refine ab_putI X fp_PT_40 d_PT_weigh_23 (by first | assumption | decide | (show _ < 124; omega) | (show _ < 61; omega) | (show _ < 20; omega)) (by rcases hb20 with rfl | rfl <;> rfl) (by rcases hb20 with rfl | rfl <;> rfl) ?_
    refine ab_gen (fun u23 e23 => ?_)
    have P23 : cP [2] u u23 := by rw [e23]; exact P0.hd (by decide) hb20
    exact ab_retv X hr0 hlk d_PT_weigh_26 ⟨P23, rfl⟩
abbrev b_PT_offerTwo : ByteArray := prog_5_method_9_code
def y_PT_offerTwo : MethodName := ⟨"PolicyForge$Part", "offerTwo", "(LPolicyForge$Form;LPolicyForge$Form;ILPolicyForge$Form;LPolicyForge$Form;)V"⟩
theorem d_PT_offerTwo_0 : decode b_PT_offerTwo 0 = .ok (.aload_n 0, 1) := by decide +kernel
theorem d_PT_offerTwo_1 : decode b_PT_offerTwo 1 = .ok (.aload_n 1, 1) := by decide +kernel
theorem d_PT_offerTwo_2 : decode b_PT_offerTwo 2 = .ok (.iload_n 2, 1) := by decide +kernel
theorem d_PT_offerTwo_3 : decode b_PT_offerTwo 3 = .ok (.iconst 0, 1) := by decide +kernel
theorem d_PT_offerTwo_4 : decode b_PT_offerTwo 4 = .ok (.iconst 2, 1) := by decide +kernel
theorem d_PT_offerTwo_5 : decode b_PT_offerTwo 5 = .ok (.invokevirtual 65, 3) := by decide +kernel
theorem d_PT_offerTwo_8 : decode b_PT_offerTwo 8 = .ok (.aload_n 3, 1) := by decide +kernel
theorem d_PT_offerTwo_9 : decode b_PT_offerTwo 9 = .ok (.invokevirtual 69, 3) := by decide +kernel
theorem d_PT_offerTwo_12 : decode b_PT_offerTwo 12 = .ok (.aload 4, 2) := by decide +kernel
theorem d_PT_offerTwo_14 : decode b_PT_offerTwo 14 = .ok (.invokevirtual 69, 3) := by decide +kernel
theorem d_PT_offerTwo_17 : decode b_PT_offerTwo 17 = .ok (.invokevirtual 73, 3) := by decide +kernel
theorem d_PT_offerTwo_20 : decode b_PT_offerTwo 20 = .ok (.return_, 1) := by decide +kernel
theorem lk_PT_65 : ab_lk "PolicyForge$Part" 65 y_FM_start b_FM_start 4 (some (FieldType.object "PolicyForge$Form")) 3 3 := ⟨⟨rfl, T_FM, 10, rfl⟩, List.forall_mem_cons.mpr ⟨(ab_in 608 (by decide +kernel) (by decide +kernel)), List.forall_mem_cons.mpr ⟨(ab_in 609 (by decide +kernel) (by decide +kernel)), List.forall_mem_cons.mpr ⟨(ab_in 610 (by decide +kernel) (by decide +kernel)), List.forall_mem_cons.mpr ⟨(ab_in 95 (by decide +kernel) (by decide +kernel)), List.forall_mem_cons.mpr ⟨(ab_in 611 (by decide +kernel) (by decide +kernel)), fun _ h => absurd h List.not_mem_nil⟩⟩⟩⟩⟩, ⟨by decide +kernel, by decide +kernel, by decide +kernel⟩, by decide⟩
theorem lk_PT_69 : ab_lk "PolicyForge$Part" 69 y_FM_with b_FM_with 2 (some (FieldType.object "PolicyForge$Form")) 1 3 := ⟨⟨rfl, T_FM, 10, rfl⟩, List.forall_mem_cons.mpr ⟨(ab_in 650 (by decide +kernel) (by decide +kernel)), List.forall_mem_cons.mpr ⟨(ab_in 644 (by decide +kernel) (by decide +kernel)), List.forall_mem_cons.mpr ⟨(ab_in 645 (by decide +kernel) (by decide +kernel)), List.forall_mem_cons.mpr ⟨(ab_in 95 (by decide +kernel) (by decide +kernel)), List.forall_mem_cons.mpr ⟨(ab_in 646 (by decide +kernel) (by decide +kernel)), fun _ h => absurd h List.not_mem_nil⟩⟩⟩⟩⟩, ⟨by decide +kernel, by decide +kernel, by decide +kernel⟩, by decide⟩
theorem lk_PT_73 : ab_lk "PolicyForge$Part" 73 y_FM_offer b_FM_offer 6 none 1 3 := ⟨⟨rfl, T_FM, 10, rfl⟩, List.forall_mem_cons.mpr ⟨(ab_in 612 (by decide +kernel) (by decide +kernel)), List.forall_mem_cons.mpr ⟨(ab_in 613 (by decide +kernel) (by decide +kernel)), List.forall_mem_cons.mpr ⟨(ab_in 614 (by decide +kernel) (by decide +kernel)), List.forall_mem_cons.mpr ⟨(ab_in 95 (by decide +kernel) (by decide +kernel)), List.forall_mem_cons.mpr ⟨(ab_in 615 (by decide +kernel) (by decide +kernel)), fun _ h => absurd h List.not_mem_nil⟩⟩⟩⟩⟩, ⟨by decide +kernel, by decide +kernel, by decide +kernel⟩, by decide⟩
set_option maxRecDepth 100000 in
set_option maxHeartbeats 1000000 in
theorem s_PT_offerTwo (u : ab_S) (f g1 g2 : Nat) (a : Int32) (h : CI u) (hf : f < 60) (hg1 : g1 < 61) (hg2 : g2 < 61) : ab_C false l D ca y_PT_offerTwo b_PT_offerTwo 5 none 4 ab_nQ u [ab_O 3 f, ab_O 3 60, ab_I a, ab_O 3 g1, ab_O 3 g2] (fun u' v => cP [3, 9] u u' ∧ v = none) := by
  refine ab_C.of (by decide) (Nat.le_of_ble_eq_true rfl) ?_
  intro p e s m args below meth c ad X hZ hr0 hlk
  have P0 : cP [3, 9] u u := cQ.rf h
  refine ab_aload_n X 0 d_PT_offerTwo_0 rfl rfl ?_
  refine ab_aload_n X 1 d_PT_offerTwo_1 rfl rfl ?_
  refine ab_iload_n X 2 d_PT_offerTwo_2 rfl rfl ?_
  refine ab_iconst (v := 0) X d_PT_offerTwo_3 (by decide) ?_
  refine ab_iconst (v := 2) X d_PT_offerTwo_4 (by decide) ?_
  refine ab_callV (as := [ab_I a, ab_I 0, ab_I 2]) X (fun h => by cases h) (s_FM_start u 60 a 0 2 (P0.ex 60).1 (by decide)) lk_PT_65 d_PT_offerTwo_5 rfl rfl (by first | assumption | decide | (show _ < 124; omega) | (show _ < 61; omega) | (show _ < 20; omega)) ⟨by first | exact Nat.le_of_ble_eq_true rfl | (simp only [ab_rm]; omega), by first | exact Nat.le_of_ble_eq_true rfl | (simp only [ab_rm]; omega)⟩ ⟨by first | exact Nat.le_of_ble_eq_true rfl | (simp only [ab_rm]; omega), by first | exact Nat.le_of_ble_eq_true rfl | (simp only [ab_rm]; omega)⟩ (Nat.le_of_ble_eq_true rfl) (fun u5 r5 h5 => ?_)
  obtain ⟨⟨q5, a1, a2, a3⟩, rfl⟩ := h5
  have P5 := P0.trans q5 (by decide)
  refine ab_aload_n X 3 d_PT_offerTwo_8 rfl rfl ?_
  refine ab_callV (as := [ab_O 3 g1]) X (fun h => by cases h) (s_FM_with u5 60 g1 0 P5.1 (by decide) hg1 a3 (by decide)) lk_PT_69 d_PT_offerTwo_9 rfl rfl (by first | assumption | decide | (show _ < 124; omega) | (show _ < 61; omega) | (show _ < 20; omega)) ⟨by first | exact Nat.le_of_ble_eq_true rfl | (simp only [ab_rm]; omega), by first | exact Nat.le_of_ble_eq_true rfl | (simp only [ab_rm]; omega)⟩ ⟨by first | exact Nat.le_of_ble_eq_true rfl | (simp only [ab_rm]; omega), by first | exact Nat.le_of_ble_eq_true rfl | (simp only [ab_rm]; omega)⟩ (Nat.le_of_ble_eq_true rfl) (fun u9 r9 h9 => ?_)
  obtain ⟨⟨q9, b1, b2, b3⟩, rfl⟩ := h9
  have P9 := P5.trans q9 (by decide)
  refine ab_aload X 4 d_PT_offerTwo_12 rfl ?_
  refine ab_callV (as := [ab_O 3 g2]) X (fun h => by cases h) (s_FM_with u9 60 g2 1 P9.1 (by decide) hg2 b3 (by decide)) lk_PT_69 d_PT_offerTwo_14 rfl rfl (by first | assumption | decide | (show _ < 124; omega) | (show _ < 61; omega) | (show _ < 20; omega)) ⟨by first | exact Nat.le_of_ble_eq_true rfl | (simp only [ab_rm]; omega), by first | exact Nat.le_of_ble_eq_true rfl | (simp only [ab_rm]; omega)⟩ ⟨by first | exact Nat.le_of_ble_eq_true rfl | (simp only [ab_rm]; omega), by first | exact Nat.le_of_ble_eq_true rfl | (simp only [ab_rm]; omega)⟩ (Nat.le_of_ble_eq_true rfl) (fun u14 r14 h14 => ?_)
  obtain ⟨⟨q14, c1, c2, c3⟩, rfl⟩ := h14
  have P14 := P9.trans q14 (by decide)
  have R17 : cP [3, 9] u u14 := P14.un (fun m hm em => by
    obtain rfl : m = 2 := (nI_eq (by omega) (by omega)).mp (em.symm.trans c3)
    exact ⟨fun _ => by omega, fun _ => by omega⟩)
  refine ab_callV (as := [ab_O 3 60]) X (fun h => by cases h) (s_FM_offer u14 f 60 R17.1 (by omega) (by decide) (by omega)) lk_PT_73 d_PT_offerTwo_17 rfl rfl (by first | assumption | decide | (show _ < 124; omega) | (show _ < 61; omega) | (show _ < 20; omega)) ⟨by first | exact Nat.le_of_ble_eq_true rfl | (simp only [ab_rm]; omega), by first | exact Nat.le_of_ble_eq_true rfl | (simp only [ab_rm]; omega)⟩ ⟨by first | exact Nat.le_of_ble_eq_true rfl | (simp only [ab_rm]; omega), by first | exact Nat.le_of_ble_eq_true rfl | (simp only [ab_rm]; omega)⟩ (Nat.le_of_ble_eq_true rfl) (fun u17 r17 h17 => ?_)
  obtain ⟨q17, rfl⟩ := h17
  have P17 := P14.trans q17 (by decide)
  exact ab_retv X hr0 hlk d_PT_offerTwo_20 ⟨P17, rfl⟩
abbrev b_PT_offerAside : ByteArray := prog_5_method_10_code
def y_PT_offerAside : MethodName := ⟨"PolicyForge$Part", "offerAside", "(LPolicyForge$Form;LPolicyForge$Form;)V"⟩
theorem d_PT_offerAside_0 : decode b_PT_offerAside 0 = .ok (.aload_n 2, 1) := by decide +kernel
theorem d_PT_offerAside_1 : decode b_PT_offerAside 1 = .ok (.iconst 4, 1) := by decide +kernel
theorem d_PT_offerAside_2 : decode b_PT_offerAside 2 = .ok (.aload_n 0, 1) := by decide +kernel
theorem d_PT_offerAside_3 : decode b_PT_offerAside 3 = .ok (.getfield 30, 3) := by decide +kernel
theorem d_PT_offerAside_6 : decode b_PT_offerAside 6 = .ok (.aload_n 0, 1) := by decide +kernel
theorem d_PT_offerAside_7 : decode b_PT_offerAside 7 = .ok (.getfield 34, 3) := by decide +kernel
theorem d_PT_offerAside_10 : decode b_PT_offerAside 10 = .ok (.invokevirtual 65, 3) := by decide +kernel
theorem d_PT_offerAside_13 : decode b_PT_offerAside 13 = .ok (.pop, 1) := by decide +kernel
theorem d_PT_offerAside_14 : decode b_PT_offerAside 14 = .ok (.iconst 0, 1) := by decide +kernel
theorem d_PT_offerAside_15 : decode b_PT_offerAside 15 = .ok (.istore_n 3, 1) := by decide +kernel
theorem d_PT_offerAside_16 : decode b_PT_offerAside 16 = .ok (.iload_n 3, 1) := by decide +kernel
theorem d_PT_offerAside_17 : decode b_PT_offerAside 17 = .ok (.aload_n 0, 1) := by decide +kernel
theorem d_PT_offerAside_18 : decode b_PT_offerAside 18 = .ok (.getfield 37, 3) := by decide +kernel
theorem d_PT_offerAside_21 : decode b_PT_offerAside 21 = .ok (.if_icmp .ge 23, 3) := by decide +kernel
theorem d_PT_offerAside_24 : decode b_PT_offerAside 24 = .ok (.aload_n 2, 1) := by decide +kernel
theorem d_PT_offerAside_25 : decode b_PT_offerAside 25 = .ok (.aload_n 0, 1) := by decide +kernel
theorem d_PT_offerAside_26 : decode b_PT_offerAside 26 = .ok (.getfield 11, 3) := by decide +kernel
theorem d_PT_offerAside_29 : decode b_PT_offerAside 29 = .ok (.iload_n 3, 1) := by decide +kernel
theorem d_PT_offerAside_30 : decode b_PT_offerAside 30 = .ok (.aaload, 1) := by decide +kernel
theorem d_PT_offerAside_31 : decode b_PT_offerAside 31 = .ok (.getfield 24, 3) := by decide +kernel
theorem d_PT_offerAside_34 : decode b_PT_offerAside 34 = .ok (.invokevirtual 69, 3) := by decide +kernel
theorem d_PT_offerAside_37 : decode b_PT_offerAside 37 = .ok (.pop, 1) := by decide +kernel
theorem d_PT_offerAside_38 : decode b_PT_offerAside 38 = .ok (.iinc 3 1, 3) := by decide +kernel
theorem d_PT_offerAside_41 : decode b_PT_offerAside 41 = .ok (.goto (-25), 3) := by decide +kernel
theorem d_PT_offerAside_44 : decode b_PT_offerAside 44 = .ok (.aload_n 1, 1) := by decide +kernel
theorem d_PT_offerAside_45 : decode b_PT_offerAside 45 = .ok (.aload_n 2, 1) := by decide +kernel
theorem d_PT_offerAside_46 : decode b_PT_offerAside 46 = .ok (.invokevirtual 73, 3) := by decide +kernel
theorem d_PT_offerAside_49 : decode b_PT_offerAside 49 = .ok (.return_, 1) := by decide +kernel
theorem fl_PT_24 : ab_fl "PolicyForge$Part" 24 2 2 1 := ⟨rfl, R_PT, T_PT, 8, rfl, uw_PT, by decide, rfl, (ab_in 215 (by decide +kernel) (by decide +kernel))⟩
set_option maxRecDepth 100000 in
set_option maxHeartbeats 1000000 in
theorem s_PT_offerAside (u : ab_S) (p1 f : Nat) (h : CI u) (hp : p1 < 20) (hf : f < 60) : ab_C false l D ca y_PT_offerAside b_PT_offerAside 4 none 4 ab_nQ u [ab_O 2 p1, ab_O 3 f, ab_O 3 60] (fun u' v => cP [3, 9] u u' ∧ v = none) := by
  refine ab_C.of (by decide) (Nat.le_of_ble_eq_true rfl) ?_
  intro p e s m args below meth c ad X hZ hr0 hlk
  have P0 : cP [3, 9] u u := cQ.rf h
  obtain ⟨n, hn, en, he⟩ := h.part hp
  have loop : ∀ (k j : Nat) (u1 : ab_S), k + j = 4 → cQ 60 [3, 9] u u1 → u1.1 3 60 4 = 4 → u1.1 3 60 7 = nI j → ab_J p l e (ab_rm 4 0 0) s m args below meth c (MQ below (ab_Q D ca ad ab_nQ s.heap.size (fun u' v => cP [3, 9] u u' ∧ v = none)) args s 0 0 (ab_A ad ab_nQ s.heap.size)) D ca (ab_A ad ab_nQ s.heap.size) s.heap 4 0 0 ad ab_nQ u1 16 [(3, ab_I (nI j)), (0, ab_O 2 p1), (1, ab_O 3 f), (2, ab_O 3 60)] [] := by
    intro k
    have fin : ∀ u1 : ab_S, cQ 60 [3, 9] u u1 → u1.1 3 60 4 = 4 → cP [3, 9] u u1 := fun u1 P1 a1 => P1.un (fun m hm em => by
      rw [a1]; exact ⟨fun q => by rcases q with q | q | q <;> exact absurd q (by decide), fun q => absurd q (by decide)⟩)
    induction k with
    | zero =>
      intro j u1 hj P1 a1 a2
      have P2 := fin u1 P1 a1
      refine ab_iload_n X 0 d_PT_offerAside_16 rfl rfl ?_
      refine ab_aload_n X 1 d_PT_offerAside_17 rfl rfl ?_
      refine ab_gI X fl_PT_37 d_PT_offerAside_18 (by first | assumption | decide | (show _ < 124; omega) | (show _ < 61; omega) | (show _ < 20; omega)) (P1.ii (by decide) en) ?_
      refine ab_icmp_ge X 44 d_PT_offerAside_21 rfl (fun _ => ?_) (fun hb => absurd ((nI_le (by omega) (by omega))) hb)
      refine ab_aload_n X 2 d_PT_offerAside_44 rfl rfl ?_
      refine ab_aload_n X 3 d_PT_offerAside_45 rfl rfl ?_
      refine ab_callV (as := [ab_O 3 60]) X (fun h => by cases h) (s_FM_offer u1 f 60 P2.1 (by omega) (by decide) (by omega)) lk_PT_73 d_PT_offerAside_46 rfl rfl (by first | assumption | decide | (show _ < 124; omega) | (show _ < 61; omega) | (show _ < 20; omega)) ⟨by first | exact Nat.le_of_ble_eq_true rfl | (simp only [ab_rm]; omega), by first | exact Nat.le_of_ble_eq_true rfl | (simp only [ab_rm]; omega)⟩ ⟨by first | exact Nat.le_of_ble_eq_true rfl | (simp only [ab_rm]; omega), by first | exact Nat.le_of_ble_eq_true rfl | (simp only [ab_rm]; omega)⟩ (Nat.le_of_ble_eq_true rfl) (fun u46 r46 h46 => ?_)
      obtain ⟨q46, rfl⟩ := h46
      have P46 := P2.trans q46 (by decide)
      exact ab_retv X hr0 hlk d_PT_offerAside_49 ⟨P46, rfl⟩
    | succ k ih =>
      intro j u1 hj P1 a1 a2
      have P2 := fin u1 P1 a1
      refine ab_iload_n X 0 d_PT_offerAside_16 rfl rfl ?_
      refine ab_aload_n X 1 d_PT_offerAside_17 rfl rfl ?_
      refine ab_gI X fl_PT_37 d_PT_offerAside_18 (by first | assumption | decide | (show _ < 124; omega) | (show _ < 61; omega) | (show _ < 20; omega)) (P1.ii (by decide) en) ?_
      refine ab_icmp_ge X 44 d_PT_offerAside_21 rfl (fun h21 => ?_) (fun h21 => ?_)
      ·
        refine ab_aload_n X 2 d_PT_offerAside_44 rfl rfl ?_
        refine ab_aload_n X 3 d_PT_offerAside_45 rfl rfl ?_
        refine ab_callV (as := [ab_O 3 60]) X (fun h => by cases h) (s_FM_offer u1 f 60 P2.1 (by omega) (by decide) (by omega)) lk_PT_73 d_PT_offerAside_46 rfl rfl (by first | assumption | decide | (show _ < 124; omega) | (show _ < 61; omega) | (show _ < 20; omega)) ⟨by first | exact Nat.le_of_ble_eq_true rfl | (simp only [ab_rm]; omega), by first | exact Nat.le_of_ble_eq_true rfl | (simp only [ab_rm]; omega)⟩ ⟨by first | exact Nat.le_of_ble_eq_true rfl | (simp only [ab_rm]; omega), by first | exact Nat.le_of_ble_eq_true rfl | (simp only [ab_rm]; omega)⟩ (Nat.le_of_ble_eq_true rfl) (fun u46 r46 h46 => ?_)
        obtain ⟨q46, rfl⟩ := h46
        have P46 := P2.trans q46 (by decide)
        exact ab_retv X hr0 hlk d_PT_offerAside_49 ⟨P46, rfl⟩
      ·
        have hjn := nI_lt_of h21 (by omega)
        obtain ⟨g, hg, eg⟩ := he j hjn
        refine ab_aload_n X 3 d_PT_offerAside_24 rfl rfl ?_
        refine ab_aload_n X 1 d_PT_offerAside_25 rfl rfl ?_
        refine ab_gR X fl_PT_11 d_PT_offerAside_26 (by first | assumption | decide | (show _ < 124; omega) | (show _ < 61; omega) | (show _ < 20; omega)) (P2.1.pt0 (by first | assumption | decide | omega)) ?_
        refine ab_iload_n X 0 d_PT_offerAside_29 rfl rfl ?_
        refine ab_aalv X (j) ⟨rfl, _, fun _ => rfl⟩ d_PT_offerAside_30 (by first | assumption | decide | (show _ < 124; omega) | (show _ < 61; omega) | (show _ < 20; omega)) (rfl) (show j < 4 by omega) (ab_ln_lt _ _) (P1.rr (by decide) eg) ?_
        refine ab_gR X fl_PT_24 d_PT_offerAside_31 (by first | assumption | decide | (show _ < 124; omega) | (show _ < 61; omega) | (show _ < 20; omega)) (P2.1.pt2 (by first | assumption | decide | omega)) ?_
        refine ab_callV (as := [ab_O 3 (3 * g + 1)]) X (fun h => by cases h) (s_FM_with u1 60 (3 * g + 1) j P1.1 (by decide) (by omega) a2 (by omega)) lk_PT_69 d_PT_offerAside_34 rfl rfl (by first | assumption | decide | (show _ < 124; omega) | (show _ < 61; omega) | (show _ < 20; omega)) ⟨by first | exact Nat.le_of_ble_eq_true rfl | (simp only [ab_rm]; omega), by first | exact Nat.le_of_ble_eq_true rfl | (simp only [ab_rm]; omega)⟩ ⟨by first | exact Nat.le_of_ble_eq_true rfl | (simp only [ab_rm]; omega), by first | exact Nat.le_of_ble_eq_true rfl | (simp only [ab_rm]; omega)⟩ (Nat.le_of_ble_eq_true rfl) (fun u34 r34 h34 => ?_)
        obtain ⟨⟨q34, b1, b2, b3⟩, rfl⟩ := h34
        have P34 := P2.trans q34 (by decide)
        refine ab_pop X d_PT_offerAside_37 rfl ?_
        refine ab_iinc3 X 0 1 2 3 d_PT_offerAside_38 rfl (by decide) rfl rfl rfl rfl rfl rfl ?_
        refine ab_goto X 16 d_PT_offerAside_41 rfl ?_
        rw [show nI j + Int32.ofInt 1 = nI (j + 1) from nI_1 j]
        exact ih (j + 1) _ (by omega) P34 (b2.trans a1) b3
  refine ab_aload_n X 2 d_PT_offerAside_0 rfl rfl ?_
  refine ab_iconst (v := 4) X d_PT_offerAside_1 (by decide) ?_
  refine ab_aload_n X 0 d_PT_offerAside_2 rfl rfl ?_
  refine ab_gI X fl_PT_30 d_PT_offerAside_3 (by first | assumption | decide | (show _ < 124; omega) | (show _ < 61; omega) | (show _ < 20; omega)) (rfl) ?_
  refine ab_aload_n X 0 d_PT_offerAside_6 rfl rfl ?_
  refine ab_gI X fl_PT_34 d_PT_offerAside_7 (by first | assumption | decide | (show _ < 124; omega) | (show _ < 61; omega) | (show _ < 20; omega)) (rfl) ?_
  refine ab_callV (as := [ab_I 4, ab_I _, ab_I _]) X (fun h => by cases h) (s_FM_start u 60 4 _ _ (P0.ex 60).1 (by decide)) lk_PT_65 d_PT_offerAside_10 rfl rfl (by first | assumption | decide | (show _ < 124; omega) | (show _ < 61; omega) | (show _ < 20; omega)) ⟨by first | exact Nat.le_of_ble_eq_true rfl | (simp only [ab_rm]; omega), by first | exact Nat.le_of_ble_eq_true rfl | (simp only [ab_rm]; omega)⟩ ⟨by first | exact Nat.le_of_ble_eq_true rfl | (simp only [ab_rm]; omega), by first | exact Nat.le_of_ble_eq_true rfl | (simp only [ab_rm]; omega)⟩ (Nat.le_of_ble_eq_true rfl) (fun u10 r10 h10 => ?_)
  obtain ⟨⟨q10, a1, a2, a3⟩, rfl⟩ := h10
  have P10 := P0.trans q10 (by decide)
  refine ab_pop X d_PT_offerAside_13 rfl ?_
  refine ab_iconst (v := 0) X d_PT_offerAside_14 (by decide) ?_
  refine ab_istore_n3 X 0 1 2 d_PT_offerAside_15 rfl (by decide) rfl rfl rfl rfl rfl rfl ?_
  exact loop 4 0 _ rfl P10 a2 a3
abbrev b_PT_offerRowOfAll : ByteArray := prog_5_method_11_code
def y_PT_offerRowOfAll : MethodName := ⟨"PolicyForge$Part", "offerRowOfAll", "(LPolicyForge$Form;)V"⟩
theorem d_PT_offerRowOfAll_0 : decode b_PT_offerRowOfAll 0 = .ok (.aload_n 1, 1) := by decide +kernel
theorem d_PT_offerRowOfAll_1 : decode b_PT_offerRowOfAll 1 = .ok (.iconst 2, 1) := by decide +kernel
theorem d_PT_offerRowOfAll_2 : decode b_PT_offerRowOfAll 2 = .ok (.iconst 0, 1) := by decide +kernel
theorem d_PT_offerRowOfAll_3 : decode b_PT_offerRowOfAll 3 = .ok (.aload_n 0, 1) := by decide +kernel
theorem d_PT_offerRowOfAll_4 : decode b_PT_offerRowOfAll 4 = .ok (.getfield 37, 3) := by decide +kernel
theorem d_PT_offerRowOfAll_7 : decode b_PT_offerRowOfAll 7 = .ok (.invokevirtual 65, 3) := by decide +kernel
theorem d_PT_offerRowOfAll_10 : decode b_PT_offerRowOfAll 10 = .ok (.pop, 1) := by decide +kernel
theorem d_PT_offerRowOfAll_11 : decode b_PT_offerRowOfAll 11 = .ok (.iconst 0, 1) := by decide +kernel
theorem d_PT_offerRowOfAll_12 : decode b_PT_offerRowOfAll 12 = .ok (.istore_n 2, 1) := by decide +kernel
theorem d_PT_offerRowOfAll_13 : decode b_PT_offerRowOfAll 13 = .ok (.iload_n 2, 1) := by decide +kernel
theorem d_PT_offerRowOfAll_14 : decode b_PT_offerRowOfAll 14 = .ok (.aload_n 0, 1) := by decide +kernel
theorem d_PT_offerRowOfAll_15 : decode b_PT_offerRowOfAll 15 = .ok (.getfield 37, 3) := by decide +kernel
theorem d_PT_offerRowOfAll_18 : decode b_PT_offerRowOfAll 18 = .ok (.if_icmp .ge 45, 3) := by decide +kernel
theorem d_PT_offerRowOfAll_21 : decode b_PT_offerRowOfAll 21 = .ok (.aload_n 1, 1) := by decide +kernel
theorem d_PT_offerRowOfAll_22 : decode b_PT_offerRowOfAll 22 = .ok (.iload_n 2, 1) := by decide +kernel
theorem d_PT_offerRowOfAll_23 : decode b_PT_offerRowOfAll 23 = .ok (.aload_n 0, 1) := by decide +kernel
theorem d_PT_offerRowOfAll_24 : decode b_PT_offerRowOfAll 24 = .ok (.getfield 37, 3) := by decide +kernel
theorem d_PT_offerRowOfAll_27 : decode b_PT_offerRowOfAll 27 = .ok (.iconst 1, 1) := by decide +kernel
theorem d_PT_offerRowOfAll_28 : decode b_PT_offerRowOfAll 28 = .ok (.isub, 1) := by decide +kernel
theorem d_PT_offerRowOfAll_29 : decode b_PT_offerRowOfAll 29 = .ok (.if_icmp .ge 15, 3) := by decide +kernel
theorem d_PT_offerRowOfAll_32 : decode b_PT_offerRowOfAll 32 = .ok (.aload_n 0, 1) := by decide +kernel
theorem d_PT_offerRowOfAll_33 : decode b_PT_offerRowOfAll 33 = .ok (.getfield 11, 3) := by decide +kernel
theorem d_PT_offerRowOfAll_36 : decode b_PT_offerRowOfAll 36 = .ok (.iload_n 2, 1) := by decide +kernel
theorem d_PT_offerRowOfAll_37 : decode b_PT_offerRowOfAll 37 = .ok (.aaload, 1) := by decide +kernel
theorem d_PT_offerRowOfAll_38 : decode b_PT_offerRowOfAll 38 = .ok (.getfield 27, 3) := by decide +kernel
theorem d_PT_offerRowOfAll_41 : decode b_PT_offerRowOfAll 41 = .ok (.goto 12, 3) := by decide +kernel
theorem d_PT_offerRowOfAll_44 : decode b_PT_offerRowOfAll 44 = .ok (.aload_n 0, 1) := by decide +kernel
theorem d_PT_offerRowOfAll_45 : decode b_PT_offerRowOfAll 45 = .ok (.getfield 11, 3) := by decide +kernel
theorem d_PT_offerRowOfAll_48 : decode b_PT_offerRowOfAll 48 = .ok (.iload_n 2, 1) := by decide +kernel
theorem d_PT_offerRowOfAll_49 : decode b_PT_offerRowOfAll 49 = .ok (.aaload, 1) := by decide +kernel
theorem d_PT_offerRowOfAll_50 : decode b_PT_offerRowOfAll 50 = .ok (.getfield 20, 3) := by decide +kernel
theorem d_PT_offerRowOfAll_53 : decode b_PT_offerRowOfAll 53 = .ok (.invokevirtual 69, 3) := by decide +kernel
theorem d_PT_offerRowOfAll_56 : decode b_PT_offerRowOfAll 56 = .ok (.pop, 1) := by decide +kernel
theorem d_PT_offerRowOfAll_57 : decode b_PT_offerRowOfAll 57 = .ok (.iinc 2 1, 3) := by decide +kernel
theorem d_PT_offerRowOfAll_60 : decode b_PT_offerRowOfAll 60 = .ok (.goto (-47), 3) := by decide +kernel
theorem d_PT_offerRowOfAll_63 : decode b_PT_offerRowOfAll 63 = .ok (.aload_n 0, 1) := by decide +kernel
theorem d_PT_offerRowOfAll_64 : decode b_PT_offerRowOfAll 64 = .ok (.getfield 20, 3) := by decide +kernel
theorem d_PT_offerRowOfAll_67 : decode b_PT_offerRowOfAll 67 = .ok (.aload_n 1, 1) := by decide +kernel
theorem d_PT_offerRowOfAll_68 : decode b_PT_offerRowOfAll 68 = .ok (.invokevirtual 73, 3) := by decide +kernel
theorem d_PT_offerRowOfAll_71 : decode b_PT_offerRowOfAll 71 = .ok (.return_, 1) := by decide +kernel
theorem fl_PT_27 : ab_fl "PolicyForge$Part" 27 2 3 1 := ⟨rfl, R_PT, T_PT, 8, rfl, uw_PT, by decide, rfl, (ab_in 217 (by decide +kernel) (by decide +kernel))⟩
theorem fl_PT_20 : ab_fl "PolicyForge$Part" 20 2 1 1 := ⟨rfl, R_PT, T_PT, 8, rfl, uw_PT, by decide, rfl, (ab_in 213 (by decide +kernel) (by decide +kernel))⟩
set_option maxRecDepth 100000 in
set_option maxHeartbeats 1000000 in
theorem s_PT_offerRowOfAll (u : ab_S) (p1 : Nat) (h : CI u) (hp : p1 < 20) : ab_C false l D ca y_PT_offerRowOfAll b_PT_offerRowOfAll 3 none 4 ab_nQ u [ab_O 2 p1, ab_O 3 60] (fun u' v => cP [3, 9] u u' ∧ v = none) := by
  refine ab_C.of (by decide) (Nat.le_of_ble_eq_true rfl) ?_
  intro p e s m args below meth c ad X hZ hr0 hlk
  have P0 : cP [3, 9] u u := cQ.rf h
  obtain ⟨n, hn, en, he⟩ := h.part hp
  have loop : ∀ (k j : Nat) (u1 : ab_S), k + j = 4 → cQ 60 [3, 9] u u1 → u1.1 3 60 4 = 2 → u1.1 3 60 7 = nI j → ab_J p l e (ab_rm 4 0 0) s m args below meth c (MQ below (ab_Q D ca ad ab_nQ s.heap.size (fun u' v => cP [3, 9] u u' ∧ v = none)) args s 0 0 (ab_A ad ab_nQ s.heap.size)) D ca (ab_A ad ab_nQ s.heap.size) s.heap 3 0 0 ad ab_nQ u1 13 [(2, ab_I (nI j)), (0, ab_O 2 p1), (1, ab_O 3 60)] [] := by
    intro k
    have fin : ∀ u1 : ab_S, cQ 60 [3, 9] u u1 → u1.1 3 60 4 = 2 → cP [3, 9] u u1 := fun u1 P1 a1 => P1.un (fun m hm em => by
      rw [a1]; exact ⟨fun q => by rcases q with q | q | q <;> exact absurd q (by decide), fun q => absurd q (by decide)⟩)
    induction k with
    | zero =>
      intro j u1 hj P1 a1 a2
      have P2 := fin u1 P1 a1
      refine ab_iload_n X 0 d_PT_offerRowOfAll_13 rfl rfl ?_
      refine ab_aload_n X 1 d_PT_offerRowOfAll_14 rfl rfl ?_
      refine ab_gI X fl_PT_37 d_PT_offerRowOfAll_15 (by first | assumption | decide | (show _ < 124; omega) | (show _ < 61; omega) | (show _ < 20; omega)) (P1.ii (by decide) en) ?_
      refine ab_icmp_ge X 63 d_PT_offerRowOfAll_18 rfl (fun _ => ?_) (fun hb => absurd ((nI_le (by omega) (by omega))) hb)
      refine ab_aload_n X 1 d_PT_offerRowOfAll_63 rfl rfl ?_
      refine ab_gR X fl_PT_20 d_PT_offerRowOfAll_64 (by first | assumption | decide | (show _ < 124; omega) | (show _ < 61; omega) | (show _ < 20; omega)) (P2.1.pt1 (by first | assumption | decide | omega)) ?_
      refine ab_aload_n X 2 d_PT_offerRowOfAll_67 rfl rfl ?_
      refine ab_callV (as := [ab_O 3 60]) X (fun h => by cases h) (s_FM_offer u1 (3 * p1) 60 P2.1 (by omega) (by decide) (by omega)) lk_PT_73 d_PT_offerRowOfAll_68 rfl rfl (by first | assumption | decide | (show _ < 124; omega) | (show _ < 61; omega) | (show _ < 20; omega)) ⟨by first | exact Nat.le_of_ble_eq_true rfl | (simp only [ab_rm]; omega), by first | exact Nat.le_of_ble_eq_true rfl | (simp only [ab_rm]; omega)⟩ ⟨by first | exact Nat.le_of_ble_eq_true rfl | (simp only [ab_rm]; omega), by first | exact Nat.le_of_ble_eq_true rfl | (simp only [ab_rm]; omega)⟩ (Nat.le_of_ble_eq_true rfl) (fun u68 r68 h68 => ?_)
      obtain ⟨q68, rfl⟩ := h68
      have P68 := P2.trans q68 (by decide)
      exact ab_retv X hr0 hlk d_PT_offerRowOfAll_71 ⟨P68, rfl⟩
    | succ k ih =>
      intro j u1 hj P1 a1 a2
      have P2 := fin u1 P1 a1
      refine ab_iload_n X 0 d_PT_offerRowOfAll_13 rfl rfl ?_
      refine ab_aload_n X 1 d_PT_offerRowOfAll_14 rfl rfl ?_
      refine ab_gI X fl_PT_37 d_PT_offerRowOfAll_15 (by first | assumption | decide | (show _ < 124; omega) | (show _ < 61; omega) | (show _ < 20; omega)) (P1.ii (by decide) en) ?_
      refine ab_icmp_ge X 63 d_PT_offerRowOfAll_18 rfl (fun h18 => ?_) (fun h18 => ?_)
      ·
        refine ab_aload_n X 1 d_PT_offerRowOfAll_63 rfl rfl ?_
        refine ab_gR X fl_PT_20 d_PT_offerRowOfAll_64 (by first | assumption | decide | (show _ < 124; omega) | (show _ < 61; omega) | (show _ < 20; omega)) (P2.1.pt1 (by first | assumption | decide | omega)) ?_
        refine ab_aload_n X 2 d_PT_offerRowOfAll_67 rfl rfl ?_
        refine ab_callV (as := [ab_O 3 60]) X (fun h => by cases h) (s_FM_offer u1 (3 * p1) 60 P2.1 (by omega) (by decide) (by omega)) lk_PT_73 d_PT_offerRowOfAll_68 rfl rfl (by first | assumption | decide | (show _ < 124; omega) | (show _ < 61; omega) | (show _ < 20; omega)) ⟨by first | exact Nat.le_of_ble_eq_true rfl | (simp only [ab_rm]; omega), by first | exact Nat.le_of_ble_eq_true rfl | (simp only [ab_rm]; omega)⟩ ⟨by first | exact Nat.le_of_ble_eq_true rfl | (simp only [ab_rm]; omega), by first | exact Nat.le_of_ble_eq_true rfl | (simp only [ab_rm]; omega)⟩ (Nat.le_of_ble_eq_true rfl) (fun u68 r68 h68 => ?_)
        obtain ⟨q68, rfl⟩ := h68
        have P68 := P2.trans q68 (by decide)
        exact ab_retv X hr0 hlk d_PT_offerRowOfAll_71 ⟨P68, rfl⟩
      ·
        have hjn := nI_lt_of h18 (by omega)
        obtain ⟨g, hg, eg⟩ := he j hjn
        refine ab_aload_n X 2 d_PT_offerRowOfAll_21 rfl rfl ?_
        refine ab_iload_n X 0 d_PT_offerRowOfAll_22 rfl rfl ?_
        refine ab_aload_n X 1 d_PT_offerRowOfAll_23 rfl rfl ?_
        refine ab_gI X fl_PT_37 d_PT_offerRowOfAll_24 (by first | assumption | decide | (show _ < 124; omega) | (show _ < 61; omega) | (show _ < 20; omega)) (rfl) ?_
        refine ab_iconst (v := 1) X d_PT_offerRowOfAll_27 (by decide) ?_
        refine ab_isub X d_PT_offerRowOfAll_28 ?_
        refine ab_icmp_ge X 44 d_PT_offerRowOfAll_29 rfl (fun h29 => ?_) (fun h29 => ?_)
        ·
          refine ab_aload_n X 1 d_PT_offerRowOfAll_44 rfl rfl ?_
          refine ab_gR X fl_PT_11 d_PT_offerRowOfAll_45 (by first | assumption | decide | (show _ < 124; omega) | (show _ < 61; omega) | (show _ < 20; omega)) (P2.1.pt0 (by first | assumption | decide | omega)) ?_
          refine ab_iload_n X 0 d_PT_offerRowOfAll_48 rfl rfl ?_
          refine ab_aalv X (j) ⟨rfl, _, fun _ => rfl⟩ d_PT_offerRowOfAll_49 (by first | assumption | decide | (show _ < 124; omega) | (show _ < 61; omega) | (show _ < 20; omega)) (rfl) (show j < 4 by omega) (ab_ln_lt _ _) (P1.rr (by decide) eg) ?_
          refine ab_gR X fl_PT_20 d_PT_offerRowOfAll_50 (by first | assumption | decide | (show _ < 124; omega) | (show _ < 61; omega) | (show _ < 20; omega)) (P2.1.pt1 (by first | assumption | decide | omega)) ?_
          refine ab_callV (as := [ab_O 3 _]) X (fun h => by cases h) (s_FM_with u1 60 _ j P1.1 (by decide) (by omega) a2 (by omega)) lk_PT_69 d_PT_offerRowOfAll_53 rfl rfl (by first | assumption | decide | (show _ < 124; omega) | (show _ < 61; omega) | (show _ < 20; omega)) ⟨by first | exact Nat.le_of_ble_eq_true rfl | (simp only [ab_rm]; omega), by first | exact Nat.le_of_ble_eq_true rfl | (simp only [ab_rm]; omega)⟩ ⟨by first | exact Nat.le_of_ble_eq_true rfl | (simp only [ab_rm]; omega), by first | exact Nat.le_of_ble_eq_true rfl | (simp only [ab_rm]; omega)⟩ (Nat.le_of_ble_eq_true rfl) (fun u53 r53 h53 => ?_)
          obtain ⟨⟨q53, b1, b2, b3⟩, rfl⟩ := h53
          have P53 := P2.trans q53 (by decide)
          refine ab_pop X d_PT_offerRowOfAll_56 rfl ?_
          refine ab_iinc2 X 0 1 2 d_PT_offerRowOfAll_57 rfl (by decide) rfl rfl rfl rfl ?_
          refine ab_goto X 13 d_PT_offerRowOfAll_60 rfl ?_
          rw [show nI j + Int32.ofInt 1 = nI (j + 1) from nI_1 j]
          exact ih (j + 1) _ (by omega) P53 (b2.trans a1) b3
        ·
          refine ab_aload_n X 1 d_PT_offerRowOfAll_32 rfl rfl ?_
          refine ab_gR X fl_PT_11 d_PT_offerRowOfAll_33 (by first | assumption | decide | (show _ < 124; omega) | (show _ < 61; omega) | (show _ < 20; omega)) (P2.1.pt0 (by first | assumption | decide | omega)) ?_
          refine ab_iload_n X 0 d_PT_offerRowOfAll_36 rfl rfl ?_
          refine ab_aalv X (j) ⟨rfl, _, fun _ => rfl⟩ d_PT_offerRowOfAll_37 (by first | assumption | decide | (show _ < 124; omega) | (show _ < 61; omega) | (show _ < 20; omega)) (rfl) (show j < 4 by omega) (ab_ln_lt _ _) (P1.rr (by decide) eg) ?_
          refine ab_gR X fl_PT_27 d_PT_offerRowOfAll_38 (by first | assumption | decide | (show _ < 124; omega) | (show _ < 61; omega) | (show _ < 20; omega)) (P2.1.pt3 (by first | assumption | decide | omega)) ?_
          refine ab_goto X 53 d_PT_offerRowOfAll_41 rfl ?_
          refine ab_callV (as := [ab_O 3 _]) X (fun h => by cases h) (s_FM_with u1 60 _ j P1.1 (by decide) (by omega) a2 (by omega)) lk_PT_69 d_PT_offerRowOfAll_53 rfl rfl (by first | assumption | decide | (show _ < 124; omega) | (show _ < 61; omega) | (show _ < 20; omega)) ⟨by first | exact Nat.le_of_ble_eq_true rfl | (simp only [ab_rm]; omega), by first | exact Nat.le_of_ble_eq_true rfl | (simp only [ab_rm]; omega)⟩ ⟨by first | exact Nat.le_of_ble_eq_true rfl | (simp only [ab_rm]; omega), by first | exact Nat.le_of_ble_eq_true rfl | (simp only [ab_rm]; omega)⟩ (Nat.le_of_ble_eq_true rfl) (fun u53 r53 h53 => ?_)
          obtain ⟨⟨q53, b1, b2, b3⟩, rfl⟩ := h53
          have P53 := P2.trans q53 (by decide)
          refine ab_pop X d_PT_offerRowOfAll_56 rfl ?_
          refine ab_iinc2 X 0 1 2 d_PT_offerRowOfAll_57 rfl (by decide) rfl rfl rfl rfl ?_
          refine ab_goto X 13 d_PT_offerRowOfAll_60 rfl ?_
          rw [show nI j + Int32.ofInt 1 = nI (j + 1) from nI_1 j]
          exact ih (j + 1) _ (by omega) P53 (b2.trans a1) b3
  refine ab_aload_n X 1 d_PT_offerRowOfAll_0 rfl rfl ?_
  refine ab_iconst (v := 2) X d_PT_offerRowOfAll_1 (by decide) ?_
  refine ab_iconst (v := 0) X d_PT_offerRowOfAll_2 (by decide) ?_
  refine ab_aload_n X 0 d_PT_offerRowOfAll_3 rfl rfl ?_
  refine ab_gI X fl_PT_37 d_PT_offerRowOfAll_4 (by first | assumption | decide | (show _ < 124; omega) | (show _ < 61; omega) | (show _ < 20; omega)) (rfl) ?_
  refine ab_callV (as := [ab_I 2, ab_I 0, ab_I _]) X (fun h => by cases h) (s_FM_start u 60 2 0 _ (P0.ex 60).1 (by decide)) lk_PT_65 d_PT_offerRowOfAll_7 rfl rfl (by first | assumption | decide | (show _ < 124; omega) | (show _ < 61; omega) | (show _ < 20; omega)) ⟨by first | exact Nat.le_of_ble_eq_true rfl | (simp only [ab_rm]; omega), by first | exact Nat.le_of_ble_eq_true rfl | (simp only [ab_rm]; omega)⟩ ⟨by first | exact Nat.le_of_ble_eq_true rfl | (simp only [ab_rm]; omega), by first | exact Nat.le_of_ble_eq_true rfl | (simp only [ab_rm]; omega)⟩ (Nat.le_of_ble_eq_true rfl) (fun u7 r7 h7 => ?_)
  obtain ⟨⟨q7, a1, a2, a3⟩, rfl⟩ := h7
  have P7 := P0.trans q7 (by decide)
  refine ab_pop X d_PT_offerRowOfAll_10 rfl ?_
  refine ab_iconst (v := 0) X d_PT_offerRowOfAll_11 (by decide) ?_
  refine ab_istore_n2 X 0 1 d_PT_offerRowOfAll_12 rfl (by decide) rfl rfl rfl rfl ?_
  exact loop 4 0 _ rfl P7 a2 a3
/-- start with one form taken, or none: what is offered then -/
theorem ci_done {u u1 : ab_S} {a : Int32} {m : Nat} (P1 : cQ 60 [3, 9] u u1) (e4 : u1.1 3 60 4 = a) (e7 : u1.1 3 60 7 = nI m) (hm : m ≤ 4) (hk : ci_cl a m) : cP [3, 9] u u1 := P1.un (fun m' hm' em => by
  obtain rfl : m' = m := (nI_eq (by omega) (by omega)).mp (em.symm.trans e7)
  rw [e4]; exact hk)
theorem ci_cl1 {m : Nat} : ci_cl 1 m := ⟨fun q => by rcases q with q | q | q <;> exact absurd q (by decide), fun q => absurd q (by decide)⟩
theorem ci_cl3 {m : Nat} : ci_cl 3 m := ⟨fun q => by rcases q with q | q | q <;> exact absurd q (by decide), fun q => absurd q (by decide)⟩
theorem ci_cl6 {m : Nat} (h : 1 ≤ m) : ci_cl 6 m := ⟨fun q => by rcases q with q | q | q <;> exact absurd q (by decide), fun _ => h⟩
theorem ci_two {x : Nat} {u : ab_S} {p1 : Nat} (h : CIx x u) (hp : p1 < 20) (e : u.1 2 p1 6 = 2) : ∃ a b, a < 20 ∧ b < 20 ∧ u.2.1 10 p1 0 = some (2, a) ∧ u.2.1 10 p1 1 = some (2, b) := by
  obtain ⟨n, hn, en, he⟩ := h.part hp
  obtain rfl : n = 2 := (nI_eq (b := 2) (by omega) (by omega)).mp (en.symm.trans e)
  obtain ⟨a, a1, a2⟩ := he 0 (by omega)
  obtain ⟨b, b1, b2⟩ := he 1 (by omega)
  exact ⟨a, b, a1, b1, a2, b2⟩
abbrev b_PT_offerWaysOfB : ByteArray := prog_5_method_6_code
def y_PT_offerWaysOfB : MethodName := ⟨"PolicyForge$Part", "offerWaysOfB", "(LPolicyForge$Form;)V"⟩
theorem d_PT_offerWaysOfB_0 : decode b_PT_offerWaysOfB 0 = .ok (.aload_n 0, 1) := by decide +kernel
theorem d_PT_offerWaysOfB_1 : decode b_PT_offerWaysOfB 1 = .ok (.getfield 30, 3) := by decide +kernel
theorem d_PT_offerWaysOfB_4 : decode b_PT_offerWaysOfB 4 = .ok (.invokestatic 44, 3) := by decide +kernel
theorem d_PT_offerWaysOfB_7 : decode b_PT_offerWaysOfB 7 = .ok (.ifCond .eq 40, 3) := by decide +kernel
theorem d_PT_offerWaysOfB_10 : decode b_PT_offerWaysOfB 10 = .ok (.aload_n 0, 1) := by decide +kernel
theorem d_PT_offerWaysOfB_11 : decode b_PT_offerWaysOfB 11 = .ok (.getfield 30, 3) := by decide +kernel
theorem d_PT_offerWaysOfB_14 : decode b_PT_offerWaysOfB 14 = .ok (.iconst 1, 1) := by decide +kernel
theorem d_PT_offerWaysOfB_15 : decode b_PT_offerWaysOfB 15 = .ok (.if_icmp .eq 32, 3) := by decide +kernel
theorem d_PT_offerWaysOfB_18 : decode b_PT_offerWaysOfB 18 = .ok (.aload_n 0, 1) := by decide +kernel
theorem d_PT_offerWaysOfB_19 : decode b_PT_offerWaysOfB 19 = .ok (.getfield 20, 3) := by decide +kernel
theorem d_PT_offerWaysOfB_22 : decode b_PT_offerWaysOfB 22 = .ok (.aload_n 1, 1) := by decide +kernel
theorem d_PT_offerWaysOfB_23 : decode b_PT_offerWaysOfB 23 = .ok (.iconst 1, 1) := by decide +kernel
theorem d_PT_offerWaysOfB_24 : decode b_PT_offerWaysOfB 24 = .ok (.sipush 1000, 3) := by decide +kernel
theorem d_PT_offerWaysOfB_27 : decode b_PT_offerWaysOfB 27 = .ok (.aload_n 0, 1) := by decide +kernel
theorem d_PT_offerWaysOfB_28 : decode b_PT_offerWaysOfB 28 = .ok (.getfield 30, 3) := by decide +kernel
theorem d_PT_offerWaysOfB_31 : decode b_PT_offerWaysOfB 31 = .ok (.imul, 1) := by decide +kernel
theorem d_PT_offerWaysOfB_32 : decode b_PT_offerWaysOfB 32 = .ok (.aload_n 0, 1) := by decide +kernel
theorem d_PT_offerWaysOfB_33 : decode b_PT_offerWaysOfB 33 = .ok (.getfield 34, 3) := by decide +kernel
theorem d_PT_offerWaysOfB_36 : decode b_PT_offerWaysOfB 36 = .ok (.iadd, 1) := by decide +kernel
theorem d_PT_offerWaysOfB_37 : decode b_PT_offerWaysOfB 37 = .ok (.iconst 0, 1) := by decide +kernel
theorem d_PT_offerWaysOfB_38 : decode b_PT_offerWaysOfB 38 = .ok (.invokevirtual 65, 3) := by decide +kernel
theorem d_PT_offerWaysOfB_41 : decode b_PT_offerWaysOfB 41 = .ok (.invokevirtual 73, 3) := by decide +kernel
theorem d_PT_offerWaysOfB_44 : decode b_PT_offerWaysOfB 44 = .ok (.goto 205, 3) := by decide +kernel
theorem d_PT_offerWaysOfB_47 : decode b_PT_offerWaysOfB 47 = .ok (.aload_n 0, 1) := by decide +kernel
theorem d_PT_offerWaysOfB_48 : decode b_PT_offerWaysOfB 48 = .ok (.getfield 30, 3) := by decide +kernel
theorem d_PT_offerWaysOfB_51 : decode b_PT_offerWaysOfB 51 = .ok (.bipush 6, 2) := by decide +kernel
theorem d_PT_offerWaysOfB_53 : decode b_PT_offerWaysOfB 53 = .ok (.if_icmp .ne 68, 3) := by decide +kernel
theorem d_PT_offerWaysOfB_56 : decode b_PT_offerWaysOfB 56 = .ok (.aload_n 0, 1) := by decide +kernel
theorem d_PT_offerWaysOfB_57 : decode b_PT_offerWaysOfB 57 = .ok (.getfield 37, 3) := by decide +kernel
theorem d_PT_offerWaysOfB_60 : decode b_PT_offerWaysOfB 60 = .ok (.iconst 2, 1) := by decide +kernel
theorem d_PT_offerWaysOfB_61 : decode b_PT_offerWaysOfB 61 = .ok (.if_icmp .ne 60, 3) := by decide +kernel
theorem d_PT_offerWaysOfB_64 : decode b_PT_offerWaysOfB 64 = .ok (.aload_n 0, 1) := by decide +kernel
theorem d_PT_offerWaysOfB_65 : decode b_PT_offerWaysOfB 65 = .ok (.getfield 20, 3) := by decide +kernel
theorem d_PT_offerWaysOfB_68 : decode b_PT_offerWaysOfB 68 = .ok (.aload_n 1, 1) := by decide +kernel
theorem d_PT_offerWaysOfB_69 : decode b_PT_offerWaysOfB 69 = .ok (.iconst 2, 1) := by decide +kernel
theorem d_PT_offerWaysOfB_70 : decode b_PT_offerWaysOfB 70 = .ok (.aload_n 0, 1) := by decide +kernel
theorem d_PT_offerWaysOfB_71 : decode b_PT_offerWaysOfB 71 = .ok (.getfield 11, 3) := by decide +kernel
theorem d_PT_offerWaysOfB_74 : decode b_PT_offerWaysOfB 74 = .ok (.iconst 0, 1) := by decide +kernel
theorem d_PT_offerWaysOfB_75 : decode b_PT_offerWaysOfB 75 = .ok (.aaload, 1) := by decide +kernel
theorem d_PT_offerWaysOfB_76 : decode b_PT_offerWaysOfB 76 = .ok (.getfield 27, 3) := by decide +kernel
theorem d_PT_offerWaysOfB_79 : decode b_PT_offerWaysOfB 79 = .ok (.aload_n 0, 1) := by decide +kernel
theorem d_PT_offerWaysOfB_80 : decode b_PT_offerWaysOfB 80 = .ok (.getfield 11, 3) := by decide +kernel
theorem d_PT_offerWaysOfB_83 : decode b_PT_offerWaysOfB 83 = .ok (.iconst 1, 1) := by decide +kernel
theorem d_PT_offerWaysOfB_84 : decode b_PT_offerWaysOfB 84 = .ok (.aaload, 1) := by decide +kernel
theorem d_PT_offerWaysOfB_85 : decode b_PT_offerWaysOfB 85 = .ok (.getfield 20, 3) := by decide +kernel
theorem d_PT_offerWaysOfB_88 : decode b_PT_offerWaysOfB 88 = .ok (.invokestatic 82, 3) := by decide +kernel
theorem d_PT_offerWaysOfB_91 : decode b_PT_offerWaysOfB 91 = .ok (.aload_n 0, 1) := by decide +kernel
theorem d_PT_offerWaysOfB_92 : decode b_PT_offerWaysOfB 92 = .ok (.getfield 20, 3) := by decide +kernel
theorem d_PT_offerWaysOfB_95 : decode b_PT_offerWaysOfB 95 = .ok (.aload_n 1, 1) := by decide +kernel
theorem d_PT_offerWaysOfB_96 : decode b_PT_offerWaysOfB 96 = .ok (.iconst 2, 1) := by decide +kernel
theorem d_PT_offerWaysOfB_97 : decode b_PT_offerWaysOfB 97 = .ok (.aload_n 0, 1) := by decide +kernel
theorem d_PT_offerWaysOfB_98 : decode b_PT_offerWaysOfB 98 = .ok (.getfield 11, 3) := by decide +kernel
theorem d_PT_offerWaysOfB_101 : decode b_PT_offerWaysOfB 101 = .ok (.iconst 1, 1) := by decide +kernel
theorem d_PT_offerWaysOfB_102 : decode b_PT_offerWaysOfB 102 = .ok (.aaload, 1) := by decide +kernel
theorem d_PT_offerWaysOfB_103 : decode b_PT_offerWaysOfB 103 = .ok (.getfield 27, 3) := by decide +kernel
theorem d_PT_offerWaysOfB_106 : decode b_PT_offerWaysOfB 106 = .ok (.aload_n 0, 1) := by decide +kernel
theorem d_PT_offerWaysOfB_107 : decode b_PT_offerWaysOfB 107 = .ok (.getfield 11, 3) := by decide +kernel
theorem d_PT_offerWaysOfB_110 : decode b_PT_offerWaysOfB 110 = .ok (.iconst 0, 1) := by decide +kernel
theorem d_PT_offerWaysOfB_111 : decode b_PT_offerWaysOfB 111 = .ok (.aaload, 1) := by decide +kernel
theorem d_PT_offerWaysOfB_112 : decode b_PT_offerWaysOfB 112 = .ok (.getfield 20, 3) := by decide +kernel
theorem d_PT_offerWaysOfB_115 : decode b_PT_offerWaysOfB 115 = .ok (.invokestatic 82, 3) := by decide +kernel
theorem d_PT_offerWaysOfB_118 : decode b_PT_offerWaysOfB 118 = .ok (.goto 131, 3) := by decide +kernel
theorem d_PT_offerWaysOfB_121 : decode b_PT_offerWaysOfB 121 = .ok (.aload_n 0, 1) := by decide +kernel
theorem d_PT_offerWaysOfB_122 : decode b_PT_offerWaysOfB 122 = .ok (.getfield 30, 3) := by decide +kernel
theorem d_PT_offerWaysOfB_125 : decode b_PT_offerWaysOfB 125 = .ok (.bipush 7, 2) := by decide +kernel
theorem d_PT_offerWaysOfB_127 : decode b_PT_offerWaysOfB 127 = .ok (.if_icmp .ne 97, 3) := by decide +kernel
theorem d_PT_offerWaysOfB_130 : decode b_PT_offerWaysOfB 130 = .ok (.aload_n 0, 1) := by decide +kernel
theorem d_PT_offerWaysOfB_131 : decode b_PT_offerWaysOfB 131 = .ok (.getfield 37, 3) := by decide +kernel
theorem d_PT_offerWaysOfB_134 : decode b_PT_offerWaysOfB 134 = .ok (.iconst 2, 1) := by decide +kernel
theorem d_PT_offerWaysOfB_135 : decode b_PT_offerWaysOfB 135 = .ok (.if_icmp .ne 89, 3) := by decide +kernel
theorem d_PT_offerWaysOfB_138 : decode b_PT_offerWaysOfB 138 = .ok (.aload_n 0, 1) := by decide +kernel
theorem d_PT_offerWaysOfB_139 : decode b_PT_offerWaysOfB 139 = .ok (.getfield 20, 3) := by decide +kernel
theorem d_PT_offerWaysOfB_142 : decode b_PT_offerWaysOfB 142 = .ok (.aload_n 1, 1) := by decide +kernel
theorem d_PT_offerWaysOfB_143 : decode b_PT_offerWaysOfB 143 = .ok (.bipush 7, 2) := by decide +kernel
theorem d_PT_offerWaysOfB_145 : decode b_PT_offerWaysOfB 145 = .ok (.aload_n 0, 1) := by decide +kernel
theorem d_PT_offerWaysOfB_146 : decode b_PT_offerWaysOfB 146 = .ok (.getfield 11, 3) := by decide +kernel
theorem d_PT_offerWaysOfB_149 : decode b_PT_offerWaysOfB 149 = .ok (.iconst 0, 1) := by decide +kernel
theorem d_PT_offerWaysOfB_150 : decode b_PT_offerWaysOfB 150 = .ok (.aaload, 1) := by decide +kernel
theorem d_PT_offerWaysOfB_151 : decode b_PT_offerWaysOfB 151 = .ok (.getfield 24, 3) := by decide +kernel
theorem d_PT_offerWaysOfB_154 : decode b_PT_offerWaysOfB 154 = .ok (.aload_n 0, 1) := by decide +kernel
theorem d_PT_offerWaysOfB_155 : decode b_PT_offerWaysOfB 155 = .ok (.getfield 11, 3) := by decide +kernel
theorem d_PT_offerWaysOfB_158 : decode b_PT_offerWaysOfB 158 = .ok (.iconst 1, 1) := by decide +kernel
theorem d_PT_offerWaysOfB_159 : decode b_PT_offerWaysOfB 159 = .ok (.aaload, 1) := by decide +kernel
theorem d_PT_offerWaysOfB_160 : decode b_PT_offerWaysOfB 160 = .ok (.getfield 20, 3) := by decide +kernel
theorem d_PT_offerWaysOfB_163 : decode b_PT_offerWaysOfB 163 = .ok (.invokestatic 82, 3) := by decide +kernel
theorem d_PT_offerWaysOfB_166 : decode b_PT_offerWaysOfB 166 = .ok (.aload_n 0, 1) := by decide +kernel
theorem d_PT_offerWaysOfB_167 : decode b_PT_offerWaysOfB 167 = .ok (.getfield 20, 3) := by decide +kernel
theorem d_PT_offerWaysOfB_170 : decode b_PT_offerWaysOfB 170 = .ok (.aload_n 1, 1) := by decide +kernel
theorem d_PT_offerWaysOfB_171 : decode b_PT_offerWaysOfB 171 = .ok (.bipush 7, 2) := by decide +kernel
theorem d_PT_offerWaysOfB_173 : decode b_PT_offerWaysOfB 173 = .ok (.aload_n 0, 1) := by decide +kernel
theorem d_PT_offerWaysOfB_174 : decode b_PT_offerWaysOfB 174 = .ok (.getfield 11, 3) := by decide +kernel
theorem d_PT_offerWaysOfB_177 : decode b_PT_offerWaysOfB 177 = .ok (.iconst 1, 1) := by decide +kernel
theorem d_PT_offerWaysOfB_178 : decode b_PT_offerWaysOfB 178 = .ok (.aaload, 1) := by decide +kernel
theorem d_PT_offerWaysOfB_179 : decode b_PT_offerWaysOfB 179 = .ok (.getfield 24, 3) := by decide +kernel
theorem d_PT_offerWaysOfB_182 : decode b_PT_offerWaysOfB 182 = .ok (.aload_n 0, 1) := by decide +kernel
theorem d_PT_offerWaysOfB_183 : decode b_PT_offerWaysOfB 183 = .ok (.getfield 11, 3) := by decide +kernel
theorem d_PT_offerWaysOfB_186 : decode b_PT_offerWaysOfB 186 = .ok (.iconst 0, 1) := by decide +kernel
theorem d_PT_offerWaysOfB_187 : decode b_PT_offerWaysOfB 187 = .ok (.aaload, 1) := by decide +kernel
theorem d_PT_offerWaysOfB_188 : decode b_PT_offerWaysOfB 188 = .ok (.getfield 20, 3) := by decide +kernel
theorem d_PT_offerWaysOfB_191 : decode b_PT_offerWaysOfB 191 = .ok (.invokestatic 82, 3) := by decide +kernel
theorem d_PT_offerWaysOfB_194 : decode b_PT_offerWaysOfB 194 = .ok (.aload_n 0, 1) := by decide +kernel
theorem d_PT_offerWaysOfB_195 : decode b_PT_offerWaysOfB 195 = .ok (.getfield 20, 3) := by decide +kernel
theorem d_PT_offerWaysOfB_198 : decode b_PT_offerWaysOfB 198 = .ok (.aload_n 1, 1) := by decide +kernel
theorem d_PT_offerWaysOfB_199 : decode b_PT_offerWaysOfB 199 = .ok (.iconst 5, 1) := by decide +kernel
theorem d_PT_offerWaysOfB_200 : decode b_PT_offerWaysOfB 200 = .ok (.aload_n 0, 1) := by decide +kernel
theorem d_PT_offerWaysOfB_201 : decode b_PT_offerWaysOfB 201 = .ok (.getfield 11, 3) := by decide +kernel
theorem d_PT_offerWaysOfB_204 : decode b_PT_offerWaysOfB 204 = .ok (.iconst 0, 1) := by decide +kernel
theorem d_PT_offerWaysOfB_205 : decode b_PT_offerWaysOfB 205 = .ok (.aaload, 1) := by decide +kernel
theorem d_PT_offerWaysOfB_206 : decode b_PT_offerWaysOfB 206 = .ok (.getfield 20, 3) := by decide +kernel
theorem d_PT_offerWaysOfB_209 : decode b_PT_offerWaysOfB 209 = .ok (.aload_n 0, 1) := by decide +kernel
theorem d_PT_offerWaysOfB_210 : decode b_PT_offerWaysOfB 210 = .ok (.getfield 11, 3) := by decide +kernel
theorem d_PT_offerWaysOfB_213 : decode b_PT_offerWaysOfB 213 = .ok (.iconst 1, 1) := by decide +kernel
theorem d_PT_offerWaysOfB_214 : decode b_PT_offerWaysOfB 214 = .ok (.aaload, 1) := by decide +kernel
theorem d_PT_offerWaysOfB_215 : decode b_PT_offerWaysOfB 215 = .ok (.getfield 20, 3) := by decide +kernel
theorem d_PT_offerWaysOfB_218 : decode b_PT_offerWaysOfB 218 = .ok (.invokestatic 82, 3) := by decide +kernel
theorem d_PT_offerWaysOfB_221 : decode b_PT_offerWaysOfB 221 = .ok (.goto 28, 3) := by decide +kernel
theorem d_PT_offerWaysOfB_224 : decode b_PT_offerWaysOfB 224 = .ok (.aload_n 0, 1) := by decide +kernel
theorem d_PT_offerWaysOfB_225 : decode b_PT_offerWaysOfB 225 = .ok (.getfield 30, 3) := by decide +kernel
theorem d_PT_offerWaysOfB_228 : decode b_PT_offerWaysOfB 228 = .ok (.bipush 8, 2) := by decide +kernel
theorem d_PT_offerWaysOfB_230 : decode b_PT_offerWaysOfB 230 = .ok (.if_icmp .ne 19, 3) := by decide +kernel
theorem d_PT_offerWaysOfB_233 : decode b_PT_offerWaysOfB 233 = .ok (.aload_n 0, 1) := by decide +kernel
theorem d_PT_offerWaysOfB_234 : decode b_PT_offerWaysOfB 234 = .ok (.getfield 34, 3) := by decide +kernel
theorem d_PT_offerWaysOfB_237 : decode b_PT_offerWaysOfB 237 = .ok (.aload_n 0, 1) := by decide +kernel
theorem d_PT_offerWaysOfB_238 : decode b_PT_offerWaysOfB 238 = .ok (.getfield 37, 3) := by decide +kernel
theorem d_PT_offerWaysOfB_241 : decode b_PT_offerWaysOfB 241 = .ok (.if_icmp .ne 8, 3) := by decide +kernel
theorem d_PT_offerWaysOfB_244 : decode b_PT_offerWaysOfB 244 = .ok (.aload_n 0, 1) := by decide +kernel
theorem d_PT_offerWaysOfB_245 : decode b_PT_offerWaysOfB 245 = .ok (.aload_n 1, 1) := by decide +kernel
theorem d_PT_offerWaysOfB_246 : decode b_PT_offerWaysOfB 246 = .ok (.invokevirtual 86, 3) := by decide +kernel
theorem d_PT_offerWaysOfB_249 : decode b_PT_offerWaysOfB 249 = .ok (.return_, 1) := by decide +kernel
theorem ls_PT_82 : ab_ls "PolicyForge$Part" 82 y_PT_offerTwo b_PT_offerTwo 5 none 5 := ⟨List.forall_mem_cons.mpr ⟨(ab_in 647 (by decide +kernel) (by decide +kernel)), List.forall_mem_cons.mpr ⟨(ab_in 648 (by decide +kernel) (by decide +kernel)), List.forall_mem_cons.mpr ⟨(ab_in 94 (by decide +kernel) (by decide +kernel)), List.forall_mem_cons.mpr ⟨(ab_in 649 (by decide +kernel) (by decide +kernel)), fun _ h => absurd h List.not_mem_nil⟩⟩⟩⟩, ⟨by decide +kernel, by decide +kernel, by decide +kernel⟩, by decide⟩
theorem lk_PT_86 : ab_lk "PolicyForge$Part" 86 y_PT_offerRowOfAll b_PT_offerRowOfAll 3 none 1 2 := ⟨⟨rfl, T_PT, 8, rfl⟩, List.forall_mem_cons.mpr ⟨(ab_in 651 (by decide +kernel) (by decide +kernel)), List.forall_mem_cons.mpr ⟨(ab_in 653 (by decide +kernel) (by decide +kernel)), List.forall_mem_cons.mpr ⟨(ab_in 17 (by decide +kernel) (by decide +kernel)), List.forall_mem_cons.mpr ⟨(ab_in 94 (by decide +kernel) (by decide +kernel)), List.forall_mem_cons.mpr ⟨(ab_in 654 (by decide +kernel) (by decide +kernel)), fun _ h => absurd h List.not_mem_nil⟩⟩⟩⟩⟩, ⟨by decide +kernel, by decide +kernel, by decide +kernel⟩, by decide⟩
set_option maxRecDepth 100000 in
set_option maxHeartbeats 1000000 in
theorem s_PT_offerWaysOfB (u : ab_S) (p1 : Nat) (h : CI u) (hp : p1 < 20) : ab_C false l D ca y_PT_offerWaysOfB b_PT_offerWaysOfB 2 none 5 ab_nQ u [ab_O 2 p1, ab_O 3 60] (fun u' v => cP [3, 9] u u' ∧ v = none) := by
  refine ab_C.of (by decide) (Nat.le_of_ble_eq_true rfl) ?_
  intro p e s m args below meth c ad X hZ hr0 hlk
  have P0 : cP [3, 9] u u := cQ.rf h
  refine ab_aload_n X 0 d_PT_offerWaysOfB_0 rfl rfl ?_
  refine ab_gI X fl_PT_30 d_PT_offerWaysOfB_1 (by first | assumption | decide | (show _ < 124; omega) | (show _ < 61; omega) | (show _ < 20; omega)) (rfl) ?_
  refine ab_callSN (as := [ab_I _]) X (fun h => by cases h) (t_PF_isLeaf u _ h) ls_PT_44 d_PT_offerWaysOfB_4 rfl rfl ⟨by first | exact Nat.le_of_ble_eq_true rfl | (simp only [ab_rm]; omega), by first | exact Nat.le_of_ble_eq_true rfl | (simp only [ab_rm]; omega)⟩ ⟨by first | exact Nat.le_of_ble_eq_true rfl | (simp only [ab_rm]; omega), by first | exact Nat.le_of_ble_eq_true rfl | (simp only [ab_rm]; omega)⟩ (Nat.le_of_ble_eq_true rfl) (fun u4 r4 h4 => ?_)
  obtain ⟨e4, b4, hb4, rfl⟩ := h4
  subst u4
  refine ab_if_eq X 47 d_PT_offerWaysOfB_7 rfl (fun h7 => ?_) (fun h7 => ?_)
  ·
    refine ab_aload_n X 0 d_PT_offerWaysOfB_47 rfl rfl ?_
    refine ab_gI X fl_PT_30 d_PT_offerWaysOfB_48 (by first | assumption | decide | (show _ < 124; omega) | (show _ < 61; omega) | (show _ < 20; omega)) (rfl) ?_
    refine ab_bipush (v := 6) X d_PT_offerWaysOfB_51 (by decide) ?_
    refine ab_icmp_ne X 121 d_PT_offerWaysOfB_53 rfl (fun h53 => ?_) (fun h53 => ?_)
    ·
      refine ab_aload_n X 0 d_PT_offerWaysOfB_121 rfl rfl ?_
      refine ab_gI X fl_PT_30 d_PT_offerWaysOfB_122 (by first | assumption | decide | (show _ < 124; omega) | (show _ < 61; omega) | (show _ < 20; omega)) (rfl) ?_
      refine ab_bipush (v := 7) X d_PT_offerWaysOfB_125 (by decide) ?_
      refine ab_icmp_ne X 224 d_PT_offerWaysOfB_127 rfl (fun h127 => ?_) (fun h127 => ?_)
      ·
        refine ab_aload_n X 0 d_PT_offerWaysOfB_224 rfl rfl ?_
        refine ab_gI X fl_PT_30 d_PT_offerWaysOfB_225 (by first | assumption | decide | (show _ < 124; omega) | (show _ < 61; omega) | (show _ < 20; omega)) (rfl) ?_
        refine ab_bipush (v := 8) X d_PT_offerWaysOfB_228 (by decide) ?_
        refine ab_icmp_ne X 249 d_PT_offerWaysOfB_230 rfl (fun h230 => ?_) (fun h230 => ?_)
        ·
          exact ab_retv X hr0 hlk d_PT_offerWaysOfB_249 ⟨P0, rfl⟩
        ·
          refine ab_aload_n X 0 d_PT_offerWaysOfB_233 rfl rfl ?_
          refine ab_gI X fl_PT_34 d_PT_offerWaysOfB_234 (by first | assumption | decide | (show _ < 124; omega) | (show _ < 61; omega) | (show _ < 20; omega)) (rfl) ?_
          refine ab_aload_n X 0 d_PT_offerWaysOfB_237 rfl rfl ?_
          refine ab_gI X fl_PT_37 d_PT_offerWaysOfB_238 (by first | assumption | decide | (show _ < 124; omega) | (show _ < 61; omega) | (show _ < 20; omega)) (rfl) ?_
          refine ab_icmp_ne X 249 d_PT_offerWaysOfB_241 rfl (fun h241 => ?_) (fun h241 => ?_)
          ·
            exact ab_retv X hr0 hlk d_PT_offerWaysOfB_249 ⟨P0, rfl⟩
          ·
            refine ab_aload_n X 0 d_PT_offerWaysOfB_244 rfl rfl ?_
            refine ab_aload_n X 1 d_PT_offerWaysOfB_245 rfl rfl ?_
            refine ab_callV (as := [ab_O 3 60]) X (fun h => by cases h) (s_PT_offerRowOfAll u p1 h hp) lk_PT_86 d_PT_offerWaysOfB_246 rfl rfl (by first | assumption | decide | (show _ < 124; omega) | (show _ < 61; omega) | (show _ < 20; omega)) ⟨by first | exact Nat.le_of_ble_eq_true rfl | (simp only [ab_rm]; omega), by first | exact Nat.le_of_ble_eq_true rfl | (simp only [ab_rm]; omega)⟩ ⟨by first | exact Nat.le_of_ble_eq_true rfl | (simp only [ab_rm]; omega), by first | exact Nat.le_of_ble_eq_true rfl | (simp only [ab_rm]; omega)⟩ (Nat.le_of_ble_eq_true rfl) (fun u246 r246 h246 => ?_)
            obtain ⟨q246, rfl⟩ := h246
            have P246 := P0.trans q246 (by decide)
            exact ab_retv X hr0 hlk d_PT_offerWaysOfB_249 ⟨P246, rfl⟩
      ·
        refine ab_aload_n X 0 d_PT_offerWaysOfB_130 rfl rfl ?_
        refine ab_gI X fl_PT_37 d_PT_offerWaysOfB_131 (by first | assumption | decide | (show _ < 124; omega) | (show _ < 61; omega) | (show _ < 20; omega)) (rfl) ?_
        refine ab_iconst (v := 2) X d_PT_offerWaysOfB_134 (by decide) ?_
        refine ab_icmp_ne X 224 d_PT_offerWaysOfB_135 rfl (fun h135 => ?_) (fun h135 => ?_)
        ·
          refine ab_aload_n X 0 d_PT_offerWaysOfB_224 rfl rfl ?_
          refine ab_gI X fl_PT_30 d_PT_offerWaysOfB_225 (by first | assumption | decide | (show _ < 124; omega) | (show _ < 61; omega) | (show _ < 20; omega)) (rfl) ?_
          refine ab_bipush (v := 8) X d_PT_offerWaysOfB_228 (by decide) ?_
          refine ab_icmp_ne X 249 d_PT_offerWaysOfB_230 rfl (fun h230 => ?_) (fun h230 => ?_)
          ·
            exact ab_retv X hr0 hlk d_PT_offerWaysOfB_249 ⟨P0, rfl⟩
          ·
            refine ab_aload_n X 0 d_PT_offerWaysOfB_233 rfl rfl ?_
            refine ab_gI X fl_PT_34 d_PT_offerWaysOfB_234 (by first | assumption | decide | (show _ < 124; omega) | (show _ < 61; omega) | (show _ < 20; omega)) (rfl) ?_
            refine ab_aload_n X 0 d_PT_offerWaysOfB_237 rfl rfl ?_
            refine ab_gI X fl_PT_37 d_PT_offerWaysOfB_238 (by first | assumption | decide | (show _ < 124; omega) | (show _ < 61; omega) | (show _ < 20; omega)) (rfl) ?_
            refine ab_icmp_ne X 249 d_PT_offerWaysOfB_241 rfl (fun h241 => ?_) (fun h241 => ?_)
            ·
              exact ab_retv X hr0 hlk d_PT_offerWaysOfB_249 ⟨P0, rfl⟩
            ·
              refine ab_aload_n X 0 d_PT_offerWaysOfB_244 rfl rfl ?_
              refine ab_aload_n X 1 d_PT_offerWaysOfB_245 rfl rfl ?_
              refine ab_callV (as := [ab_O 3 60]) X (fun h => by cases h) (s_PT_offerRowOfAll u p1 h hp) lk_PT_86 d_PT_offerWaysOfB_246 rfl rfl (by first | assumption | decide | (show _ < 124; omega) | (show _ < 61; omega) | (show _ < 20; omega)) ⟨by first | exact Nat.le_of_ble_eq_true rfl | (simp only [ab_rm]; omega), by first | exact Nat.le_of_ble_eq_true rfl | (simp only [ab_rm]; omega)⟩ ⟨by first | exact Nat.le_of_ble_eq_true rfl | (simp only [ab_rm]; omega), by first | exact Nat.le_of_ble_eq_true rfl | (simp only [ab_rm]; omega)⟩ (Nat.le_of_ble_eq_true rfl) (fun u246 r246 h246 => ?_)
              obtain ⟨q246, rfl⟩ := h246
              have P246 := P0.trans q246 (by decide)
              exact ab_retv X hr0 hlk d_PT_offerWaysOfB_249 ⟨P246, rfl⟩
        ·
          obtain ⟨a, b, ha, hb, ea, eb⟩ := ci_two h hp h135
          refine ab_aload_n X 0 d_PT_offerWaysOfB_138 rfl rfl ?_
          refine ab_gR X fl_PT_20 d_PT_offerWaysOfB_139 (by first | assumption | decide | (show _ < 124; omega) | (show _ < 61; omega) | (show _ < 20; omega)) (P0.1.pt1 (by first | assumption | decide | omega)) ?_
          refine ab_aload_n X 1 d_PT_offerWaysOfB_142 rfl rfl ?_
          refine ab_bipush (v := 7) X d_PT_offerWaysOfB_143 (by decide) ?_
          refine ab_aload_n X 0 d_PT_offerWaysOfB_145 rfl rfl ?_
          refine ab_gR X fl_PT_11 d_PT_offerWaysOfB_146 (by first | assumption | decide | (show _ < 124; omega) | (show _ < 61; omega) | (show _ < 20; omega)) (P0.1.pt0 (by first | assumption | decide | omega)) ?_
          refine ab_iconst (v := 0) X d_PT_offerWaysOfB_149 (by decide) ?_
          refine ab_aalv X (0) ⟨rfl, _, fun _ => rfl⟩ d_PT_offerWaysOfB_150 (by first | assumption | decide | (show _ < 124; omega) | (show _ < 61; omega) | (show _ < 20; omega)) (rfl) (show 0 < 4 by decide) (ab_ln_lt _ _) (P0.rr (by decide) ea) ?_
          refine ab_gR X fl_PT_24 d_PT_offerWaysOfB_151 (by first | assumption | decide | (show _ < 124; omega) | (show _ < 61; omega) | (show _ < 20; omega)) (P0.1.pt2 (by first | assumption | decide | omega)) ?_
          refine ab_aload_n X 0 d_PT_offerWaysOfB_154 rfl rfl ?_
          refine ab_gR X fl_PT_11 d_PT_offerWaysOfB_155 (by first | assumption | decide | (show _ < 124; omega) | (show _ < 61; omega) | (show _ < 20; omega)) (P0.1.pt0 (by first | assumption | decide | omega)) ?_
          refine ab_iconst (v := 1) X d_PT_offerWaysOfB_158 (by decide) ?_
          refine ab_aalv X (1) ⟨rfl, _, fun _ => rfl⟩ d_PT_offerWaysOfB_159 (by first | assumption | decide | (show _ < 124; omega) | (show _ < 61; omega) | (show _ < 20; omega)) (rfl) (show 1 < 4 by decide) (ab_ln_lt _ _) (P0.rr (by decide) eb) ?_
          refine ab_gR X fl_PT_20 d_PT_offerWaysOfB_160 (by first | assumption | decide | (show _ < 124; omega) | (show _ < 61; omega) | (show _ < 20; omega)) (P0.1.pt1 (by first | assumption | decide | omega)) ?_
          refine ab_callS (as := [ab_O 3 (3 * p1), ab_O 3 60, ab_I 7, ab_O 3 (3 * a + 1), ab_O 3 (3 * b)]) X (fun h => by cases h) (s_PT_offerTwo u (3 * p1) (3 * a + 1) (3 * b) 7 P0.1 (by omega) (by omega) (by omega)) ls_PT_82 d_PT_offerWaysOfB_163 rfl rfl ⟨by first | exact Nat.le_of_ble_eq_true rfl | (simp only [ab_rm]; omega), by first | exact Nat.le_of_ble_eq_true rfl | (simp only [ab_rm]; omega)⟩ ⟨by first | exact Nat.le_of_ble_eq_true rfl | (simp only [ab_rm]; omega), by first | exact Nat.le_of_ble_eq_true rfl | (simp only [ab_rm]; omega)⟩ (Nat.le_of_ble_eq_true rfl) (fun u163 r163 h163 => ?_)
          obtain ⟨q163, rfl⟩ := h163
          have P163 := P0.trans q163 (by decide)
          refine ab_aload_n X 0 d_PT_offerWaysOfB_166 rfl rfl ?_
          refine ab_gR X fl_PT_20 d_PT_offerWaysOfB_167 (by first | assumption | decide | (show _ < 124; omega) | (show _ < 61; omega) | (show _ < 20; omega)) (P163.1.pt1 (by first | assumption | decide | omega)) ?_
          refine ab_aload_n X 1 d_PT_offerWaysOfB_170 rfl rfl ?_
          refine ab_bipush (v := 7) X d_PT_offerWaysOfB_171 (by decide) ?_
          refine ab_aload_n X 0 d_PT_offerWaysOfB_173 rfl rfl ?_
          refine ab_gR X fl_PT_11 d_PT_offerWaysOfB_174 (by first | assumption | decide | (show _ < 124; omega) | (show _ < 61; omega) | (show _ < 20; omega)) (P163.1.pt0 (by first | assumption | decide | omega)) ?_
          refine ab_iconst (v := 1) X d_PT_offerWaysOfB_177 (by decide) ?_
          refine ab_aalv X (1) ⟨rfl, _, fun _ => rfl⟩ d_PT_offerWaysOfB_178 (by first | assumption | decide | (show _ < 124; omega) | (show _ < 61; omega) | (show _ < 20; omega)) (rfl) (show 1 < 4 by decide) (ab_ln_lt _ _) (P163.rr (by decide) eb) ?_
          refine ab_gR X fl_PT_24 d_PT_offerWaysOfB_179 (by first | assumption | decide | (show _ < 124; omega) | (show _ < 61; omega) | (show _ < 20; omega)) (P163.1.pt2 (by first | assumption | decide | omega)) ?_
          refine ab_aload_n X 0 d_PT_offerWaysOfB_182 rfl rfl ?_
          refine ab_gR X fl_PT_11 d_PT_offerWaysOfB_183 (by first | assumption | decide | (show _ < 124; omega) | (show _ < 61; omega) | (show _ < 20; omega)) (P163.1.pt0 (by first | assumption | decide | omega)) ?_
          refine ab_iconst (v := 0) X d_PT_offerWaysOfB_186 (by decide) ?_
          refine ab_aalv X (0) ⟨rfl, _, fun _ => rfl⟩ d_PT_offerWaysOfB_187 (by first | assumption | decide | (show _ < 124; omega) | (show _ < 61; omega) | (show _ < 20; omega)) (rfl) (show 0 < 4 by decide) (ab_ln_lt _ _) (P163.rr (by decide) ea) ?_
          refine ab_gR X fl_PT_20 d_PT_offerWaysOfB_188 (by first | assumption | decide | (show _ < 124; omega) | (show _ < 61; omega) | (show _ < 20; omega)) (P163.1.pt1 (by first | assumption | decide | omega)) ?_
          refine ab_callS (as := [ab_O 3 (3 * p1), ab_O 3 60, ab_I 7, ab_O 3 (3 * b + 1), ab_O 3 (3 * a)]) X (fun h => by cases h) (s_PT_offerTwo u163 (3 * p1) (3 * b + 1) (3 * a) 7 P163.1 (by omega) (by omega) (by omega)) ls_PT_82 d_PT_offerWaysOfB_191 rfl rfl ⟨by first | exact Nat.le_of_ble_eq_true rfl | (simp only [ab_rm]; omega), by first | exact Nat.le_of_ble_eq_true rfl | (simp only [ab_rm]; omega)⟩ ⟨by first | exact Nat.le_of_ble_eq_true rfl | (simp only [ab_rm]; omega), by first | exact Nat.le_of_ble_eq_true rfl | (simp only [ab_rm]; omega)⟩ (Nat.le_of_ble_eq_true rfl) (fun u191 r191 h191 => ?_)
          obtain ⟨q191, rfl⟩ := h191
          have P191 := P163.trans q191 (by decide)
          refine ab_aload_n X 0 d_PT_offerWaysOfB_194 rfl rfl ?_
          refine ab_gR X fl_PT_20 d_PT_offerWaysOfB_195 (by first | assumption | decide | (show _ < 124; omega) | (show _ < 61; omega) | (show _ < 20; omega)) (P191.1.pt1 (by first | assumption | decide | omega)) ?_
          refine ab_aload_n X 1 d_PT_offerWaysOfB_198 rfl rfl ?_
          refine ab_iconst (v := 5) X d_PT_offerWaysOfB_199 (by decide) ?_
          refine ab_aload_n X 0 d_PT_offerWaysOfB_200 rfl rfl ?_
          refine ab_gR X fl_PT_11 d_PT_offerWaysOfB_201 (by first | assumption | decide | (show _ < 124; omega) | (show _ < 61; omega) | (show _ < 20; omega)) (P191.1.pt0 (by first | assumption | decide | omega)) ?_
          refine ab_iconst (v := 0) X d_PT_offerWaysOfB_204 (by decide) ?_
          refine ab_aalv X (0) ⟨rfl, _, fun _ => rfl⟩ d_PT_offerWaysOfB_205 (by first | assumption | decide | (show _ < 124; omega) | (show _ < 61; omega) | (show _ < 20; omega)) (rfl) (show 0 < 4 by decide) (ab_ln_lt _ _) (P191.rr (by decide) ea) ?_
          refine ab_gR X fl_PT_20 d_PT_offerWaysOfB_206 (by first | assumption | decide | (show _ < 124; omega) | (show _ < 61; omega) | (show _ < 20; omega)) (P191.1.pt1 (by first | assumption | decide | omega)) ?_
          refine ab_aload_n X 0 d_PT_offerWaysOfB_209 rfl rfl ?_
          refine ab_gR X fl_PT_11 d_PT_offerWaysOfB_210 (by first | assumption | decide | (show _ < 124; omega) | (show _ < 61; omega) | (show _ < 20; omega)) (P191.1.pt0 (by first | assumption | decide | omega)) ?_
          refine ab_iconst (v := 1) X d_PT_offerWaysOfB_213 (by decide) ?_
          refine ab_aalv X (1) ⟨rfl, _, fun _ => rfl⟩ d_PT_offerWaysOfB_214 (by first | assumption | decide | (show _ < 124; omega) | (show _ < 61; omega) | (show _ < 20; omega)) (rfl) (show 1 < 4 by decide) (ab_ln_lt _ _) (P191.rr (by decide) eb) ?_
          refine ab_gR X fl_PT_20 d_PT_offerWaysOfB_215 (by first | assumption | decide | (show _ < 124; omega) | (show _ < 61; omega) | (show _ < 20; omega)) (P191.1.pt1 (by first | assumption | decide | omega)) ?_
          refine ab_callS (as := [ab_O 3 (3 * p1), ab_O 3 60, ab_I 5, ab_O 3 (3 * a), ab_O 3 (3 * b)]) X (fun h => by cases h) (s_PT_offerTwo u191 (3 * p1) (3 * a) (3 * b) 5 P191.1 (by omega) (by omega) (by omega)) ls_PT_82 d_PT_offerWaysOfB_218 rfl rfl ⟨by first | exact Nat.le_of_ble_eq_true rfl | (simp only [ab_rm]; omega), by first | exact Nat.le_of_ble_eq_true rfl | (simp only [ab_rm]; omega)⟩ ⟨by first | exact Nat.le_of_ble_eq_true rfl | (simp only [ab_rm]; omega), by first | exact Nat.le_of_ble_eq_true rfl | (simp only [ab_rm]; omega)⟩ (Nat.le_of_ble_eq_true rfl) (fun u218 r218 h218 => ?_)
          obtain ⟨q218, rfl⟩ := h218
          have P218 := P191.trans q218 (by decide)
          refine ab_goto X 249 d_PT_offerWaysOfB_221 rfl ?_
          exact ab_retv X hr0 hlk d_PT_offerWaysOfB_249 ⟨P218, rfl⟩
    ·
      refine ab_aload_n X 0 d_PT_offerWaysOfB_56 rfl rfl ?_
      refine ab_gI X fl_PT_37 d_PT_offerWaysOfB_57 (by first | assumption | decide | (show _ < 124; omega) | (show _ < 61; omega) | (show _ < 20; omega)) (rfl) ?_
      refine ab_iconst (v := 2) X d_PT_offerWaysOfB_60 (by decide) ?_
      refine ab_icmp_ne X 121 d_PT_offerWaysOfB_61 rfl (fun h61 => ?_) (fun h61 => ?_)
      ·
        refine ab_aload_n X 0 d_PT_offerWaysOfB_121 rfl rfl ?_
        refine ab_gI X fl_PT_30 d_PT_offerWaysOfB_122 (by first | assumption | decide | (show _ < 124; omega) | (show _ < 61; omega) | (show _ < 20; omega)) (rfl) ?_
        refine ab_bipush (v := 7) X d_PT_offerWaysOfB_125 (by decide) ?_
        refine ab_icmp_ne X 224 d_PT_offerWaysOfB_127 rfl (fun h127 => ?_) (fun h127 => ?_)
        ·
          refine ab_aload_n X 0 d_PT_offerWaysOfB_224 rfl rfl ?_
          refine ab_gI X fl_PT_30 d_PT_offerWaysOfB_225 (by first | assumption | decide | (show _ < 124; omega) | (show _ < 61; omega) | (show _ < 20; omega)) (rfl) ?_
          refine ab_bipush (v := 8) X d_PT_offerWaysOfB_228 (by decide) ?_
          refine ab_icmp_ne X 249 d_PT_offerWaysOfB_230 rfl (fun h230 => ?_) (fun h230 => ?_)
          ·
            exact ab_retv X hr0 hlk d_PT_offerWaysOfB_249 ⟨P0, rfl⟩
          ·
            refine ab_aload_n X 0 d_PT_offerWaysOfB_233 rfl rfl ?_
            refine ab_gI X fl_PT_34 d_PT_offerWaysOfB_234 (by first | assumption | decide | (show _ < 124; omega) | (show _ < 61; omega) | (show _ < 20; omega)) (rfl) ?_
            refine ab_aload_n X 0 d_PT_offerWaysOfB_237 rfl rfl ?_
            refine ab_gI X fl_PT_37 d_PT_offerWaysOfB_238 (by first | assumption | decide | (show _ < 124; omega) | (show _ < 61; omega) | (show _ < 20; omega)) (rfl) ?_
            refine ab_icmp_ne X 249 d_PT_offerWaysOfB_241 rfl (fun h241 => ?_) (fun h241 => ?_)
            ·
              exact ab_retv X hr0 hlk d_PT_offerWaysOfB_249 ⟨P0, rfl⟩
            ·
              refine ab_aload_n X 0 d_PT_offerWaysOfB_244 rfl rfl ?_
              refine ab_aload_n X 1 d_PT_offerWaysOfB_245 rfl rfl ?_
              refine ab_callV (as := [ab_O 3 60]) X (fun h => by cases h) (s_PT_offerRowOfAll u p1 h hp) lk_PT_86 d_PT_offerWaysOfB_246 rfl rfl (by first | assumption | decide | (show _ < 124; omega) | (show _ < 61; omega) | (show _ < 20; omega)) ⟨by first | exact Nat.le_of_ble_eq_true rfl | (simp only [ab_rm]; omega), by first | exact Nat.le_of_ble_eq_true rfl | (simp only [ab_rm]; omega)⟩ ⟨by first | exact Nat.le_of_ble_eq_true rfl | (simp only [ab_rm]; omega), by first | exact Nat.le_of_ble_eq_true rfl | (simp only [ab_rm]; omega)⟩ (Nat.le_of_ble_eq_true rfl) (fun u246 r246 h246 => ?_)
              obtain ⟨q246, rfl⟩ := h246
              have P246 := P0.trans q246 (by decide)
              exact ab_retv X hr0 hlk d_PT_offerWaysOfB_249 ⟨P246, rfl⟩
        ·
          refine ab_aload_n X 0 d_PT_offerWaysOfB_130 rfl rfl ?_
          refine ab_gI X fl_PT_37 d_PT_offerWaysOfB_131 (by first | assumption | decide | (show _ < 124; omega) | (show _ < 61; omega) | (show _ < 20; omega)) (rfl) ?_
          refine ab_iconst (v := 2) X d_PT_offerWaysOfB_134 (by decide) ?_
          refine ab_icmp_ne X 224 d_PT_offerWaysOfB_135 rfl (fun h135 => ?_) (fun h135 => ?_)
          ·
            refine ab_aload_n X 0 d_PT_offerWaysOfB_224 rfl rfl ?_
            refine ab_gI X fl_PT_30 d_PT_offerWaysOfB_225 (by first | assumption | decide | (show _ < 124; omega) | (show _ < 61; omega) | (show _ < 20; omega)) (rfl) ?_
            refine ab_bipush (v := 8) X d_PT_offerWaysOfB_228 (by decide) ?_
            refine ab_icmp_ne X 249 d_PT_offerWaysOfB_230 rfl (fun h230 => ?_) (fun h230 => ?_)
            ·
              exact ab_retv X hr0 hlk d_PT_offerWaysOfB_249 ⟨P0, rfl⟩
            ·
              refine ab_aload_n X 0 d_PT_offerWaysOfB_233 rfl rfl ?_
              refine ab_gI X fl_PT_34 d_PT_offerWaysOfB_234 (by first | assumption | decide | (show _ < 124; omega) | (show _ < 61; omega) | (show _ < 20; omega)) (rfl) ?_
              refine ab_aload_n X 0 d_PT_offerWaysOfB_237 rfl rfl ?_
              refine ab_gI X fl_PT_37 d_PT_offerWaysOfB_238 (by first | assumption | decide | (show _ < 124; omega) | (show _ < 61; omega) | (show _ < 20; omega)) (rfl) ?_
              refine ab_icmp_ne X 249 d_PT_offerWaysOfB_241 rfl (fun h241 => ?_) (fun h241 => ?_)
              ·
                exact ab_retv X hr0 hlk d_PT_offerWaysOfB_249 ⟨P0, rfl⟩
              ·
                refine ab_aload_n X 0 d_PT_offerWaysOfB_244 rfl rfl ?_
                refine ab_aload_n X 1 d_PT_offerWaysOfB_245 rfl rfl ?_
                refine ab_callV (as := [ab_O 3 60]) X (fun h => by cases h) (s_PT_offerRowOfAll u p1 h hp) lk_PT_86 d_PT_offerWaysOfB_246 rfl rfl (by first | assumption | decide | (show _ < 124; omega) | (show _ < 61; omega) | (show _ < 20; omega)) ⟨by first | exact Nat.le_of_ble_eq_true rfl | (simp only [ab_rm]; omega), by first | exact Nat.le_of_ble_eq_true rfl | (simp only [ab_rm]; omega)⟩ ⟨by first | exact Nat.le_of_ble_eq_true rfl | (simp only [ab_rm]; omega), by first | exact Nat.le_of_ble_eq_true rfl | (simp only [ab_rm]; omega)⟩ (Nat.le_of_ble_eq_true rfl) (fun u246 r246 h246 => ?_)
                obtain ⟨q246, rfl⟩ := h246
                have P246 := P0.trans q246 (by decide)
                exact ab_retv X hr0 hlk d_PT_offerWaysOfB_249 ⟨P246, rfl⟩
          ·
            obtain ⟨a, b, ha, hb, ea, eb⟩ := ci_two h hp h135
            refine ab_aload_n X 0 d_PT_offerWaysOfB_138 rfl rfl ?_
            refine ab_gR X fl_PT_20 d_PT_offerWaysOfB_139 (by first | assumption | decide | (show _ < 124; omega) | (show _ < 61; omega) | (show _ < 20; omega)) (P0.1.pt1 (by first | assumption | decide | omega)) ?_
            refine ab_aload_n X 1 d_PT_offerWaysOfB_142 rfl rfl ?_
            refine ab_bipush (v := 7) X d_PT_offerWaysOfB_143 (by decide) ?_
            refine ab_aload_n X 0 d_PT_offerWaysOfB_145 rfl rfl ?_
            refine ab_gR X fl_PT_11 d_PT_offerWaysOfB_146 (by first | assumption | decide | (show _ < 124; omega) | (show _ < 61; omega) | (show _ < 20; omega)) (P0.1.pt0 (by first | assumption | decide | omega)) ?_
            refine ab_iconst (v := 0) X d_PT_offerWaysOfB_149 (by decide) ?_
            refine ab_aalv X (0) ⟨rfl, _, fun _ => rfl⟩ d_PT_offerWaysOfB_150 (by first | assumption | decide | (show _ < 124; omega) | (show _ < 61; omega) | (show _ < 20; omega)) (rfl) (show 0 < 4 by decide) (ab_ln_lt _ _) (P0.rr (by decide) ea) ?_
            refine ab_gR X fl_PT_24 d_PT_offerWaysOfB_151 (by first | assumption | decide | (show _ < 124; omega) | (show _ < 61; omega) | (show _ < 20; omega)) (P0.1.pt2 (by first | assumption | decide | omega)) ?_
            refine ab_aload_n X 0 d_PT_offerWaysOfB_154 rfl rfl ?_
            refine ab_gR X fl_PT_11 d_PT_offerWaysOfB_155 (by first | assumption | decide | (show _ < 124; omega) | (show _ < 61; omega) | (show _ < 20; omega)) (P0.1.pt0 (by first | assumption | decide | omega)) ?_
            refine ab_iconst (v := 1) X d_PT_offerWaysOfB_158 (by decide) ?_
            refine ab_aalv X (1) ⟨rfl, _, fun _ => rfl⟩ d_PT_offerWaysOfB_159 (by first | assumption | decide | (show _ < 124; omega) | (show _ < 61; omega) | (show _ < 20; omega)) (rfl) (show 1 < 4 by decide) (ab_ln_lt _ _) (P0.rr (by decide) eb) ?_
            refine ab_gR X fl_PT_20 d_PT_offerWaysOfB_160 (by first | assumption | decide | (show _ < 124; omega) | (show _ < 61; omega) | (show _ < 20; omega)) (P0.1.pt1 (by first | assumption | decide | omega)) ?_
            refine ab_callS (as := [ab_O 3 (3 * p1), ab_O 3 60, ab_I 7, ab_O 3 (3 * a + 1), ab_O 3 (3 * b)]) X (fun h => by cases h) (s_PT_offerTwo u (3 * p1) (3 * a + 1) (3 * b) 7 P0.1 (by omega) (by omega) (by omega)) ls_PT_82 d_PT_offerWaysOfB_163 rfl rfl ⟨by first | exact Nat.le_of_ble_eq_true rfl | (simp only [ab_rm]; omega), by first | exact Nat.le_of_ble_eq_true rfl | (simp only [ab_rm]; omega)⟩ ⟨by first | exact Nat.le_of_ble_eq_true rfl | (simp only [ab_rm]; omega), by first | exact Nat.le_of_ble_eq_true rfl | (simp only [ab_rm]; omega)⟩ (Nat.le_of_ble_eq_true rfl) (fun u163 r163 h163 => ?_)
            obtain ⟨q163, rfl⟩ := h163
            have P163 := P0.trans q163 (by decide)
            refine ab_aload_n X 0 d_PT_offerWaysOfB_166 rfl rfl ?_
            refine ab_gR X fl_PT_20 d_PT_offerWaysOfB_167 (by first | assumption | decide | (show _ < 124; omega) | (show _ < 61; omega) | (show _ < 20; omega)) (P163.1.pt1 (by first | assumption | decide | omega)) ?_
            refine ab_aload_n X 1 d_PT_offerWaysOfB_170 rfl rfl ?_
            refine ab_bipush (v := 7) X d_PT_offerWaysOfB_171 (by decide) ?_
            refine ab_aload_n X 0 d_PT_offerWaysOfB_173 rfl rfl ?_
            refine ab_gR X fl_PT_11 d_PT_offerWaysOfB_174 (by first | assumption | decide | (show _ < 124; omega) | (show _ < 61; omega) | (show _ < 20; omega)) (P163.1.pt0 (by first | assumption | decide | omega)) ?_
            refine ab_iconst (v := 1) X d_PT_offerWaysOfB_177 (by decide) ?_
            refine ab_aalv X (1) ⟨rfl, _, fun _ => rfl⟩ d_PT_offerWaysOfB_178 (by first | assumption | decide | (show _ < 124; omega) | (show _ < 61; omega) | (show _ < 20; omega)) (rfl) (show 1 < 4 by decide) (ab_ln_lt _ _) (P163.rr (by decide) eb) ?_
            refine ab_gR X fl_PT_24 d_PT_offerWaysOfB_179 (by first | assumption | decide | (show _ < 124; omega) | (show _ < 61; omega) | (show _ < 20; omega)) (P163.1.pt2 (by first | assumption | decide | omega)) ?_
            refine ab_aload_n X 0 d_PT_offerWaysOfB_182 rfl rfl ?_
            refine ab_gR X fl_PT_11 d_PT_offerWaysOfB_183 (by first | assumption | decide | (show _ < 124; omega) | (show _ < 61; omega) | (show _ < 20; omega)) (P163.1.pt0 (by first | assumption | decide | omega)) ?_
            refine ab_iconst (v := 0) X d_PT_offerWaysOfB_186 (by decide) ?_
            refine ab_aalv X (0) ⟨rfl, _, fun _ => rfl⟩ d_PT_offerWaysOfB_187 (by first | assumption | decide | (show _ < 124; omega) | (show _ < 61; omega) | (show _ < 20; omega)) (rfl) (show 0 < 4 by decide) (ab_ln_lt _ _) (P163.rr (by decide) ea) ?_
            refine ab_gR X fl_PT_20 d_PT_offerWaysOfB_188 (by first | assumption | decide | (show _ < 124; omega) | (show _ < 61; omega) | (show _ < 20; omega)) (P163.1.pt1 (by first | assumption | decide | omega)) ?_
            refine ab_callS (as := [ab_O 3 (3 * p1), ab_O 3 60, ab_I 7, ab_O 3 (3 * b + 1), ab_O 3 (3 * a)]) X (fun h => by cases h) (s_PT_offerTwo u163 (3 * p1) (3 * b + 1) (3 * a) 7 P163.1 (by omega) (by omega) (by omega)) ls_PT_82 d_PT_offerWaysOfB_191 rfl rfl ⟨by first | exact Nat.le_of_ble_eq_true rfl | (simp only [ab_rm]; omega), by first | exact Nat.le_of_ble_eq_true rfl | (simp only [ab_rm]; omega)⟩ ⟨by first | exact Nat.le_of_ble_eq_true rfl | (simp only [ab_rm]; omega), by first | exact Nat.le_of_ble_eq_true rfl | (simp only [ab_rm]; omega)⟩ (Nat.le_of_ble_eq_true rfl) (fun u191 r191 h191 => ?_)
            obtain ⟨q191, rfl⟩ := h191
            have P191 := P163.trans q191 (by decide)
            refine ab_aload_n X 0 d_PT_offerWaysOfB_194 rfl rfl ?_
            refine ab_gR X fl_PT_20 d_PT_offerWaysOfB_195 (by first | assumption | decide | (show _ < 124; omega) | (show _ < 61; omega) | (show _ < 20; omega)) (P191.1.pt1 (by first | assumption | decide | omega)) ?_
            refine ab_aload_n X 1 d_PT_offerWaysOfB_198 rfl rfl ?_
            refine ab_iconst (v := 5) X d_PT_offerWaysOfB_199 (by decide) ?_
            refine ab_aload_n X 0 d_PT_offerWaysOfB_200 rfl rfl ?_
            refine ab_gR X fl_PT_11 d_PT_offerWaysOfB_201 (by first | assumption | decide | (show _ < 124; omega) | (show _ < 61; omega) | (show _ < 20; omega)) (P191.1.pt0 (by first | assumption | decide | omega)) ?_
            refine ab_iconst (v := 0) X d_PT_offerWaysOfB_204 (by decide) ?_
            refine ab_aalv X (0) ⟨rfl, _, fun _ => rfl⟩ d_PT_offerWaysOfB_205 (by first | assumption | decide | (show _ < 124; omega) | (show _ < 61; omega) | (show _ < 20; omega)) (rfl) (show 0 < 4 by decide) (ab_ln_lt _ _) (P191.rr (by decide) ea) ?_
            refine ab_gR X fl_PT_20 d_PT_offerWaysOfB_206 (by first | assumption | decide | (show _ < 124; omega) | (show _ < 61; omega) | (show _ < 20; omega)) (P191.1.pt1 (by first | assumption | decide | omega)) ?_
            refine ab_aload_n X 0 d_PT_offerWaysOfB_209 rfl rfl ?_
            refine ab_gR X fl_PT_11 d_PT_offerWaysOfB_210 (by first | assumption | decide | (show _ < 124; omega) | (show _ < 61; omega) | (show _ < 20; omega)) (P191.1.pt0 (by first | assumption | decide | omega)) ?_
            refine ab_iconst (v := 1) X d_PT_offerWaysOfB_213 (by decide) ?_
            refine ab_aalv X (1) ⟨rfl, _, fun _ => rfl⟩ d_PT_offerWaysOfB_214 (by first | assumption | decide | (show _ < 124; omega) | (show _ < 61; omega) | (show _ < 20; omega)) (rfl) (show 1 < 4 by decide) (ab_ln_lt _ _) (P191.rr (by decide) eb) ?_
            refine ab_gR X fl_PT_20 d_PT_offerWaysOfB_215 (by first | assumption | decide | (show _ < 124; omega) | (show _ < 61; omega) | (show _ < 20; omega)) (P191.1.pt1 (by first | assumption | decide | omega)) ?_
            refine ab_callS (as := [ab_O 3 (3 * p1), ab_O 3 60, ab_I 5, ab_O 3 (3 * a), ab_O 3 (3 * b)]) X (fun h => by cases h) (s_PT_offerTwo u191 (3 * p1) (3 * a) (3 * b) 5 P191.1 (by omega) (by omega) (by omega)) ls_PT_82 d_PT_offerWaysOfB_218 rfl rfl ⟨by first | exact Nat.le_of_ble_eq_true rfl | (simp only [ab_rm]; omega), by first | exact Nat.le_of_ble_eq_true rfl | (simp only [ab_rm]; omega)⟩ ⟨by first | exact Nat.le_of_ble_eq_true rfl | (simp only [ab_rm]; omega), by first | exact Nat.le_of_ble_eq_true rfl | (simp only [ab_rm]; omega)⟩ (Nat.le_of_ble_eq_true rfl) (fun u218 r218 h218 => ?_)
            obtain ⟨q218, rfl⟩ := h218
            have P218 := P191.trans q218 (by decide)
            refine ab_goto X 249 d_PT_offerWaysOfB_221 rfl ?_
            exact ab_retv X hr0 hlk d_PT_offerWaysOfB_249 ⟨P218, rfl⟩
      ·
        obtain ⟨a, b, ha, hb, ea, eb⟩ := ci_two h hp h61
        refine ab_aload_n X 0 d_PT_offerWaysOfB_64 rfl rfl ?_
        refine ab_gR X fl_PT_20 d_PT_offerWaysOfB_65 (by first | assumption | decide | (show _ < 124; omega) | (show _ < 61; omega) | (show _ < 20; omega)) (P0.1.pt1 (by first | assumption | decide | omega)) ?_
        refine ab_aload_n X 1 d_PT_offerWaysOfB_68 rfl rfl ?_
        refine ab_iconst (v := 2) X d_PT_offerWaysOfB_69 (by decide) ?_
        refine ab_aload_n X 0 d_PT_offerWaysOfB_70 rfl rfl ?_
        refine ab_gR X fl_PT_11 d_PT_offerWaysOfB_71 (by first | assumption | decide | (show _ < 124; omega) | (show _ < 61; omega) | (show _ < 20; omega)) (P0.1.pt0 (by first | assumption | decide | omega)) ?_
        refine ab_iconst (v := 0) X d_PT_offerWaysOfB_74 (by decide) ?_
        refine ab_aalv X (0) ⟨rfl, _, fun _ => rfl⟩ d_PT_offerWaysOfB_75 (by first | assumption | decide | (show _ < 124; omega) | (show _ < 61; omega) | (show _ < 20; omega)) (rfl) (show 0 < 4 by decide) (ab_ln_lt _ _) (P0.rr (by decide) ea) ?_
        refine ab_gR X fl_PT_27 d_PT_offerWaysOfB_76 (by first | assumption | decide | (show _ < 124; omega) | (show _ < 61; omega) | (show _ < 20; omega)) (P0.1.pt3 (by first | assumption | decide | omega)) ?_
        refine ab_aload_n X 0 d_PT_offerWaysOfB_79 rfl rfl ?_
        refine ab_gR X fl_PT_11 d_PT_offerWaysOfB_80 (by first | assumption | decide | (show _ < 124; omega) | (show _ < 61; omega) | (show _ < 20; omega)) (P0.1.pt0 (by first | assumption | decide | omega)) ?_
        refine ab_iconst (v := 1) X d_PT_offerWaysOfB_83 (by decide) ?_
        refine ab_aalv X (1) ⟨rfl, _, fun _ => rfl⟩ d_PT_offerWaysOfB_84 (by first | assumption | decide | (show _ < 124; omega) | (show _ < 61; omega) | (show _ < 20; omega)) (rfl) (show 1 < 4 by decide) (ab_ln_lt _ _) (P0.rr (by decide) eb) ?_
        refine ab_gR X fl_PT_20 d_PT_offerWaysOfB_85 (by first | assumption | decide | (show _ < 124; omega) | (show _ < 61; omega) | (show _ < 20; omega)) (P0.1.pt1 (by first | assumption | decide | omega)) ?_
        refine ab_callS (as := [ab_O 3 (3 * p1), ab_O 3 60, ab_I 2, ab_O 3 (3 * a + 2), ab_O 3 (3 * b)]) X (fun h => by cases h) (s_PT_offerTwo u (3 * p1) (3 * a + 2) (3 * b) 2 P0.1 (by omega) (by omega) (by omega)) ls_PT_82 d_PT_offerWaysOfB_88 rfl rfl ⟨by first | exact Nat.le_of_ble_eq_true rfl | (simp only [ab_rm]; omega), by first | exact Nat.le_of_ble_eq_true rfl | (simp only [ab_rm]; omega)⟩ ⟨by first | exact Nat.le_of_ble_eq_true rfl | (simp only [ab_rm]; omega), by first | exact Nat.le_of_ble_eq_true rfl | (simp only [ab_rm]; omega)⟩ (Nat.le_of_ble_eq_true rfl) (fun u88 r88 h88 => ?_)
        obtain ⟨q88, rfl⟩ := h88
        have P88 := P0.trans q88 (by decide)
        refine ab_aload_n X 0 d_PT_offerWaysOfB_91 rfl rfl ?_
        refine ab_gR X fl_PT_20 d_PT_offerWaysOfB_92 (by first | assumption | decide | (show _ < 124; omega) | (show _ < 61; omega) | (show _ < 20; omega)) (P88.1.pt1 (by first | assumption | decide | omega)) ?_
        refine ab_aload_n X 1 d_PT_offerWaysOfB_95 rfl rfl ?_
        refine ab_iconst (v := 2) X d_PT_offerWaysOfB_96 (by decide) ?_
        refine ab_aload_n X 0 d_PT_offerWaysOfB_97 rfl rfl ?_
        refine ab_gR X fl_PT_11 d_PT_offerWaysOfB_98 (by first | assumption | decide | (show _ < 124; omega) | (show _ < 61; omega) | (show _ < 20; omega)) (P88.1.pt0 (by first | assumption | decide | omega)) ?_
        refine ab_iconst (v := 1) X d_PT_offerWaysOfB_101 (by decide) ?_
        refine ab_aalv X (1) ⟨rfl, _, fun _ => rfl⟩ d_PT_offerWaysOfB_102 (by first | assumption | decide | (show _ < 124; omega) | (show _ < 61; omega) | (show _ < 20; omega)) (rfl) (show 1 < 4 by decide) (ab_ln_lt _ _) (P88.rr (by decide) eb) ?_
        refine ab_gR X fl_PT_27 d_PT_offerWaysOfB_103 (by first | assumption | decide | (show _ < 124; omega) | (show _ < 61; omega) | (show _ < 20; omega)) (P88.1.pt3 (by first | assumption | decide | omega)) ?_
        refine ab_aload_n X 0 d_PT_offerWaysOfB_106 rfl rfl ?_
        refine ab_gR X fl_PT_11 d_PT_offerWaysOfB_107 (by first | assumption | decide | (show _ < 124; omega) | (show _ < 61; omega) | (show _ < 20; omega)) (P88.1.pt0 (by first | assumption | decide | omega)) ?_
        refine ab_iconst (v := 0) X d_PT_offerWaysOfB_110 (by decide) ?_
        refine ab_aalv X (0) ⟨rfl, _, fun _ => rfl⟩ d_PT_offerWaysOfB_111 (by first | assumption | decide | (show _ < 124; omega) | (show _ < 61; omega) | (show _ < 20; omega)) (rfl) (show 0 < 4 by decide) (ab_ln_lt _ _) (P88.rr (by decide) ea) ?_
        refine ab_gR X fl_PT_20 d_PT_offerWaysOfB_112 (by first | assumption | decide | (show _ < 124; omega) | (show _ < 61; omega) | (show _ < 20; omega)) (P88.1.pt1 (by first | assumption | decide | omega)) ?_
        refine ab_callS (as := [ab_O 3 (3 * p1), ab_O 3 60, ab_I 2, ab_O 3 (3 * b + 2), ab_O 3 (3 * a)]) X (fun h => by cases h) (s_PT_offerTwo u88 (3 * p1) (3 * b + 2) (3 * a) 2 P88.1 (by omega) (by omega) (by omega)) ls_PT_82 d_PT_offerWaysOfB_115 rfl rfl ⟨by first | exact Nat.le_of_ble_eq_true rfl | (simp only [ab_rm]; omega), by first | exact Nat.le_of_ble_eq_true rfl | (simp only [ab_rm]; omega)⟩ ⟨by first | exact Nat.le_of_ble_eq_true rfl | (simp only [ab_rm]; omega), by first | exact Nat.le_of_ble_eq_true rfl | (simp only [ab_rm]; omega)⟩ (Nat.le_of_ble_eq_true rfl) (fun u115 r115 h115 => ?_)
        obtain ⟨q115, rfl⟩ := h115
        have P115 := P88.trans q115 (by decide)
        refine ab_goto X 249 d_PT_offerWaysOfB_118 rfl ?_
        exact ab_retv X hr0 hlk d_PT_offerWaysOfB_249 ⟨P115, rfl⟩
  ·
    refine ab_aload_n X 0 d_PT_offerWaysOfB_10 rfl rfl ?_
    refine ab_gI X fl_PT_30 d_PT_offerWaysOfB_11 (by first | assumption | decide | (show _ < 124; omega) | (show _ < 61; omega) | (show _ < 20; omega)) (rfl) ?_
    refine ab_iconst (v := 1) X d_PT_offerWaysOfB_14 (by decide) ?_
    refine ab_icmp_eq X 47 d_PT_offerWaysOfB_15 rfl (fun h15 => ?_) (fun h15 => ?_)
    ·
      refine ab_aload_n X 0 d_PT_offerWaysOfB_47 rfl rfl ?_
      refine ab_gI X fl_PT_30 d_PT_offerWaysOfB_48 (by first | assumption | decide | (show _ < 124; omega) | (show _ < 61; omega) | (show _ < 20; omega)) (rfl) ?_
      refine ab_bipush (v := 6) X d_PT_offerWaysOfB_51 (by decide) ?_
      refine ab_icmp_ne X 121 d_PT_offerWaysOfB_53 rfl (fun h53 => ?_) (fun h53 => ?_)
      ·
        refine ab_aload_n X 0 d_PT_offerWaysOfB_121 rfl rfl ?_
        refine ab_gI X fl_PT_30 d_PT_offerWaysOfB_122 (by first | assumption | decide | (show _ < 124; omega) | (show _ < 61; omega) | (show _ < 20; omega)) (rfl) ?_
        refine ab_bipush (v := 7) X d_PT_offerWaysOfB_125 (by decide) ?_
        refine ab_icmp_ne X 224 d_PT_offerWaysOfB_127 rfl (fun h127 => ?_) (fun h127 => ?_)
        ·
          refine ab_aload_n X 0 d_PT_offerWaysOfB_224 rfl rfl ?_
          refine ab_gI X fl_PT_30 d_PT_offerWaysOfB_225 (by first | assumption | decide | (show _ < 124; omega) | (show _ < 61; omega) | (show _ < 20; omega)) (rfl) ?_
          refine ab_bipush (v := 8) X d_PT_offerWaysOfB_228 (by decide) ?_
          refine ab_icmp_ne X 249 d_PT_offerWaysOfB_230 rfl (fun h230 => ?_) (fun h230 => ?_)
          ·
            exact ab_retv X hr0 hlk d_PT_offerWaysOfB_249 ⟨P0, rfl⟩
          ·
            refine ab_aload_n X 0 d_PT_offerWaysOfB_233 rfl rfl ?_
            refine ab_gI X fl_PT_34 d_PT_offerWaysOfB_234 (by first | assumption | decide | (show _ < 124; omega) | (show _ < 61; omega) | (show _ < 20; omega)) (rfl) ?_
            refine ab_aload_n X 0 d_PT_offerWaysOfB_237 rfl rfl ?_
            refine ab_gI X fl_PT_37 d_PT_offerWaysOfB_238 (by first | assumption | decide | (show _ < 124; omega) | (show _ < 61; omega) | (show _ < 20; omega)) (rfl) ?_
            refine ab_icmp_ne X 249 d_PT_offerWaysOfB_241 rfl (fun h241 => ?_) (fun h241 => ?_)
            ·
              exact ab_retv X hr0 hlk d_PT_offerWaysOfB_249 ⟨P0, rfl⟩
            ·
              refine ab_aload_n X 0 d_PT_offerWaysOfB_244 rfl rfl ?_
              refine ab_aload_n X 1 d_PT_offerWaysOfB_245 rfl rfl ?_
              refine ab_callV (as := [ab_O 3 60]) X (fun h => by cases h) (s_PT_offerRowOfAll u p1 h hp) lk_PT_86 d_PT_offerWaysOfB_246 rfl rfl (by first | assumption | decide | (show _ < 124; omega) | (show _ < 61; omega) | (show _ < 20; omega)) ⟨by first | exact Nat.le_of_ble_eq_true rfl | (simp only [ab_rm]; omega), by first | exact Nat.le_of_ble_eq_true rfl | (simp only [ab_rm]; omega)⟩ ⟨by first | exact Nat.le_of_ble_eq_true rfl | (simp only [ab_rm]; omega), by first | exact Nat.le_of_ble_eq_true rfl | (simp only [ab_rm]; omega)⟩ (Nat.le_of_ble_eq_true rfl) (fun u246 r246 h246 => ?_)
              obtain ⟨q246, rfl⟩ := h246
              have P246 := P0.trans q246 (by decide)
              exact ab_retv X hr0 hlk d_PT_offerWaysOfB_249 ⟨P246, rfl⟩
        ·
          refine ab_aload_n X 0 d_PT_offerWaysOfB_130 rfl rfl ?_
          refine ab_gI X fl_PT_37 d_PT_offerWaysOfB_131 (by first | assumption | decide | (show _ < 124; omega) | (show _ < 61; omega) | (show _ < 20; omega)) (rfl) ?_
          refine ab_iconst (v := 2) X d_PT_offerWaysOfB_134 (by decide) ?_
          refine ab_icmp_ne X 224 d_PT_offerWaysOfB_135 rfl (fun h135 => ?_) (fun h135 => ?_)
          ·
            refine ab_aload_n X 0 d_PT_offerWaysOfB_224 rfl rfl ?_
            refine ab_gI X fl_PT_30 d_PT_offerWaysOfB_225 (by first | assumption | decide | (show _ < 124; omega) | (show _ < 61; omega) | (show _ < 20; omega)) (rfl) ?_
            refine ab_bipush (v := 8) X d_PT_offerWaysOfB_228 (by decide) ?_
            refine ab_icmp_ne X 249 d_PT_offerWaysOfB_230 rfl (fun h230 => ?_) (fun h230 => ?_)
            ·
              exact ab_retv X hr0 hlk d_PT_offerWaysOfB_249 ⟨P0, rfl⟩
            ·
              refine ab_aload_n X 0 d_PT_offerWaysOfB_233 rfl rfl ?_
              refine ab_gI X fl_PT_34 d_PT_offerWaysOfB_234 (by first | assumption | decide | (show _ < 124; omega) | (show _ < 61; omega) | (show _ < 20; omega)) (rfl) ?_
              refine ab_aload_n X 0 d_PT_offerWaysOfB_237 rfl rfl ?_
              refine ab_gI X fl_PT_37 d_PT_offerWaysOfB_238 (by first | assumption | decide | (show _ < 124; omega) | (show _ < 61; omega) | (show _ < 20; omega)) (rfl) ?_
              refine ab_icmp_ne X 249 d_PT_offerWaysOfB_241 rfl (fun h241 => ?_) (fun h241 => ?_)
              ·
                exact ab_retv X hr0 hlk d_PT_offerWaysOfB_249 ⟨P0, rfl⟩
              ·
                refine ab_aload_n X 0 d_PT_offerWaysOfB_244 rfl rfl ?_
                refine ab_aload_n X 1 d_PT_offerWaysOfB_245 rfl rfl ?_
                refine ab_callV (as := [ab_O 3 60]) X (fun h => by cases h) (s_PT_offerRowOfAll u p1 h hp) lk_PT_86 d_PT_offerWaysOfB_246 rfl rfl (by first | assumption | decide | (show _ < 124; omega) | (show _ < 61; omega) | (show _ < 20; omega)) ⟨by first | exact Nat.le_of_ble_eq_true rfl | (simp only [ab_rm]; omega), by first | exact Nat.le_of_ble_eq_true rfl | (simp only [ab_rm]; omega)⟩ ⟨by first | exact Nat.le_of_ble_eq_true rfl | (simp only [ab_rm]; omega), by first | exact Nat.le_of_ble_eq_true rfl | (simp only [ab_rm]; omega)⟩ (Nat.le_of_ble_eq_true rfl) (fun u246 r246 h246 => ?_)
                obtain ⟨q246, rfl⟩ := h246
                have P246 := P0.trans q246 (by decide)
                exact ab_retv X hr0 hlk d_PT_offerWaysOfB_249 ⟨P246, rfl⟩
          ·
            obtain ⟨a, b, ha, hb, ea, eb⟩ := ci_two h hp h135
            refine ab_aload_n X 0 d_PT_offerWaysOfB_138 rfl rfl ?_
            refine ab_gR X fl_PT_20 d_PT_offerWaysOfB_139 (by first | assumption | decide | (show _ < 124; omega) | (show _ < 61; omega) | (show _ < 20; omega)) (P0.1.pt1 (by first | assumption | decide | omega)) ?_
            refine ab_aload_n X 1 d_PT_offerWaysOfB_142 rfl rfl ?_
            refine ab_bipush (v := 7) X d_PT_offerWaysOfB_143 (by decide) ?_
            refine ab_aload_n X 0 d_PT_offerWaysOfB_145 rfl rfl ?_
            refine ab_gR X fl_PT_11 d_PT_offerWaysOfB_146 (by first | assumption | decide | (show _ < 124; omega) | (show _ < 61; omega) | (show _ < 20; omega)) (P0.1.pt0 (by first | assumption | decide | omega)) ?_
            refine ab_iconst (v := 0) X d_PT_offerWaysOfB_149 (by decide) ?_
            refine ab_aalv X (0) ⟨rfl, _, fun _ => rfl⟩ d_PT_offerWaysOfB_150 (by first | assumption | decide | (show _ < 124; omega) | (show _ < 61; omega) | (show _ < 20; omega)) (rfl) (show 0 < 4 by decide) (ab_ln_lt _ _) (P0.rr (by decide) ea) ?_
            refine ab_gR X fl_PT_24 d_PT_offerWaysOfB_151 (by first | assumption | decide | (show _ < 124; omega) | (show _ < 61; omega) | (show _ < 20; omega)) (P0.1.pt2 (by first | assumption | decide | omega)) ?_
            refine ab_aload_n X 0 d_PT_offerWaysOfB_154 rfl rfl ?_
            refine ab_gR X fl_PT_11 d_PT_offerWaysOfB_155 (by first | assumption | decide | (show _ < 124; omega) | (show _ < 61; omega) | (show _ < 20; omega)) (P0.1.pt0 (by first | assumption | decide | omega)) ?_
            refine ab_iconst (v := 1) X d_PT_offerWaysOfB_158 (by decide) ?_
            refine ab_aalv X (1) ⟨rfl, _, fun _ => rfl⟩ d_PT_offerWaysOfB_159 (by first | assumption | decide | (show _ < 124; omega) | (show _ < 61; omega) | (show _ < 20; omega)) (rfl) (show 1 < 4 by decide) (ab_ln_lt _ _) (P0.rr (by decide) eb) ?_
            refine ab_gR X fl_PT_20 d_PT_offerWaysOfB_160 (by first | assumption | decide | (show _ < 124; omega) | (show _ < 61; omega) | (show _ < 20; omega)) (P0.1.pt1 (by first | assumption | decide | omega)) ?_
            refine ab_callS (as := [ab_O 3 (3 * p1), ab_O 3 60, ab_I 7, ab_O 3 (3 * a + 1), ab_O 3 (3 * b)]) X (fun h => by cases h) (s_PT_offerTwo u (3 * p1) (3 * a + 1) (3 * b) 7 P0.1 (by omega) (by omega) (by omega)) ls_PT_82 d_PT_offerWaysOfB_163 rfl rfl ⟨by first | exact Nat.le_of_ble_eq_true rfl | (simp only [ab_rm]; omega), by first | exact Nat.le_of_ble_eq_true rfl | (simp only [ab_rm]; omega)⟩ ⟨by first | exact Nat.le_of_ble_eq_true rfl | (simp only [ab_rm]; omega), by first | exact Nat.le_of_ble_eq_true rfl | (simp only [ab_rm]; omega)⟩ (Nat.le_of_ble_eq_true rfl) (fun u163 r163 h163 => ?_)
            obtain ⟨q163, rfl⟩ := h163
            have P163 := P0.trans q163 (by decide)
            refine ab_aload_n X 0 d_PT_offerWaysOfB_166 rfl rfl ?_
            refine ab_gR X fl_PT_20 d_PT_offerWaysOfB_167 (by first | assumption | decide | (show _ < 124; omega) | (show _ < 61; omega) | (show _ < 20; omega)) (P163.1.pt1 (by first | assumption | decide | omega)) ?_
            refine ab_aload_n X 1 d_PT_offerWaysOfB_170 rfl rfl ?_
            refine ab_bipush (v := 7) X d_PT_offerWaysOfB_171 (by decide) ?_
            refine ab_aload_n X 0 d_PT_offerWaysOfB_173 rfl rfl ?_
            refine ab_gR X fl_PT_11 d_PT_offerWaysOfB_174 (by first | assumption | decide | (show _ < 124; omega) | (show _ < 61; omega) | (show _ < 20; omega)) (P163.1.pt0 (by first | assumption | decide | omega)) ?_
            refine ab_iconst (v := 1) X d_PT_offerWaysOfB_177 (by decide) ?_
            refine ab_aalv X (1) ⟨rfl, _, fun _ => rfl⟩ d_PT_offerWaysOfB_178 (by first | assumption | decide | (show _ < 124; omega) | (show _ < 61; omega) | (show _ < 20; omega)) (rfl) (show 1 < 4 by decide) (ab_ln_lt _ _) (P163.rr (by decide) eb) ?_
            refine ab_gR X fl_PT_24 d_PT_offerWaysOfB_179 (by first | assumption | decide | (show _ < 124; omega) | (show _ < 61; omega) | (show _ < 20; omega)) (P163.1.pt2 (by first | assumption | decide | omega)) ?_
            refine ab_aload_n X 0 d_PT_offerWaysOfB_182 rfl rfl ?_
            refine ab_gR X fl_PT_11 d_PT_offerWaysOfB_183 (by first | assumption | decide | (show _ < 124; omega) | (show _ < 61; omega) | (show _ < 20; omega)) (P163.1.pt0 (by first | assumption | decide | omega)) ?_
            refine ab_iconst (v := 0) X d_PT_offerWaysOfB_186 (by decide) ?_
            refine ab_aalv X (0) ⟨rfl, _, fun _ => rfl⟩ d_PT_offerWaysOfB_187 (by first | assumption | decide | (show _ < 124; omega) | (show _ < 61; omega) | (show _ < 20; omega)) (rfl) (show 0 < 4 by decide) (ab_ln_lt _ _) (P163.rr (by decide) ea) ?_
            refine ab_gR X fl_PT_20 d_PT_offerWaysOfB_188 (by first | assumption | decide | (show _ < 124; omega) | (show _ < 61; omega) | (show _ < 20; omega)) (P163.1.pt1 (by first | assumption | decide | omega)) ?_
            refine ab_callS (as := [ab_O 3 (3 * p1), ab_O 3 60, ab_I 7, ab_O 3 (3 * b + 1), ab_O 3 (3 * a)]) X (fun h => by cases h) (s_PT_offerTwo u163 (3 * p1) (3 * b + 1) (3 * a) 7 P163.1 (by omega) (by omega) (by omega)) ls_PT_82 d_PT_offerWaysOfB_191 rfl rfl ⟨by first | exact Nat.le_of_ble_eq_true rfl | (simp only [ab_rm]; omega), by first | exact Nat.le_of_ble_eq_true rfl | (simp only [ab_rm]; omega)⟩ ⟨by first | exact Nat.le_of_ble_eq_true rfl | (simp only [ab_rm]; omega), by first | exact Nat.le_of_ble_eq_true rfl | (simp only [ab_rm]; omega)⟩ (Nat.le_of_ble_eq_true rfl) (fun u191 r191 h191 => ?_)
            obtain ⟨q191, rfl⟩ := h191
            have P191 := P163.trans q191 (by decide)
            refine ab_aload_n X 0 d_PT_offerWaysOfB_194 rfl rfl ?_
            refine ab_gR X fl_PT_20 d_PT_offerWaysOfB_195 (by first | assumption | decide | (show _ < 124; omega) | (show _ < 61; omega) | (show _ < 20; omega)) (P191.1.pt1 (by first | assumption | decide | omega)) ?_
            refine ab_aload_n X 1 d_PT_offerWaysOfB_198 rfl rfl ?_
            refine ab_iconst (v := 5) X d_PT_offerWaysOfB_199 (by decide) ?_
            refine ab_aload_n X 0 d_PT_offerWaysOfB_200 rfl rfl ?_
            refine ab_gR X fl_PT_11 d_PT_offerWaysOfB_201 (by first | assumption | decide | (show _ < 124; omega) | (show _ < 61; omega) | (show _ < 20; omega)) (P191.1.pt0 (by first | assumption | decide | omega)) ?_
            refine ab_iconst (v := 0) X d_PT_offerWaysOfB_204 (by decide) ?_
            refine ab_aalv X (0) ⟨rfl, _, fun _ => rfl⟩ d_PT_offerWaysOfB_205 (by first | assumption | decide | (show _ < 124; omega) | (show _ < 61; omega) | (show _ < 20; omega)) (rfl) (show 0 < 4 by decide) (ab_ln_lt _ _) (P191.rr (by decide) ea) ?_
            refine ab_gR X fl_PT_20 d_PT_offerWaysOfB_206 (by first | assumption | decide | (show _ < 124; omega) | (show _ < 61; omega) | (show _ < 20; omega)) (P191.1.pt1 (by first | assumption | decide | omega)) ?_
            refine ab_aload_n X 0 d_PT_offerWaysOfB_209 rfl rfl ?_
            refine ab_gR X fl_PT_11 d_PT_offerWaysOfB_210 (by first | assumption | decide | (show _ < 124; omega) | (show _ < 61; omega) | (show _ < 20; omega)) (P191.1.pt0 (by first | assumption | decide | omega)) ?_
            refine ab_iconst (v := 1) X d_PT_offerWaysOfB_213 (by decide) ?_
            refine ab_aalv X (1) ⟨rfl, _, fun _ => rfl⟩ d_PT_offerWaysOfB_214 (by first | assumption | decide | (show _ < 124; omega) | (show _ < 61; omega) | (show _ < 20; omega)) (rfl) (show 1 < 4 by decide) (ab_ln_lt _ _) (P191.rr (by decide) eb) ?_
            refine ab_gR X fl_PT_20 d_PT_offerWaysOfB_215 (by first | assumption | decide | (show _ < 124; omega) | (show _ < 61; omega) | (show _ < 20; omega)) (P191.1.pt1 (by first | assumption | decide | omega)) ?_
            refine ab_callS (as := [ab_O 3 (3 * p1), ab_O 3 60, ab_I 5, ab_O 3 (3 * a), ab_O 3 (3 * b)]) X (fun h => by cases h) (s_PT_offerTwo u191 (3 * p1) (3 * a) (3 * b) 5 P191.1 (by omega) (by omega) (by omega)) ls_PT_82 d_PT_offerWaysOfB_218 rfl rfl ⟨by first | exact Nat.le_of_ble_eq_true rfl | (simp only [ab_rm]; omega), by first | exact Nat.le_of_ble_eq_true rfl | (simp only [ab_rm]; omega)⟩ ⟨by first | exact Nat.le_of_ble_eq_true rfl | (simp only [ab_rm]; omega), by first | exact Nat.le_of_ble_eq_true rfl | (simp only [ab_rm]; omega)⟩ (Nat.le_of_ble_eq_true rfl) (fun u218 r218 h218 => ?_)
            obtain ⟨q218, rfl⟩ := h218
            have P218 := P191.trans q218 (by decide)
            refine ab_goto X 249 d_PT_offerWaysOfB_221 rfl ?_
            exact ab_retv X hr0 hlk d_PT_offerWaysOfB_249 ⟨P218, rfl⟩
      ·
        refine ab_aload_n X 0 d_PT_offerWaysOfB_56 rfl rfl ?_
        refine ab_gI X fl_PT_37 d_PT_offerWaysOfB_57 (by first | assumption | decide | (show _ < 124; omega) | (show _ < 61; omega) | (show _ < 20; omega)) (rfl) ?_
        refine ab_iconst (v := 2) X d_PT_offerWaysOfB_60 (by decide) ?_
        refine ab_icmp_ne X 121 d_PT_offerWaysOfB_61 rfl (fun h61 => ?_) (fun h61 => ?_)
        ·
          refine ab_aload_n X 0 d_PT_offerWaysOfB_121 rfl rfl ?_
          refine ab_gI X fl_PT_30 d_PT_offerWaysOfB_122 (by first | assumption | decide | (show _ < 124; omega) | (show _ < 61; omega) | (show _ < 20; omega)) (rfl) ?_
          refine ab_bipush (v := 7) X d_PT_offerWaysOfB_125 (by decide) ?_
          refine ab_icmp_ne X 224 d_PT_offerWaysOfB_127 rfl (fun h127 => ?_) (fun h127 => ?_)
          ·
            refine ab_aload_n X 0 d_PT_offerWaysOfB_224 rfl rfl ?_
            refine ab_gI X fl_PT_30 d_PT_offerWaysOfB_225 (by first | assumption | decide | (show _ < 124; omega) | (show _ < 61; omega) | (show _ < 20; omega)) (rfl) ?_
            refine ab_bipush (v := 8) X d_PT_offerWaysOfB_228 (by decide) ?_
            refine ab_icmp_ne X 249 d_PT_offerWaysOfB_230 rfl (fun h230 => ?_) (fun h230 => ?_)
            ·
              exact ab_retv X hr0 hlk d_PT_offerWaysOfB_249 ⟨P0, rfl⟩
            ·
              refine ab_aload_n X 0 d_PT_offerWaysOfB_233 rfl rfl ?_
              refine ab_gI X fl_PT_34 d_PT_offerWaysOfB_234 (by first | assumption | decide | (show _ < 124; omega) | (show _ < 61; omega) | (show _ < 20; omega)) (rfl) ?_
              refine ab_aload_n X 0 d_PT_offerWaysOfB_237 rfl rfl ?_
              refine ab_gI X fl_PT_37 d_PT_offerWaysOfB_238 (by first | assumption | decide | (show _ < 124; omega) | (show _ < 61; omega) | (show _ < 20; omega)) (rfl) ?_
              refine ab_icmp_ne X 249 d_PT_offerWaysOfB_241 rfl (fun h241 => ?_) (fun h241 => ?_)
              ·
                exact ab_retv X hr0 hlk d_PT_offerWaysOfB_249 ⟨P0, rfl⟩
              ·
                refine ab_aload_n X 0 d_PT_offerWaysOfB_244 rfl rfl ?_
                refine ab_aload_n X 1 d_PT_offerWaysOfB_245 rfl rfl ?_
                refine ab_callV (as := [ab_O 3 60]) X (fun h => by cases h) (s_PT_offerRowOfAll u p1 h hp) lk_PT_86 d_PT_offerWaysOfB_246 rfl rfl (by first | assumption | decide | (show _ < 124; omega) | (show _ < 61; omega) | (show _ < 20; omega)) ⟨by first | exact Nat.le_of_ble_eq_true rfl | (simp only [ab_rm]; omega), by first | exact Nat.le_of_ble_eq_true rfl | (simp only [ab_rm]; omega)⟩ ⟨by first | exact Nat.le_of_ble_eq_true rfl | (simp only [ab_rm]; omega), by first | exact Nat.le_of_ble_eq_true rfl | (simp only [ab_rm]; omega)⟩ (Nat.le_of_ble_eq_true rfl) (fun u246 r246 h246 => ?_)
                obtain ⟨q246, rfl⟩ := h246
                have P246 := P0.trans q246 (by decide)
                exact ab_retv X hr0 hlk d_PT_offerWaysOfB_249 ⟨P246, rfl⟩
          ·
            refine ab_aload_n X 0 d_PT_offerWaysOfB_130 rfl rfl ?_
            refine ab_gI X fl_PT_37 d_PT_offerWaysOfB_131 (by first | assumption | decide | (show _ < 124; omega) | (show _ < 61; omega) | (show _ < 20; omega)) (rfl) ?_
            refine ab_iconst (v := 2) X d_PT_offerWaysOfB_134 (by decide) ?_
            refine ab_icmp_ne X 224 d_PT_offerWaysOfB_135 rfl (fun h135 => ?_) (fun h135 => ?_)
            ·
              refine ab_aload_n X 0 d_PT_offerWaysOfB_224 rfl rfl ?_
              refine ab_gI X fl_PT_30 d_PT_offerWaysOfB_225 (by first | assumption | decide | (show _ < 124; omega) | (show _ < 61; omega) | (show _ < 20; omega)) (rfl) ?_
              refine ab_bipush (v := 8) X d_PT_offerWaysOfB_228 (by decide) ?_
              refine ab_icmp_ne X 249 d_PT_offerWaysOfB_230 rfl (fun h230 => ?_) (fun h230 => ?_)
              ·
                exact ab_retv X hr0 hlk d_PT_offerWaysOfB_249 ⟨P0, rfl⟩
              ·
                refine ab_aload_n X 0 d_PT_offerWaysOfB_233 rfl rfl ?_
                refine ab_gI X fl_PT_34 d_PT_offerWaysOfB_234 (by first | assumption | decide | (show _ < 124; omega) | (show _ < 61; omega) | (show _ < 20; omega)) (rfl) ?_
                refine ab_aload_n X 0 d_PT_offerWaysOfB_237 rfl rfl ?_
                refine ab_gI X fl_PT_37 d_PT_offerWaysOfB_238 (by first | assumption | decide | (show _ < 124; omega) | (show _ < 61; omega) | (show _ < 20; omega)) (rfl) ?_
                refine ab_icmp_ne X 249 d_PT_offerWaysOfB_241 rfl (fun h241 => ?_) (fun h241 => ?_)
                ·
                  exact ab_retv X hr0 hlk d_PT_offerWaysOfB_249 ⟨P0, rfl⟩
                ·
                  refine ab_aload_n X 0 d_PT_offerWaysOfB_244 rfl rfl ?_
                  refine ab_aload_n X 1 d_PT_offerWaysOfB_245 rfl rfl ?_
                  refine ab_callV (as := [ab_O 3 60]) X (fun h => by cases h) (s_PT_offerRowOfAll u p1 h hp) lk_PT_86 d_PT_offerWaysOfB_246 rfl rfl (by first | assumption | decide | (show _ < 124; omega) | (show _ < 61; omega) | (show _ < 20; omega)) ⟨by first | exact Nat.le_of_ble_eq_true rfl | (simp only [ab_rm]; omega), by first | exact Nat.le_of_ble_eq_true rfl | (simp only [ab_rm]; omega)⟩ ⟨by first | exact Nat.le_of_ble_eq_true rfl | (simp only [ab_rm]; omega), by first | exact Nat.le_of_ble_eq_true rfl | (simp only [ab_rm]; omega)⟩ (Nat.le_of_ble_eq_true rfl) (fun u246 r246 h246 => ?_)
                  obtain ⟨q246, rfl⟩ := h246
                  have P246 := P0.trans q246 (by decide)
                  exact ab_retv X hr0 hlk d_PT_offerWaysOfB_249 ⟨P246, rfl⟩
            ·
              obtain ⟨a, b, ha, hb, ea, eb⟩ := ci_two h hp h135
              refine ab_aload_n X 0 d_PT_offerWaysOfB_138 rfl rfl ?_
              refine ab_gR X fl_PT_20 d_PT_offerWaysOfB_139 (by first | assumption | decide | (show _ < 124; omega) | (show _ < 61; omega) | (show _ < 20; omega)) (P0.1.pt1 (by first | assumption | decide | omega)) ?_
              refine ab_aload_n X 1 d_PT_offerWaysOfB_142 rfl rfl ?_
              refine ab_bipush (v := 7) X d_PT_offerWaysOfB_143 (by decide) ?_
              refine ab_aload_n X 0 d_PT_offerWaysOfB_145 rfl rfl ?_
              refine ab_gR X fl_PT_11 d_PT_offerWaysOfB_146 (by first | assumption | decide | (show _ < 124; omega) | (show _ < 61; omega) | (show _ < 20; omega)) (P0.1.pt0 (by first | assumption | decide | omega)) ?_
              refine ab_iconst (v := 0) X d_PT_offerWaysOfB_149 (by decide) ?_
              refine ab_aalv X (0) ⟨rfl, _, fun _ => rfl⟩ d_PT_offerWaysOfB_150 (by first | assumption | decide | (show _ < 124; omega) | (show _ < 61; omega) | (show _ < 20; omega)) (rfl) (show 0 < 4 by decide) (ab_ln_lt _ _) (P0.rr (by decide) ea) ?_
              refine ab_gR X fl_PT_24 d_PT_offerWaysOfB_151 (by first | assumption | decide | (show _ < 124; omega) | (show _ < 61; omega) | (show _ < 20; omega)) (P0.1.pt2 (by first | assumption | decide | omega)) ?_
              refine ab_aload_n X 0 d_PT_offerWaysOfB_154 rfl rfl ?_
              refine ab_gR X fl_PT_11 d_PT_offerWaysOfB_155 (by first | assumption | decide | (show _ < 124; omega) | (show _ < 61; omega) | (show _ < 20; omega)) (P0.1.pt0 (by first | assumption | decide | omega)) ?_
              refine ab_iconst (v := 1) X d_PT_offerWaysOfB_158 (by decide) ?_
              refine ab_aalv X (1) ⟨rfl, _, fun _ => rfl⟩ d_PT_offerWaysOfB_159 (by first | assumption | decide | (show _ < 124; omega) | (show _ < 61; omega) | (show _ < 20; omega)) (rfl) (show 1 < 4 by decide) (ab_ln_lt _ _) (P0.rr (by decide) eb) ?_
              refine ab_gR X fl_PT_20 d_PT_offerWaysOfB_160 (by first | assumption | decide | (show _ < 124; omega) | (show _ < 61; omega) | (show _ < 20; omega)) (P0.1.pt1 (by first | assumption | decide | omega)) ?_
              refine ab_callS (as := [ab_O 3 (3 * p1), ab_O 3 60, ab_I 7, ab_O 3 (3 * a + 1), ab_O 3 (3 * b)]) X (fun h => by cases h) (s_PT_offerTwo u (3 * p1) (3 * a + 1) (3 * b) 7 P0.1 (by omega) (by omega) (by omega)) ls_PT_82 d_PT_offerWaysOfB_163 rfl rfl ⟨by first | exact Nat.le_of_ble_eq_true rfl | (simp only [ab_rm]; omega), by first | exact Nat.le_of_ble_eq_true rfl | (simp only [ab_rm]; omega)⟩ ⟨by first | exact Nat.le_of_ble_eq_true rfl | (simp only [ab_rm]; omega), by first | exact Nat.le_of_ble_eq_true rfl | (simp only [ab_rm]; omega)⟩ (Nat.le_of_ble_eq_true rfl) (fun u163 r163 h163 => ?_)
              obtain ⟨q163, rfl⟩ := h163
              have P163 := P0.trans q163 (by decide)
              refine ab_aload_n X 0 d_PT_offerWaysOfB_166 rfl rfl ?_
              refine ab_gR X fl_PT_20 d_PT_offerWaysOfB_167 (by first | assumption | decide | (show _ < 124; omega) | (show _ < 61; omega) | (show _ < 20; omega)) (P163.1.pt1 (by first | assumption | decide | omega)) ?_
              refine ab_aload_n X 1 d_PT_offerWaysOfB_170 rfl rfl ?_
              refine ab_bipush (v := 7) X d_PT_offerWaysOfB_171 (by decide) ?_
              refine ab_aload_n X 0 d_PT_offerWaysOfB_173 rfl rfl ?_
              refine ab_gR X fl_PT_11 d_PT_offerWaysOfB_174 (by first | assumption | decide | (show _ < 124; omega) | (show _ < 61; omega) | (show _ < 20; omega)) (P163.1.pt0 (by first | assumption | decide | omega)) ?_
              refine ab_iconst (v := 1) X d_PT_offerWaysOfB_177 (by decide) ?_
              refine ab_aalv X (1) ⟨rfl, _, fun _ => rfl⟩ d_PT_offerWaysOfB_178 (by first | assumption | decide | (show _ < 124; omega) | (show _ < 61; omega) | (show _ < 20; omega)) (rfl) (show 1 < 4 by decide) (ab_ln_lt _ _) (P163.rr (by decide) eb) ?_
              refine ab_gR X fl_PT_24 d_PT_offerWaysOfB_179 (by first | assumption | decide | (show _ < 124; omega) | (show _ < 61; omega) | (show _ < 20; omega)) (P163.1.pt2 (by first | assumption | decide | omega)) ?_
              refine ab_aload_n X 0 d_PT_offerWaysOfB_182 rfl rfl ?_
              refine ab_gR X fl_PT_11 d_PT_offerWaysOfB_183 (by first | assumption | decide | (show _ < 124; omega) | (show _ < 61; omega) | (show _ < 20; omega)) (P163.1.pt0 (by first | assumption | decide | omega)) ?_
              refine ab_iconst (v := 0) X d_PT_offerWaysOfB_186 (by decide) ?_
              refine ab_aalv X (0) ⟨rfl, _, fun _ => rfl⟩ d_PT_offerWaysOfB_187 (by first | assumption | decide | (show _ < 124; omega) | (show _ < 61; omega) | (show _ < 20; omega)) (rfl) (show 0 < 4 by decide) (ab_ln_lt _ _) (P163.rr (by decide) ea) ?_
              refine ab_gR X fl_PT_20 d_PT_offerWaysOfB_188 (by first | assumption | decide | (show _ < 124; omega) | (show _ < 61; omega) | (show _ < 20; omega)) (P163.1.pt1 (by first | assumption | decide | omega)) ?_
              refine ab_callS (as := [ab_O 3 (3 * p1), ab_O 3 60, ab_I 7, ab_O 3 (3 * b + 1), ab_O 3 (3 * a)]) X (fun h => by cases h) (s_PT_offerTwo u163 (3 * p1) (3 * b + 1) (3 * a) 7 P163.1 (by omega) (by omega) (by omega)) ls_PT_82 d_PT_offerWaysOfB_191 rfl rfl ⟨by first | exact Nat.le_of_ble_eq_true rfl | (simp only [ab_rm]; omega), by first | exact Nat.le_of_ble_eq_true rfl | (simp only [ab_rm]; omega)⟩ ⟨by first | exact Nat.le_of_ble_eq_true rfl | (simp only [ab_rm]; omega), by first | exact Nat.le_of_ble_eq_true rfl | (simp only [ab_rm]; omega)⟩ (Nat.le_of_ble_eq_true rfl) (fun u191 r191 h191 => ?_)
              obtain ⟨q191, rfl⟩ := h191
              have P191 := P163.trans q191 (by decide)
              refine ab_aload_n X 0 d_PT_offerWaysOfB_194 rfl rfl ?_
              refine ab_gR X fl_PT_20 d_PT_offerWaysOfB_195 (by first | assumption | decide | (show _ < 124; omega) | (show _ < 61; omega) | (show _ < 20; omega)) (P191.1.pt1 (by first | assumption | decide | omega)) ?_
              refine ab_aload_n X 1 d_PT_offerWaysOfB_198 rfl rfl ?_
              refine ab_iconst (v := 5) X d_PT_offerWaysOfB_199 (by decide) ?_
              refine ab_aload_n X 0 d_PT_offerWaysOfB_200 rfl rfl ?_
              refine ab_gR X fl_PT_11 d_PT_offerWaysOfB_201 (by first | assumption | decide | (show _ < 124; omega) | (show _ < 61; omega) | (show _ < 20; omega)) (P191.1.pt0 (by first | assumption | decide | omega)) ?_
              refine ab_iconst (v := 0) X d_PT_offerWaysOfB_204 (by decide) ?_
              refine ab_aalv X (0) ⟨rfl, _, fun _ => rfl⟩ d_PT_offerWaysOfB_205 (by first | assumption | decide | (show _ < 124; omega) | (show _ < 61; omega) | (show _ < 20; omega)) (rfl) (show 0 < 4 by decide) (ab_ln_lt _ _) (P191.rr (by decide) ea) ?_
              refine ab_gR X fl_PT_20 d_PT_offerWaysOfB_206 (by first | assumption | decide | (show _ < 124; omega) | (show _ < 61; omega) | (show _ < 20; omega)) (P191.1.pt1 (by first | assumption | decide | omega)) ?_
              refine ab_aload_n X 0 d_PT_offerWaysOfB_209 rfl rfl ?_
              refine ab_gR X fl_PT_11 d_PT_offerWaysOfB_210 (by first | assumption | decide | (show _ < 124; omega) | (show _ < 61; omega) | (show _ < 20; omega)) (P191.1.pt0 (by first | assumption | decide | omega)) ?_
              refine ab_iconst (v := 1) X d_PT_offerWaysOfB_213 (by decide) ?_
              refine ab_aalv X (1) ⟨rfl, _, fun _ => rfl⟩ d_PT_offerWaysOfB_214 (by first | assumption | decide | (show _ < 124; omega) | (show _ < 61; omega) | (show _ < 20; omega)) (rfl) (show 1 < 4 by decide) (ab_ln_lt _ _) (P191.rr (by decide) eb) ?_
              refine ab_gR X fl_PT_20 d_PT_offerWaysOfB_215 (by first | assumption | decide | (show _ < 124; omega) | (show _ < 61; omega) | (show _ < 20; omega)) (P191.1.pt1 (by first | assumption | decide | omega)) ?_
              refine ab_callS (as := [ab_O 3 (3 * p1), ab_O 3 60, ab_I 5, ab_O 3 (3 * a), ab_O 3 (3 * b)]) X (fun h => by cases h) (s_PT_offerTwo u191 (3 * p1) (3 * a) (3 * b) 5 P191.1 (by omega) (by omega) (by omega)) ls_PT_82 d_PT_offerWaysOfB_218 rfl rfl ⟨by first | exact Nat.le_of_ble_eq_true rfl | (simp only [ab_rm]; omega), by first | exact Nat.le_of_ble_eq_true rfl | (simp only [ab_rm]; omega)⟩ ⟨by first | exact Nat.le_of_ble_eq_true rfl | (simp only [ab_rm]; omega), by first | exact Nat.le_of_ble_eq_true rfl | (simp only [ab_rm]; omega)⟩ (Nat.le_of_ble_eq_true rfl) (fun u218 r218 h218 => ?_)
              obtain ⟨q218, rfl⟩ := h218
              have P218 := P191.trans q218 (by decide)
              refine ab_goto X 249 d_PT_offerWaysOfB_221 rfl ?_
              exact ab_retv X hr0 hlk d_PT_offerWaysOfB_249 ⟨P218, rfl⟩
        ·
          obtain ⟨a, b, ha, hb, ea, eb⟩ := ci_two h hp h61
          refine ab_aload_n X 0 d_PT_offerWaysOfB_64 rfl rfl ?_
          refine ab_gR X fl_PT_20 d_PT_offerWaysOfB_65 (by first | assumption | decide | (show _ < 124; omega) | (show _ < 61; omega) | (show _ < 20; omega)) (P0.1.pt1 (by first | assumption | decide | omega)) ?_
          refine ab_aload_n X 1 d_PT_offerWaysOfB_68 rfl rfl ?_
          refine ab_iconst (v := 2) X d_PT_offerWaysOfB_69 (by decide) ?_
          refine ab_aload_n X 0 d_PT_offerWaysOfB_70 rfl rfl ?_
          refine ab_gR X fl_PT_11 d_PT_offerWaysOfB_71 (by first | assumption | decide | (show _ < 124; omega) | (show _ < 61; omega) | (show _ < 20; omega)) (P0.1.pt0 (by first | assumption | decide | omega)) ?_
          refine ab_iconst (v := 0) X d_PT_offerWaysOfB_74 (by decide) ?_
          refine ab_aalv X (0) ⟨rfl, _, fun _ => rfl⟩ d_PT_offerWaysOfB_75 (by first | assumption | decide | (show _ < 124; omega) | (show _ < 61; omega) | (show _ < 20; omega)) (rfl) (show 0 < 4 by decide) (ab_ln_lt _ _) (P0.rr (by decide) ea) ?_
          refine ab_gR X fl_PT_27 d_PT_offerWaysOfB_76 (by first | assumption | decide | (show _ < 124; omega) | (show _ < 61; omega) | (show _ < 20; omega)) (P0.1.pt3 (by first | assumption | decide | omega)) ?_
          refine ab_aload_n X 0 d_PT_offerWaysOfB_79 rfl rfl ?_
          refine ab_gR X fl_PT_11 d_PT_offerWaysOfB_80 (by first | assumption | decide | (show _ < 124; omega) | (show _ < 61; omega) | (show _ < 20; omega)) (P0.1.pt0 (by first | assumption | decide | omega)) ?_
          refine ab_iconst (v := 1) X d_PT_offerWaysOfB_83 (by decide) ?_
          refine ab_aalv X (1) ⟨rfl, _, fun _ => rfl⟩ d_PT_offerWaysOfB_84 (by first | assumption | decide | (show _ < 124; omega) | (show _ < 61; omega) | (show _ < 20; omega)) (rfl) (show 1 < 4 by decide) (ab_ln_lt _ _) (P0.rr (by decide) eb) ?_
          refine ab_gR X fl_PT_20 d_PT_offerWaysOfB_85 (by first | assumption | decide | (show _ < 124; omega) | (show _ < 61; omega) | (show _ < 20; omega)) (P0.1.pt1 (by first | assumption | decide | omega)) ?_
          refine ab_callS (as := [ab_O 3 (3 * p1), ab_O 3 60, ab_I 2, ab_O 3 (3 * a + 2), ab_O 3 (3 * b)]) X (fun h => by cases h) (s_PT_offerTwo u (3 * p1) (3 * a + 2) (3 * b) 2 P0.1 (by omega) (by omega) (by omega)) ls_PT_82 d_PT_offerWaysOfB_88 rfl rfl ⟨by first | exact Nat.le_of_ble_eq_true rfl | (simp only [ab_rm]; omega), by first | exact Nat.le_of_ble_eq_true rfl | (simp only [ab_rm]; omega)⟩ ⟨by first | exact Nat.le_of_ble_eq_true rfl | (simp only [ab_rm]; omega), by first | exact Nat.le_of_ble_eq_true rfl | (simp only [ab_rm]; omega)⟩ (Nat.le_of_ble_eq_true rfl) (fun u88 r88 h88 => ?_)
          obtain ⟨q88, rfl⟩ := h88
          have P88 := P0.trans q88 (by decide)
          refine ab_aload_n X 0 d_PT_offerWaysOfB_91 rfl rfl ?_
          refine ab_gR X fl_PT_20 d_PT_offerWaysOfB_92 (by first | assumption | decide | (show _ < 124; omega) | (show _ < 61; omega) | (show _ < 20; omega)) (P88.1.pt1 (by first | assumption | decide | omega)) ?_
          refine ab_aload_n X 1 d_PT_offerWaysOfB_95 rfl rfl ?_
          refine ab_iconst (v := 2) X d_PT_offerWaysOfB_96 (by decide) ?_
          refine ab_aload_n X 0 d_PT_offerWaysOfB_97 rfl rfl ?_
          refine ab_gR X fl_PT_11 d_PT_offerWaysOfB_98 (by first | assumption | decide | (show _ < 124; omega) | (show _ < 61; omega) | (show _ < 20; omega)) (P88.1.pt0 (by first | assumption | decide | omega)) ?_
          refine ab_iconst (v := 1) X d_PT_offerWaysOfB_101 (by decide) ?_
          refine ab_aalv X (1) ⟨rfl, _, fun _ => rfl⟩ d_PT_offerWaysOfB_102 (by first | assumption | decide | (show _ < 124; omega) | (show _ < 61; omega) | (show _ < 20; omega)) (rfl) (show 1 < 4 by decide) (ab_ln_lt _ _) (P88.rr (by decide) eb) ?_
          refine ab_gR X fl_PT_27 d_PT_offerWaysOfB_103 (by first | assumption | decide | (show _ < 124; omega) | (show _ < 61; omega) | (show _ < 20; omega)) (P88.1.pt3 (by first | assumption | decide | omega)) ?_
          refine ab_aload_n X 0 d_PT_offerWaysOfB_106 rfl rfl ?_
          refine ab_gR X fl_PT_11 d_PT_offerWaysOfB_107 (by first | assumption | decide | (show _ < 124; omega) | (show _ < 61; omega) | (show _ < 20; omega)) (P88.1.pt0 (by first | assumption | decide | omega)) ?_
          refine ab_iconst (v := 0) X d_PT_offerWaysOfB_110 (by decide) ?_
          refine ab_aalv X (0) ⟨rfl, _, fun _ => rfl⟩ d_PT_offerWaysOfB_111 (by first | assumption | decide | (show _ < 124; omega) | (show _ < 61; omega) | (show _ < 20; omega)) (rfl) (show 0 < 4 by decide) (ab_ln_lt _ _) (P88.rr (by decide) ea) ?_
          refine ab_gR X fl_PT_20 d_PT_offerWaysOfB_112 (by first | assumption | decide | (show _ < 124; omega) | (show _ < 61; omega) | (show _ < 20; omega)) (P88.1.pt1 (by first | assumption | decide | omega)) ?_
          refine ab_callS (as := [ab_O 3 (3 * p1), ab_O 3 60, ab_I 2, ab_O 3 (3 * b + 2), ab_O 3 (3 * a)]) X (fun h => by cases h) (s_PT_offerTwo u88 (3 * p1) (3 * b + 2) (3 * a) 2 P88.1 (by omega) (by omega) (by omega)) ls_PT_82 d_PT_offerWaysOfB_115 rfl rfl ⟨by first | exact Nat.le_of_ble_eq_true rfl | (simp only [ab_rm]; omega), by first | exact Nat.le_of_ble_eq_true rfl | (simp only [ab_rm]; omega)⟩ ⟨by first | exact Nat.le_of_ble_eq_true rfl | (simp only [ab_rm]; omega), by first | exact Nat.le_of_ble_eq_true rfl | (simp only [ab_rm]; omega)⟩ (Nat.le_of_ble_eq_true rfl) (fun u115 r115 h115 => ?_)
          obtain ⟨q115, rfl⟩ := h115
          have P115 := P88.trans q115 (by decide)
          refine ab_goto X 249 d_PT_offerWaysOfB_118 rfl ?_
          exact ab_retv X hr0 hlk d_PT_offerWaysOfB_249 ⟨P115, rfl⟩
    ·
      refine ab_aload_n X 0 d_PT_offerWaysOfB_18 rfl rfl ?_
      refine ab_gR X fl_PT_20 d_PT_offerWaysOfB_19 (by first | assumption | decide | (show _ < 124; omega) | (show _ < 61; omega) | (show _ < 20; omega)) (P0.1.pt1 (by first | assumption | decide | omega)) ?_
      refine ab_aload_n X 1 d_PT_offerWaysOfB_22 rfl rfl ?_
      refine ab_iconst (v := 1) X d_PT_offerWaysOfB_23 (by decide) ?_
      refine ab_sipush (v := 1000) X d_PT_offerWaysOfB_24 (by decide) ?_
      refine ab_aload_n X 0 d_PT_offerWaysOfB_27 rfl rfl ?_
      refine ab_gI X fl_PT_30 d_PT_offerWaysOfB_28 (by first | assumption | decide | (show _ < 124; omega) | (show _ < 61; omega) | (show _ < 20; omega)) (rfl) ?_
      refine ab_imul X d_PT_offerWaysOfB_31 ?_
      refine ab_aload_n X 0 d_PT_offerWaysOfB_32 rfl rfl ?_
      refine ab_gI X fl_PT_34 d_PT_offerWaysOfB_33 (by first | assumption | decide | (show _ < 124; omega) | (show _ < 61; omega) | (show _ < 20; omega)) (rfl) ?_
      refine ab_iadd X d_PT_offerWaysOfB_36 ?_
      refine ab_iconst (v := 0) X d_PT_offerWaysOfB_37 (by decide) ?_
      refine ab_callV (as := [ab_I 1, ab_I _, ab_I 0]) X (fun h => by cases h) (s_FM_start u 60 1 _ 0 (P0.ex 60).1 (by decide)) lk_PT_65 d_PT_offerWaysOfB_38 rfl rfl (by first | assumption | decide | (show _ < 124; omega) | (show _ < 61; omega) | (show _ < 20; omega)) ⟨by first | exact Nat.le_of_ble_eq_true rfl | (simp only [ab_rm]; omega), by first | exact Nat.le_of_ble_eq_true rfl | (simp only [ab_rm]; omega)⟩ ⟨by first | exact Nat.le_of_ble_eq_true rfl | (simp only [ab_rm]; omega), by first | exact Nat.le_of_ble_eq_true rfl | (simp only [ab_rm]; omega)⟩ (Nat.le_of_ble_eq_true rfl) (fun u38 r38 h38 => ?_)
      obtain ⟨⟨q38, a1, a2, a3⟩, rfl⟩ := h38
      have P38 := P0.trans q38 (by decide)
      have R41 := ci_done P38 a2 a3 (by decide) ci_cl1
      refine ab_callV (as := [ab_O 3 60]) X (fun h => by cases h) (s_FM_offer u38 (3 * p1) 60 R41.1 (by omega) (by decide) (by omega)) lk_PT_73 d_PT_offerWaysOfB_41 rfl rfl (by first | assumption | decide | (show _ < 124; omega) | (show _ < 61; omega) | (show _ < 20; omega)) ⟨by first | exact Nat.le_of_ble_eq_true rfl | (simp only [ab_rm]; omega), by first | exact Nat.le_of_ble_eq_true rfl | (simp only [ab_rm]; omega)⟩ ⟨by first | exact Nat.le_of_ble_eq_true rfl | (simp only [ab_rm]; omega), by first | exact Nat.le_of_ble_eq_true rfl | (simp only [ab_rm]; omega)⟩ (Nat.le_of_ble_eq_true rfl) (fun u41 r41 h41 => ?_)
      obtain ⟨q41, rfl⟩ := h41
      have P41 := P38.trans q41 (by decide)
      refine ab_goto X 249 d_PT_offerWaysOfB_44 rfl ?_
      exact ab_retv X hr0 hlk d_PT_offerWaysOfB_249 ⟨P41, rfl⟩
abbrev b_PT_offerWaysOfD : ByteArray := prog_5_method_7_code
def y_PT_offerWaysOfD : MethodName := ⟨"PolicyForge$Part", "offerWaysOfD", "(LPolicyForge$Form;LPolicyForge$Form;)V"⟩
theorem d_PT_offerWaysOfD_0 : decode b_PT_offerWaysOfD 0 = .ok (.aload_n 0, 1) := by decide +kernel
theorem d_PT_offerWaysOfD_1 : decode b_PT_offerWaysOfD 1 = .ok (.getfield 30, 3) := by decide +kernel
theorem d_PT_offerWaysOfD_4 : decode b_PT_offerWaysOfD 4 = .ok (.iconst 1, 1) := by decide +kernel
theorem d_PT_offerWaysOfD_5 : decode b_PT_offerWaysOfD 5 = .ok (.if_icmp .ne 29, 3) := by decide +kernel
theorem d_PT_offerWaysOfD_8 : decode b_PT_offerWaysOfD 8 = .ok (.aload_n 1, 1) := by decide +kernel
theorem d_PT_offerWaysOfD_9 : decode b_PT_offerWaysOfD 9 = .ok (.aload_n 2, 1) := by decide +kernel
theorem d_PT_offerWaysOfD_10 : decode b_PT_offerWaysOfD 10 = .ok (.iconst 1, 1) := by decide +kernel
theorem d_PT_offerWaysOfD_11 : decode b_PT_offerWaysOfD 11 = .ok (.sipush 1000, 3) := by decide +kernel
theorem d_PT_offerWaysOfD_14 : decode b_PT_offerWaysOfD 14 = .ok (.aload_n 0, 1) := by decide +kernel
theorem d_PT_offerWaysOfD_15 : decode b_PT_offerWaysOfD 15 = .ok (.getfield 30, 3) := by decide +kernel
theorem d_PT_offerWaysOfD_18 : decode b_PT_offerWaysOfD 18 = .ok (.imul, 1) := by decide +kernel
theorem d_PT_offerWaysOfD_19 : decode b_PT_offerWaysOfD 19 = .ok (.aload_n 0, 1) := by decide +kernel
theorem d_PT_offerWaysOfD_20 : decode b_PT_offerWaysOfD 20 = .ok (.getfield 34, 3) := by decide +kernel
theorem d_PT_offerWaysOfD_23 : decode b_PT_offerWaysOfD 23 = .ok (.iadd, 1) := by decide +kernel
theorem d_PT_offerWaysOfD_24 : decode b_PT_offerWaysOfD 24 = .ok (.iconst 0, 1) := by decide +kernel
theorem d_PT_offerWaysOfD_25 : decode b_PT_offerWaysOfD 25 = .ok (.invokevirtual 65, 3) := by decide +kernel
theorem d_PT_offerWaysOfD_28 : decode b_PT_offerWaysOfD 28 = .ok (.invokevirtual 73, 3) := by decide +kernel
theorem d_PT_offerWaysOfD_31 : decode b_PT_offerWaysOfD 31 = .ok (.goto 19, 3) := by decide +kernel
theorem d_PT_offerWaysOfD_34 : decode b_PT_offerWaysOfD 34 = .ok (.aload_n 0, 1) := by decide +kernel
theorem d_PT_offerWaysOfD_35 : decode b_PT_offerWaysOfD 35 = .ok (.getfield 30, 3) := by decide +kernel
theorem d_PT_offerWaysOfD_38 : decode b_PT_offerWaysOfD 38 = .ok (.invokestatic 44, 3) := by decide +kernel
theorem d_PT_offerWaysOfD_41 : decode b_PT_offerWaysOfD 41 = .ok (.ifCond .ne 9, 3) := by decide +kernel
theorem d_PT_offerWaysOfD_44 : decode b_PT_offerWaysOfD 44 = .ok (.aload_n 0, 1) := by decide +kernel
theorem d_PT_offerWaysOfD_45 : decode b_PT_offerWaysOfD 45 = .ok (.aload_n 1, 1) := by decide +kernel
theorem d_PT_offerWaysOfD_46 : decode b_PT_offerWaysOfD 46 = .ok (.aload_n 2, 1) := by decide +kernel
theorem d_PT_offerWaysOfD_47 : decode b_PT_offerWaysOfD 47 = .ok (.invokevirtual 89, 3) := by decide +kernel
theorem d_PT_offerWaysOfD_50 : decode b_PT_offerWaysOfD 50 = .ok (.aload_n 0, 1) := by decide +kernel
theorem d_PT_offerWaysOfD_51 : decode b_PT_offerWaysOfD 51 = .ok (.getfield 30, 3) := by decide +kernel
theorem d_PT_offerWaysOfD_54 : decode b_PT_offerWaysOfD 54 = .ok (.bipush 7, 2) := by decide +kernel
theorem d_PT_offerWaysOfD_56 : decode b_PT_offerWaysOfD 56 = .ok (.if_icmp .ne 84, 3) := by decide +kernel
theorem d_PT_offerWaysOfD_59 : decode b_PT_offerWaysOfD 59 = .ok (.aload_n 0, 1) := by decide +kernel
theorem d_PT_offerWaysOfD_60 : decode b_PT_offerWaysOfD 60 = .ok (.getfield 37, 3) := by decide +kernel
theorem d_PT_offerWaysOfD_63 : decode b_PT_offerWaysOfD 63 = .ok (.iconst 2, 1) := by decide +kernel
theorem d_PT_offerWaysOfD_64 : decode b_PT_offerWaysOfD 64 = .ok (.if_icmp .ne 76, 3) := by decide +kernel
theorem d_PT_offerWaysOfD_67 : decode b_PT_offerWaysOfD 67 = .ok (.aload_n 1, 1) := by decide +kernel
theorem d_PT_offerWaysOfD_68 : decode b_PT_offerWaysOfD 68 = .ok (.aload_n 2, 1) := by decide +kernel
theorem d_PT_offerWaysOfD_69 : decode b_PT_offerWaysOfD 69 = .ok (.bipush 7, 2) := by decide +kernel
theorem d_PT_offerWaysOfD_71 : decode b_PT_offerWaysOfD 71 = .ok (.aload_n 0, 1) := by decide +kernel
theorem d_PT_offerWaysOfD_72 : decode b_PT_offerWaysOfD 72 = .ok (.getfield 11, 3) := by decide +kernel
theorem d_PT_offerWaysOfD_75 : decode b_PT_offerWaysOfD 75 = .ok (.iconst 0, 1) := by decide +kernel
theorem d_PT_offerWaysOfD_76 : decode b_PT_offerWaysOfD 76 = .ok (.aaload, 1) := by decide +kernel
theorem d_PT_offerWaysOfD_77 : decode b_PT_offerWaysOfD 77 = .ok (.getfield 24, 3) := by decide +kernel
theorem d_PT_offerWaysOfD_80 : decode b_PT_offerWaysOfD 80 = .ok (.aload_n 0, 1) := by decide +kernel
theorem d_PT_offerWaysOfD_81 : decode b_PT_offerWaysOfD 81 = .ok (.getfield 11, 3) := by decide +kernel
theorem d_PT_offerWaysOfD_84 : decode b_PT_offerWaysOfD 84 = .ok (.iconst 1, 1) := by decide +kernel
theorem d_PT_offerWaysOfD_85 : decode b_PT_offerWaysOfD 85 = .ok (.aaload, 1) := by decide +kernel
theorem d_PT_offerWaysOfD_86 : decode b_PT_offerWaysOfD 86 = .ok (.getfield 24, 3) := by decide +kernel
theorem d_PT_offerWaysOfD_89 : decode b_PT_offerWaysOfD 89 = .ok (.invokestatic 82, 3) := by decide +kernel
theorem d_PT_offerWaysOfD_92 : decode b_PT_offerWaysOfD 92 = .ok (.aload_n 1, 1) := by decide +kernel
theorem d_PT_offerWaysOfD_93 : decode b_PT_offerWaysOfD 93 = .ok (.aload_n 2, 1) := by decide +kernel
theorem d_PT_offerWaysOfD_94 : decode b_PT_offerWaysOfD 94 = .ok (.iconst 5, 1) := by decide +kernel
theorem d_PT_offerWaysOfD_95 : decode b_PT_offerWaysOfD 95 = .ok (.aload_n 0, 1) := by decide +kernel
theorem d_PT_offerWaysOfD_96 : decode b_PT_offerWaysOfD 96 = .ok (.getfield 11, 3) := by decide +kernel
theorem d_PT_offerWaysOfD_99 : decode b_PT_offerWaysOfD 99 = .ok (.iconst 0, 1) := by decide +kernel
theorem d_PT_offerWaysOfD_100 : decode b_PT_offerWaysOfD 100 = .ok (.aaload, 1) := by decide +kernel
theorem d_PT_offerWaysOfD_101 : decode b_PT_offerWaysOfD 101 = .ok (.getfield 24, 3) := by decide +kernel
theorem d_PT_offerWaysOfD_104 : decode b_PT_offerWaysOfD 104 = .ok (.aload_n 0, 1) := by decide +kernel
theorem d_PT_offerWaysOfD_105 : decode b_PT_offerWaysOfD 105 = .ok (.getfield 11, 3) := by decide +kernel
theorem d_PT_offerWaysOfD_108 : decode b_PT_offerWaysOfD 108 = .ok (.iconst 1, 1) := by decide +kernel
theorem d_PT_offerWaysOfD_109 : decode b_PT_offerWaysOfD 109 = .ok (.aaload, 1) := by decide +kernel
theorem d_PT_offerWaysOfD_110 : decode b_PT_offerWaysOfD 110 = .ok (.getfield 20, 3) := by decide +kernel
theorem d_PT_offerWaysOfD_113 : decode b_PT_offerWaysOfD 113 = .ok (.invokestatic 82, 3) := by decide +kernel
theorem d_PT_offerWaysOfD_116 : decode b_PT_offerWaysOfD 116 = .ok (.aload_n 1, 1) := by decide +kernel
theorem d_PT_offerWaysOfD_117 : decode b_PT_offerWaysOfD 117 = .ok (.aload_n 2, 1) := by decide +kernel
theorem d_PT_offerWaysOfD_118 : decode b_PT_offerWaysOfD 118 = .ok (.iconst 5, 1) := by decide +kernel
theorem d_PT_offerWaysOfD_119 : decode b_PT_offerWaysOfD 119 = .ok (.aload_n 0, 1) := by decide +kernel
theorem d_PT_offerWaysOfD_120 : decode b_PT_offerWaysOfD 120 = .ok (.getfield 11, 3) := by decide +kernel
theorem d_PT_offerWaysOfD_123 : decode b_PT_offerWaysOfD 123 = .ok (.iconst 0, 1) := by decide +kernel
theorem d_PT_offerWaysOfD_124 : decode b_PT_offerWaysOfD 124 = .ok (.aaload, 1) := by decide +kernel
theorem d_PT_offerWaysOfD_125 : decode b_PT_offerWaysOfD 125 = .ok (.getfield 20, 3) := by decide +kernel
theorem d_PT_offerWaysOfD_128 : decode b_PT_offerWaysOfD 128 = .ok (.aload_n 0, 1) := by decide +kernel
theorem d_PT_offerWaysOfD_129 : decode b_PT_offerWaysOfD 129 = .ok (.getfield 11, 3) := by decide +kernel
theorem d_PT_offerWaysOfD_132 : decode b_PT_offerWaysOfD 132 = .ok (.iconst 1, 1) := by decide +kernel
theorem d_PT_offerWaysOfD_133 : decode b_PT_offerWaysOfD 133 = .ok (.aaload, 1) := by decide +kernel
theorem d_PT_offerWaysOfD_134 : decode b_PT_offerWaysOfD 134 = .ok (.getfield 24, 3) := by decide +kernel
theorem d_PT_offerWaysOfD_137 : decode b_PT_offerWaysOfD 137 = .ok (.invokestatic 82, 3) := by decide +kernel
theorem d_PT_offerWaysOfD_140 : decode b_PT_offerWaysOfD 140 = .ok (.return_, 1) := by decide +kernel
theorem lk_PT_89 : ab_lk "PolicyForge$Part" 89 y_PT_offerAside b_PT_offerAside 4 none 2 2 := ⟨⟨rfl, T_PT, 8, rfl⟩, List.forall_mem_cons.mpr ⟨(ab_in 659 (by decide +kernel) (by decide +kernel)), List.forall_mem_cons.mpr ⟨(ab_in 661 (by decide +kernel) (by decide +kernel)), List.forall_mem_cons.mpr ⟨(ab_in 19 (by decide +kernel) (by decide +kernel)), List.forall_mem_cons.mpr ⟨(ab_in 94 (by decide +kernel) (by decide +kernel)), List.forall_mem_cons.mpr ⟨(ab_in 662 (by decide +kernel) (by decide +kernel)), fun _ h => absurd h List.not_mem_nil⟩⟩⟩⟩⟩, ⟨by decide +kernel, by decide +kernel, by decide +kernel⟩, by decide⟩
set_option maxRecDepth 100000 in
set_option maxHeartbeats 1000000 in
theorem s_PT_offerWaysOfD (u : ab_S) (p1 f : Nat) (h : CI u) (hp : p1 < 20) (hf : f < 60) : ab_C false l D ca y_PT_offerWaysOfD b_PT_offerWaysOfD 3 none 5 ab_nQ u [ab_O 2 p1, ab_O 3 f, ab_O 3 60] (fun u' v => cP [3, 9] u u' ∧ v = none) := by
  refine ab_C.of (by decide) (Nat.le_of_ble_eq_true rfl) ?_
  intro p e s m args below meth c ad X hZ hr0 hlk
  have P0 : cP [3, 9] u u := cQ.rf h
  refine ab_aload_n X 0 d_PT_offerWaysOfD_0 rfl rfl ?_
  refine ab_gI X fl_PT_30 d_PT_offerWaysOfD_1 (by first | assumption | decide | (show _ < 124; omega) | (show _ < 61; omega) | (show _ < 20; omega)) (rfl) ?_
  refine ab_iconst (v := 1) X d_PT_offerWaysOfD_4 (by decide) ?_
  refine ab_icmp_ne X 34 d_PT_offerWaysOfD_5 rfl (fun h5 => ?_) (fun h5 => ?_)
  ·
    refine ab_aload_n X 0 d_PT_offerWaysOfD_34 rfl rfl ?_
    refine ab_gI X fl_PT_30 d_PT_offerWaysOfD_35 (by first | assumption | decide | (show _ < 124; omega) | (show _ < 61; omega) | (show _ < 20; omega)) (rfl) ?_
    refine ab_callSN (as := [ab_I _]) X (fun h => by cases h) (t_PF_isLeaf u _ h) ls_PT_44 d_PT_offerWaysOfD_38 rfl rfl ⟨by first | exact Nat.le_of_ble_eq_true rfl | (simp only [ab_rm]; omega), by first | exact Nat.le_of_ble_eq_true rfl | (simp only [ab_rm]; omega)⟩ ⟨by first | exact Nat.le_of_ble_eq_true rfl | (simp only [ab_rm]; omega), by first | exact Nat.le_of_ble_eq_true rfl | (simp only [ab_rm]; omega)⟩ (Nat.le_of_ble_eq_true rfl) (fun u38 r38 h38 => ?_)
    obtain ⟨e38, b38, hb38, rfl⟩ := h38
    subst u38
    refine ab_if_ne X 50 d_PT_offerWaysOfD_41 rfl (fun h41 => ?_) (fun h41 => ?_)
    ·
      refine ab_aload_n X 0 d_PT_offerWaysOfD_50 rfl rfl ?_
      refine ab_gI X fl_PT_30 d_PT_offerWaysOfD_51 (by first | assumption | decide | (show _ < 124; omega) | (show _ < 61; omega) | (show _ < 20; omega)) (rfl) ?_
      refine ab_bipush (v := 7) X d_PT_offerWaysOfD_54 (by decide) ?_
      refine ab_icmp_ne X 140 d_PT_offerWaysOfD_56 rfl (fun h56 => ?_) (fun h56 => ?_)
      ·
        exact ab_retv X hr0 hlk d_PT_offerWaysOfD_140 ⟨P0, rfl⟩
      ·
        refine ab_aload_n X 0 d_PT_offerWaysOfD_59 rfl rfl ?_
        refine ab_gI X fl_PT_37 d_PT_offerWaysOfD_60 (by first | assumption | decide | (show _ < 124; omega) | (show _ < 61; omega) | (show _ < 20; omega)) (P0.ii (by decide) rfl) ?_
        refine ab_iconst (v := 2) X d_PT_offerWaysOfD_63 (by decide) ?_
        refine ab_icmp_ne X 140 d_PT_offerWaysOfD_64 rfl (fun h64 => ?_) (fun h64 => ?_)
        ·
          exact ab_retv X hr0 hlk d_PT_offerWaysOfD_140 ⟨P0, rfl⟩
        ·
          obtain ⟨a, b, ha, hb, ea, eb⟩ := ci_two h hp h64
          refine ab_aload_n X 1 d_PT_offerWaysOfD_67 rfl rfl ?_
          refine ab_aload_n X 2 d_PT_offerWaysOfD_68 rfl rfl ?_
          refine ab_bipush (v := 7) X d_PT_offerWaysOfD_69 (by decide) ?_
          refine ab_aload_n X 0 d_PT_offerWaysOfD_71 rfl rfl ?_
          refine ab_gR X fl_PT_11 d_PT_offerWaysOfD_72 (by first | assumption | decide | (show _ < 124; omega) | (show _ < 61; omega) | (show _ < 20; omega)) (P0.1.pt0 (by first | assumption | decide | omega)) ?_
          refine ab_iconst (v := 0) X d_PT_offerWaysOfD_75 (by decide) ?_
          refine ab_aalv X (0) ⟨rfl, _, fun _ => rfl⟩ d_PT_offerWaysOfD_76 (by first | assumption | decide | (show _ < 124; omega) | (show _ < 61; omega) | (show _ < 20; omega)) (rfl) (show 0 < 4 by decide) (ab_ln_lt _ _) (P0.rr (by decide) ea) ?_
          refine ab_gR X fl_PT_24 d_PT_offerWaysOfD_77 (by first | assumption | decide | (show _ < 124; omega) | (show _ < 61; omega) | (show _ < 20; omega)) (P0.1.pt2 (by first | assumption | decide | omega)) ?_
          refine ab_aload_n X 0 d_PT_offerWaysOfD_80 rfl rfl ?_
          refine ab_gR X fl_PT_11 d_PT_offerWaysOfD_81 (by first | assumption | decide | (show _ < 124; omega) | (show _ < 61; omega) | (show _ < 20; omega)) (P0.1.pt0 (by first | assumption | decide | omega)) ?_
          refine ab_iconst (v := 1) X d_PT_offerWaysOfD_84 (by decide) ?_
          refine ab_aalv X (1) ⟨rfl, _, fun _ => rfl⟩ d_PT_offerWaysOfD_85 (by first | assumption | decide | (show _ < 124; omega) | (show _ < 61; omega) | (show _ < 20; omega)) (rfl) (show 1 < 4 by decide) (ab_ln_lt _ _) (P0.rr (by decide) eb) ?_
          refine ab_gR X fl_PT_24 d_PT_offerWaysOfD_86 (by first | assumption | decide | (show _ < 124; omega) | (show _ < 61; omega) | (show _ < 20; omega)) (P0.1.pt2 (by first | assumption | decide | omega)) ?_
          refine ab_callS (as := [ab_O 3 f, ab_O 3 60, ab_I 7, ab_O 3 (3 * a + 1), ab_O 3 (3 * b + 1)]) X (fun h => by cases h) (s_PT_offerTwo u f (3 * a + 1) (3 * b + 1) 7 P0.1 (by omega) (by omega) (by omega)) ls_PT_82 d_PT_offerWaysOfD_89 rfl rfl ⟨by first | exact Nat.le_of_ble_eq_true rfl | (simp only [ab_rm]; omega), by first | exact Nat.le_of_ble_eq_true rfl | (simp only [ab_rm]; omega)⟩ ⟨by first | exact Nat.le_of_ble_eq_true rfl | (simp only [ab_rm]; omega), by first | exact Nat.le_of_ble_eq_true rfl | (simp only [ab_rm]; omega)⟩ (Nat.le_of_ble_eq_true rfl) (fun u89 r89 h89 => ?_)
          obtain ⟨q89, rfl⟩ := h89
          have P89 := P0.trans q89 (by decide)
          refine ab_aload_n X 1 d_PT_offerWaysOfD_92 rfl rfl ?_
          refine ab_aload_n X 2 d_PT_offerWaysOfD_93 rfl rfl ?_
          refine ab_iconst (v := 5) X d_PT_offerWaysOfD_94 (by decide) ?_
          refine ab_aload_n X 0 d_PT_offerWaysOfD_95 rfl rfl ?_
          refine ab_gR X fl_PT_11 d_PT_offerWaysOfD_96 (by first | assumption | decide | (show _ < 124; omega) | (show _ < 61; omega) | (show _ < 20; omega)) (P89.1.pt0 (by first | assumption | decide | omega)) ?_
          refine ab_iconst (v := 0) X d_PT_offerWaysOfD_99 (by decide) ?_
          refine ab_aalv X (0) ⟨rfl, _, fun _ => rfl⟩ d_PT_offerWaysOfD_100 (by first | assumption | decide | (show _ < 124; omega) | (show _ < 61; omega) | (show _ < 20; omega)) (rfl) (show 0 < 4 by decide) (ab_ln_lt _ _) (P89.rr (by decide) ea) ?_
          refine ab_gR X fl_PT_24 d_PT_offerWaysOfD_101 (by first | assumption | decide | (show _ < 124; omega) | (show _ < 61; omega) | (show _ < 20; omega)) (P89.1.pt2 (by first | assumption | decide | omega)) ?_
          refine ab_aload_n X 0 d_PT_offerWaysOfD_104 rfl rfl ?_
          refine ab_gR X fl_PT_11 d_PT_offerWaysOfD_105 (by first | assumption | decide | (show _ < 124; omega) | (show _ < 61; omega) | (show _ < 20; omega)) (P89.1.pt0 (by first | assumption | decide | omega)) ?_
          refine ab_iconst (v := 1) X d_PT_offerWaysOfD_108 (by decide) ?_
          refine ab_aalv X (1) ⟨rfl, _, fun _ => rfl⟩ d_PT_offerWaysOfD_109 (by first | assumption | decide | (show _ < 124; omega) | (show _ < 61; omega) | (show _ < 20; omega)) (rfl) (show 1 < 4 by decide) (ab_ln_lt _ _) (P89.rr (by decide) eb) ?_
          refine ab_gR X fl_PT_20 d_PT_offerWaysOfD_110 (by first | assumption | decide | (show _ < 124; omega) | (show _ < 61; omega) | (show _ < 20; omega)) (P89.1.pt1 (by first | assumption | decide | omega)) ?_
          refine ab_callS (as := [ab_O 3 f, ab_O 3 60, ab_I 5, ab_O 3 (3 * a + 1), ab_O 3 (3 * b)]) X (fun h => by cases h) (s_PT_offerTwo u89 f (3 * a + 1) (3 * b) 5 P89.1 (by omega) (by omega) (by omega)) ls_PT_82 d_PT_offerWaysOfD_113 rfl rfl ⟨by first | exact Nat.le_of_ble_eq_true rfl | (simp only [ab_rm]; omega), by first | exact Nat.le_of_ble_eq_true rfl | (simp only [ab_rm]; omega)⟩ ⟨by first | exact Nat.le_of_ble_eq_true rfl | (simp only [ab_rm]; omega), by first | exact Nat.le_of_ble_eq_true rfl | (simp only [ab_rm]; omega)⟩ (Nat.le_of_ble_eq_true rfl) (fun u113 r113 h113 => ?_)
          obtain ⟨q113, rfl⟩ := h113
          have P113 := P89.trans q113 (by decide)
          refine ab_aload_n X 1 d_PT_offerWaysOfD_116 rfl rfl ?_
          refine ab_aload_n X 2 d_PT_offerWaysOfD_117 rfl rfl ?_
          refine ab_iconst (v := 5) X d_PT_offerWaysOfD_118 (by decide) ?_
          refine ab_aload_n X 0 d_PT_offerWaysOfD_119 rfl rfl ?_
          refine ab_gR X fl_PT_11 d_PT_offerWaysOfD_120 (by first | assumption | decide | (show _ < 124; omega) | (show _ < 61; omega) | (show _ < 20; omega)) (P113.1.pt0 (by first | assumption | decide | omega)) ?_
          refine ab_iconst (v := 0) X d_PT_offerWaysOfD_123 (by decide) ?_
          refine ab_aalv X (0) ⟨rfl, _, fun _ => rfl⟩ d_PT_offerWaysOfD_124 (by first | assumption | decide | (show _ < 124; omega) | (show _ < 61; omega) | (show _ < 20; omega)) (rfl) (show 0 < 4 by decide) (ab_ln_lt _ _) (P113.rr (by decide) ea) ?_
          refine ab_gR X fl_PT_20 d_PT_offerWaysOfD_125 (by first | assumption | decide | (show _ < 124; omega) | (show _ < 61; omega) | (show _ < 20; omega)) (P113.1.pt1 (by first | assumption | decide | omega)) ?_
          refine ab_aload_n X 0 d_PT_offerWaysOfD_128 rfl rfl ?_
          refine ab_gR X fl_PT_11 d_PT_offerWaysOfD_129 (by first | assumption | decide | (show _ < 124; omega) | (show _ < 61; omega) | (show _ < 20; omega)) (P113.1.pt0 (by first | assumption | decide | omega)) ?_
          refine ab_iconst (v := 1) X d_PT_offerWaysOfD_132 (by decide) ?_
          refine ab_aalv X (1) ⟨rfl, _, fun _ => rfl⟩ d_PT_offerWaysOfD_133 (by first | assumption | decide | (show _ < 124; omega) | (show _ < 61; omega) | (show _ < 20; omega)) (rfl) (show 1 < 4 by decide) (ab_ln_lt _ _) (P113.rr (by decide) eb) ?_
          refine ab_gR X fl_PT_24 d_PT_offerWaysOfD_134 (by first | assumption | decide | (show _ < 124; omega) | (show _ < 61; omega) | (show _ < 20; omega)) (P113.1.pt2 (by first | assumption | decide | omega)) ?_
          refine ab_callS (as := [ab_O 3 f, ab_O 3 60, ab_I 5, ab_O 3 (3 * a), ab_O 3 (3 * b + 1)]) X (fun h => by cases h) (s_PT_offerTwo u113 f (3 * a) (3 * b + 1) 5 P113.1 (by omega) (by omega) (by omega)) ls_PT_82 d_PT_offerWaysOfD_137 rfl rfl ⟨by first | exact Nat.le_of_ble_eq_true rfl | (simp only [ab_rm]; omega), by first | exact Nat.le_of_ble_eq_true rfl | (simp only [ab_rm]; omega)⟩ ⟨by first | exact Nat.le_of_ble_eq_true rfl | (simp only [ab_rm]; omega), by first | exact Nat.le_of_ble_eq_true rfl | (simp only [ab_rm]; omega)⟩ (Nat.le_of_ble_eq_true rfl) (fun u137 r137 h137 => ?_)
          obtain ⟨q137, rfl⟩ := h137
          have P137 := P113.trans q137 (by decide)
          exact ab_retv X hr0 hlk d_PT_offerWaysOfD_140 ⟨P137, rfl⟩
    ·
      refine ab_aload_n X 0 d_PT_offerWaysOfD_44 rfl rfl ?_
      refine ab_aload_n X 1 d_PT_offerWaysOfD_45 rfl rfl ?_
      refine ab_aload_n X 2 d_PT_offerWaysOfD_46 rfl rfl ?_
      refine ab_callV (as := [ab_O 3 f, ab_O 3 60]) X (fun h => by cases h) (s_PT_offerAside u p1 f h hp hf) lk_PT_89 d_PT_offerWaysOfD_47 rfl rfl (by first | assumption | decide | (show _ < 124; omega) | (show _ < 61; omega) | (show _ < 20; omega)) ⟨by first | exact Nat.le_of_ble_eq_true rfl | (simp only [ab_rm]; omega), by first | exact Nat.le_of_ble_eq_true rfl | (simp only [ab_rm]; omega)⟩ ⟨by first | exact Nat.le_of_ble_eq_true rfl | (simp only [ab_rm]; omega), by first | exact Nat.le_of_ble_eq_true rfl | (simp only [ab_rm]; omega)⟩ (Nat.le_of_ble_eq_true rfl) (fun u47 r47 h47 => ?_)
      obtain ⟨q47, rfl⟩ := h47
      have P47 := P0.trans q47 (by decide)
      refine ab_aload_n X 0 d_PT_offerWaysOfD_50 rfl rfl ?_
      refine ab_gI X fl_PT_30 d_PT_offerWaysOfD_51 (by first | assumption | decide | (show _ < 124; omega) | (show _ < 61; omega) | (show _ < 20; omega)) (rfl) ?_
      refine ab_bipush (v := 7) X d_PT_offerWaysOfD_54 (by decide) ?_
      refine ab_icmp_ne X 140 d_PT_offerWaysOfD_56 rfl (fun h56 => ?_) (fun h56 => ?_)
      ·
        exact ab_retv X hr0 hlk d_PT_offerWaysOfD_140 ⟨P47, rfl⟩
      ·
        refine ab_aload_n X 0 d_PT_offerWaysOfD_59 rfl rfl ?_
        refine ab_gI X fl_PT_37 d_PT_offerWaysOfD_60 (by first | assumption | decide | (show _ < 124; omega) | (show _ < 61; omega) | (show _ < 20; omega)) (P47.ii (by decide) rfl) ?_
        refine ab_iconst (v := 2) X d_PT_offerWaysOfD_63 (by decide) ?_
        refine ab_icmp_ne X 140 d_PT_offerWaysOfD_64 rfl (fun h64 => ?_) (fun h64 => ?_)
        ·
          exact ab_retv X hr0 hlk d_PT_offerWaysOfD_140 ⟨P47, rfl⟩
        ·
          obtain ⟨a, b, ha, hb, ea, eb⟩ := ci_two h hp h64
          refine ab_aload_n X 1 d_PT_offerWaysOfD_67 rfl rfl ?_
          refine ab_aload_n X 2 d_PT_offerWaysOfD_68 rfl rfl ?_
          refine ab_bipush (v := 7) X d_PT_offerWaysOfD_69 (by decide) ?_
          refine ab_aload_n X 0 d_PT_offerWaysOfD_71 rfl rfl ?_
          refine ab_gR X fl_PT_11 d_PT_offerWaysOfD_72 (by first | assumption | decide | (show _ < 124; omega) | (show _ < 61; omega) | (show _ < 20; omega)) (P47.1.pt0 (by first | assumption | decide | omega)) ?_
          refine ab_iconst (v := 0) X d_PT_offerWaysOfD_75 (by decide) ?_
          refine ab_aalv X (0) ⟨rfl, _, fun _ => rfl⟩ d_PT_offerWaysOfD_76 (by first | assumption | decide | (show _ < 124; omega) | (show _ < 61; omega) | (show _ < 20; omega)) (rfl) (show 0 < 4 by decide) (ab_ln_lt _ _) (P47.rr (by decide) ea) ?_
          refine ab_gR X fl_PT_24 d_PT_offerWaysOfD_77 (by first | assumption | decide | (show _ < 124; omega) | (show _ < 61; omega) | (show _ < 20; omega)) (P47.1.pt2 (by first | assumption | decide | omega)) ?_
          refine ab_aload_n X 0 d_PT_offerWaysOfD_80 rfl rfl ?_
          refine ab_gR X fl_PT_11 d_PT_offerWaysOfD_81 (by first | assumption | decide | (show _ < 124; omega) | (show _ < 61; omega) | (show _ < 20; omega)) (P47.1.pt0 (by first | assumption | decide | omega)) ?_
          refine ab_iconst (v := 1) X d_PT_offerWaysOfD_84 (by decide) ?_
          refine ab_aalv X (1) ⟨rfl, _, fun _ => rfl⟩ d_PT_offerWaysOfD_85 (by first | assumption | decide | (show _ < 124; omega) | (show _ < 61; omega) | (show _ < 20; omega)) (rfl) (show 1 < 4 by decide) (ab_ln_lt _ _) (P47.rr (by decide) eb) ?_
          refine ab_gR X fl_PT_24 d_PT_offerWaysOfD_86 (by first | assumption | decide | (show _ < 124; omega) | (show _ < 61; omega) | (show _ < 20; omega)) (P47.1.pt2 (by first | assumption | decide | omega)) ?_
          refine ab_callS (as := [ab_O 3 f, ab_O 3 60, ab_I 7, ab_O 3 (3 * a + 1), ab_O 3 (3 * b + 1)]) X (fun h => by cases h) (s_PT_offerTwo u47 f (3 * a + 1) (3 * b + 1) 7 P47.1 (by omega) (by omega) (by omega)) ls_PT_82 d_PT_offerWaysOfD_89 rfl rfl ⟨by first | exact Nat.le_of_ble_eq_true rfl | (simp only [ab_rm]; omega), by first | exact Nat.le_of_ble_eq_true rfl | (simp only [ab_rm]; omega)⟩ ⟨by first | exact Nat.le_of_ble_eq_true rfl | (simp only [ab_rm]; omega), by first | exact Nat.le_of_ble_eq_true rfl | (simp only [ab_rm]; omega)⟩ (Nat.le_of_ble_eq_true rfl) (fun u89 r89 h89 => ?_)
          obtain ⟨q89, rfl⟩ := h89
          have P89 := P47.trans q89 (by decide)
          refine ab_aload_n X 1 d_PT_offerWaysOfD_92 rfl rfl ?_
          refine ab_aload_n X 2 d_PT_offerWaysOfD_93 rfl rfl ?_
          refine ab_iconst (v := 5) X d_PT_offerWaysOfD_94 (by decide) ?_
          refine ab_aload_n X 0 d_PT_offerWaysOfD_95 rfl rfl ?_
          refine ab_gR X fl_PT_11 d_PT_offerWaysOfD_96 (by first | assumption | decide | (show _ < 124; omega) | (show _ < 61; omega) | (show _ < 20; omega)) (P89.1.pt0 (by first | assumption | decide | omega)) ?_
          refine ab_iconst (v := 0) X d_PT_offerWaysOfD_99 (by decide) ?_
          refine ab_aalv X (0) ⟨rfl, _, fun _ => rfl⟩ d_PT_offerWaysOfD_100 (by first | assumption | decide | (show _ < 124; omega) | (show _ < 61; omega) | (show _ < 20; omega)) (rfl) (show 0 < 4 by decide) (ab_ln_lt _ _) (P89.rr (by decide) ea) ?_
          refine ab_gR X fl_PT_24 d_PT_offerWaysOfD_101 (by first | assumption | decide | (show _ < 124; omega) | (show _ < 61; omega) | (show _ < 20; omega)) (P89.1.pt2 (by first | assumption | decide | omega)) ?_
          refine ab_aload_n X 0 d_PT_offerWaysOfD_104 rfl rfl ?_
          refine ab_gR X fl_PT_11 d_PT_offerWaysOfD_105 (by first | assumption | decide | (show _ < 124; omega) | (show _ < 61; omega) | (show _ < 20; omega)) (P89.1.pt0 (by first | assumption | decide | omega)) ?_
          refine ab_iconst (v := 1) X d_PT_offerWaysOfD_108 (by decide) ?_
          refine ab_aalv X (1) ⟨rfl, _, fun _ => rfl⟩ d_PT_offerWaysOfD_109 (by first | assumption | decide | (show _ < 124; omega) | (show _ < 61; omega) | (show _ < 20; omega)) (rfl) (show 1 < 4 by decide) (ab_ln_lt _ _) (P89.rr (by decide) eb) ?_
          refine ab_gR X fl_PT_20 d_PT_offerWaysOfD_110 (by first | assumption | decide | (show _ < 124; omega) | (show _ < 61; omega) | (show _ < 20; omega)) (P89.1.pt1 (by first | assumption | decide | omega)) ?_
          refine ab_callS (as := [ab_O 3 f, ab_O 3 60, ab_I 5, ab_O 3 (3 * a + 1), ab_O 3 (3 * b)]) X (fun h => by cases h) (s_PT_offerTwo u89 f (3 * a + 1) (3 * b) 5 P89.1 (by omega) (by omega) (by omega)) ls_PT_82 d_PT_offerWaysOfD_113 rfl rfl ⟨by first | exact Nat.le_of_ble_eq_true rfl | (simp only [ab_rm]; omega), by first | exact Nat.le_of_ble_eq_true rfl | (simp only [ab_rm]; omega)⟩ ⟨by first | exact Nat.le_of_ble_eq_true rfl | (simp only [ab_rm]; omega), by first | exact Nat.le_of_ble_eq_true rfl | (simp only [ab_rm]; omega)⟩ (Nat.le_of_ble_eq_true rfl) (fun u113 r113 h113 => ?_)
          obtain ⟨q113, rfl⟩ := h113
          have P113 := P89.trans q113 (by decide)
          refine ab_aload_n X 1 d_PT_offerWaysOfD_116 rfl rfl ?_
          refine ab_aload_n X 2 d_PT_offerWaysOfD_117 rfl rfl ?_
          refine ab_iconst (v := 5) X d_PT_offerWaysOfD_118 (by decide) ?_
          refine ab_aload_n X 0 d_PT_offerWaysOfD_119 rfl rfl ?_
          refine ab_gR X fl_PT_11 d_PT_offerWaysOfD_120 (by first | assumption | decide | (show _ < 124; omega) | (show _ < 61; omega) | (show _ < 20; omega)) (P113.1.pt0 (by first | assumption | decide | omega)) ?_
          refine ab_iconst (v := 0) X d_PT_offerWaysOfD_123 (by decide) ?_
          refine ab_aalv X (0) ⟨rfl, _, fun _ => rfl⟩ d_PT_offerWaysOfD_124 (by first | assumption | decide | (show _ < 124; omega) | (show _ < 61; omega) | (show _ < 20; omega)) (rfl) (show 0 < 4 by decide) (ab_ln_lt _ _) (P113.rr (by decide) ea) ?_
          refine ab_gR X fl_PT_20 d_PT_offerWaysOfD_125 (by first | assumption | decide | (show _ < 124; omega) | (show _ < 61; omega) | (show _ < 20; omega)) (P113.1.pt1 (by first | assumption | decide | omega)) ?_
          refine ab_aload_n X 0 d_PT_offerWaysOfD_128 rfl rfl ?_
          refine ab_gR X fl_PT_11 d_PT_offerWaysOfD_129 (by first | assumption | decide | (show _ < 124; omega) | (show _ < 61; omega) | (show _ < 20; omega)) (P113.1.pt0 (by first | assumption | decide | omega)) ?_
          refine ab_iconst (v := 1) X d_PT_offerWaysOfD_132 (by decide) ?_
          refine ab_aalv X (1) ⟨rfl, _, fun _ => rfl⟩ d_PT_offerWaysOfD_133 (by first | assumption | decide | (show _ < 124; omega) | (show _ < 61; omega) | (show _ < 20; omega)) (rfl) (show 1 < 4 by decide) (ab_ln_lt _ _) (P113.rr (by decide) eb) ?_
          refine ab_gR X fl_PT_24 d_PT_offerWaysOfD_134 (by first | assumption | decide | (show _ < 124; omega) | (show _ < 61; omega) | (show _ < 20; omega)) (P113.1.pt2 (by first | assumption | decide | omega)) ?_
          refine ab_callS (as := [ab_O 3 f, ab_O 3 60, ab_I 5, ab_O 3 (3 * a), ab_O 3 (3 * b + 1)]) X (fun h => by cases h) (s_PT_offerTwo u113 f (3 * a) (3 * b + 1) 5 P113.1 (by omega) (by omega) (by omega)) ls_PT_82 d_PT_offerWaysOfD_137 rfl rfl ⟨by first | exact Nat.le_of_ble_eq_true rfl | (simp only [ab_rm]; omega), by first | exact Nat.le_of_ble_eq_true rfl | (simp only [ab_rm]; omega)⟩ ⟨by first | exact Nat.le_of_ble_eq_true rfl | (simp only [ab_rm]; omega), by first | exact Nat.le_of_ble_eq_true rfl | (simp only [ab_rm]; omega)⟩ (Nat.le_of_ble_eq_true rfl) (fun u137 r137 h137 => ?_)
          obtain ⟨q137, rfl⟩ := h137
          have P137 := P113.trans q137 (by decide)
          exact ab_retv X hr0 hlk d_PT_offerWaysOfD_140 ⟨P137, rfl⟩
  ·
    refine ab_aload_n X 1 d_PT_offerWaysOfD_8 rfl rfl ?_
    refine ab_aload_n X 2 d_PT_offerWaysOfD_9 rfl rfl ?_
    refine ab_iconst (v := 1) X d_PT_offerWaysOfD_10 (by decide) ?_
    refine ab_sipush (v := 1000) X d_PT_offerWaysOfD_11 (by decide) ?_
    refine ab_aload_n X 0 d_PT_offerWaysOfD_14 rfl rfl ?_
    refine ab_gI X fl_PT_30 d_PT_offerWaysOfD_15 (by first | assumption | decide | (show _ < 124; omega) | (show _ < 61; omega) | (show _ < 20; omega)) (rfl) ?_
    refine ab_imul X d_PT_offerWaysOfD_18 ?_
    refine ab_aload_n X 0 d_PT_offerWaysOfD_19 rfl rfl ?_
    refine ab_gI X fl_PT_34 d_PT_offerWaysOfD_20 (by first | assumption | decide | (show _ < 124; omega) | (show _ < 61; omega) | (show _ < 20; omega)) (rfl) ?_
    refine ab_iadd X d_PT_offerWaysOfD_23 ?_
    refine ab_iconst (v := 0) X d_PT_offerWaysOfD_24 (by decide) ?_
    refine ab_callV (as := [ab_I 1, ab_I _, ab_I 0]) X (fun h => by cases h) (s_FM_start u 60 1 _ 0 (P0.ex 60).1 (by decide)) lk_PT_65 d_PT_offerWaysOfD_25 rfl rfl (by first | assumption | decide | (show _ < 124; omega) | (show _ < 61; omega) | (show _ < 20; omega)) ⟨by first | exact Nat.le_of_ble_eq_true rfl | (simp only [ab_rm]; omega), by first | exact Nat.le_of_ble_eq_true rfl | (simp only [ab_rm]; omega)⟩ ⟨by first | exact Nat.le_of_ble_eq_true rfl | (simp only [ab_rm]; omega), by first | exact Nat.le_of_ble_eq_true rfl | (simp only [ab_rm]; omega)⟩ (Nat.le_of_ble_eq_true rfl) (fun u25 r25 h25 => ?_)
    obtain ⟨⟨q25, a1, a2, a3⟩, rfl⟩ := h25
    have P25 := P0.trans q25 (by decide)
    have R28 := ci_done P25 a2 a3 (by decide) ci_cl1
    refine ab_callV (as := [ab_O 3 60]) X (fun h => by cases h) (s_FM_offer u25 f 60 R28.1 (by omega) (by decide) (by omega)) lk_PT_73 d_PT_offerWaysOfD_28 rfl rfl (by first | assumption | decide | (show _ < 124; omega) | (show _ < 61; omega) | (show _ < 20; omega)) ⟨by first | exact Nat.le_of_ble_eq_true rfl | (simp only [ab_rm]; omega), by first | exact Nat.le_of_ble_eq_true rfl | (simp only [ab_rm]; omega)⟩ ⟨by first | exact Nat.le_of_ble_eq_true rfl | (simp only [ab_rm]; omega), by first | exact Nat.le_of_ble_eq_true rfl | (simp only [ab_rm]; omega)⟩ (Nat.le_of_ble_eq_true rfl) (fun u28 r28 h28 => ?_)
    obtain ⟨q28, rfl⟩ := h28
    have P28 := P25.trans q28 (by decide)
    refine ab_goto X 50 d_PT_offerWaysOfD_31 rfl ?_
    refine ab_aload_n X 0 d_PT_offerWaysOfD_50 rfl rfl ?_
    refine ab_gI X fl_PT_30 d_PT_offerWaysOfD_51 (by first | assumption | decide | (show _ < 124; omega) | (show _ < 61; omega) | (show _ < 20; omega)) (rfl) ?_
    refine ab_bipush (v := 7) X d_PT_offerWaysOfD_54 (by decide) ?_
    refine ab_icmp_ne X 140 d_PT_offerWaysOfD_56 rfl (fun h56 => ?_) (fun h56 => ?_)
    ·
      exact ab_retv X hr0 hlk d_PT_offerWaysOfD_140 ⟨P28, rfl⟩
    ·
      refine ab_aload_n X 0 d_PT_offerWaysOfD_59 rfl rfl ?_
      refine ab_gI X fl_PT_37 d_PT_offerWaysOfD_60 (by first | assumption | decide | (show _ < 124; omega) | (show _ < 61; omega) | (show _ < 20; omega)) (P28.ii (by decide) rfl) ?_
      refine ab_iconst (v := 2) X d_PT_offerWaysOfD_63 (by decide) ?_
      refine ab_icmp_ne X 140 d_PT_offerWaysOfD_64 rfl (fun h64 => ?_) (fun h64 => ?_)
      ·
        exact ab_retv X hr0 hlk d_PT_offerWaysOfD_140 ⟨P28, rfl⟩
      ·
        obtain ⟨a, b, ha, hb, ea, eb⟩ := ci_two h hp h64
        refine ab_aload_n X 1 d_PT_offerWaysOfD_67 rfl rfl ?_
        refine ab_aload_n X 2 d_PT_offerWaysOfD_68 rfl rfl ?_
        refine ab_bipush (v := 7) X d_PT_offerWaysOfD_69 (by decide) ?_
        refine ab_aload_n X 0 d_PT_offerWaysOfD_71 rfl rfl ?_
        refine ab_gR X fl_PT_11 d_PT_offerWaysOfD_72 (by first | assumption | decide | (show _ < 124; omega) | (show _ < 61; omega) | (show _ < 20; omega)) (P28.1.pt0 (by first | assumption | decide | omega)) ?_
        refine ab_iconst (v := 0) X d_PT_offerWaysOfD_75 (by decide) ?_
        refine ab_aalv X (0) ⟨rfl, _, fun _ => rfl⟩ d_PT_offerWaysOfD_76 (by first | assumption | decide | (show _ < 124; omega) | (show _ < 61; omega) | (show _ < 20; omega)) (rfl) (show 0 < 4 by decide) (ab_ln_lt _ _) (P28.rr (by decide) ea) ?_
        refine ab_gR X fl_PT_24 d_PT_offerWaysOfD_77 (by first | assumption | decide | (show _ < 124; omega) | (show _ < 61; omega) | (show _ < 20; omega)) (P28.1.pt2 (by first | assumption | decide | omega)) ?_
        refine ab_aload_n X 0 d_PT_offerWaysOfD_80 rfl rfl ?_
        refine ab_gR X fl_PT_11 d_PT_offerWaysOfD_81 (by first | assumption | decide | (show _ < 124; omega) | (show _ < 61; omega) | (show _ < 20; omega)) (P28.1.pt0 (by first | assumption | decide | omega)) ?_
        refine ab_iconst (v := 1) X d_PT_offerWaysOfD_84 (by decide) ?_
        refine ab_aalv X (1) ⟨rfl, _, fun _ => rfl⟩ d_PT_offerWaysOfD_85 (by first | assumption | decide | (show _ < 124; omega) | (show _ < 61; omega) | (show _ < 20; omega)) (rfl) (show 1 < 4 by decide) (ab_ln_lt _ _) (P28.rr (by decide) eb) ?_
        refine ab_gR X fl_PT_24 d_PT_offerWaysOfD_86 (by first | assumption | decide | (show _ < 124; omega) | (show _ < 61; omega) | (show _ < 20; omega)) (P28.1.pt2 (by first | assumption | decide | omega)) ?_
        refine ab_callS (as := [ab_O 3 f, ab_O 3 60, ab_I 7, ab_O 3 (3 * a + 1), ab_O 3 (3 * b + 1)]) X (fun h => by cases h) (s_PT_offerTwo u28 f (3 * a + 1) (3 * b + 1) 7 P28.1 (by omega) (by omega) (by omega)) ls_PT_82 d_PT_offerWaysOfD_89 rfl rfl ⟨by first | exact Nat.le_of_ble_eq_true rfl | (simp only [ab_rm]; omega), by first | exact Nat.le_of_ble_eq_true rfl | (simp only [ab_rm]; omega)⟩ ⟨by first | exact Nat.le_of_ble_eq_true rfl | (simp only [ab_rm]; omega), by first | exact Nat.le_of_ble_eq_true rfl | (simp only [ab_rm]; omega)⟩ (Nat.le_of_ble_eq_true rfl) (fun u89 r89 h89 => ?_)
        obtain ⟨q89, rfl⟩ := h89
        have P89 := P28.trans q89 (by decide)
        refine ab_aload_n X 1 d_PT_offerWaysOfD_92 rfl rfl ?_
        refine ab_aload_n X 2 d_PT_offerWaysOfD_93 rfl rfl ?_
        refine ab_iconst (v := 5) X d_PT_offerWaysOfD_94 (by decide) ?_
        refine ab_aload_n X 0 d_PT_offerWaysOfD_95 rfl rfl ?_
        refine ab_gR X fl_PT_11 d_PT_offerWaysOfD_96 (by first | assumption | decide | (show _ < 124; omega) | (show _ < 61; omega) | (show _ < 20; omega)) (P89.1.pt0 (by first | assumption | decide | omega)) ?_
        refine ab_iconst (v := 0) X d_PT_offerWaysOfD_99 (by decide) ?_
        refine ab_aalv X (0) ⟨rfl, _, fun _ => rfl⟩ d_PT_offerWaysOfD_100 (by first | assumption | decide | (show _ < 124; omega) | (show _ < 61; omega) | (show _ < 20; omega)) (rfl) (show 0 < 4 by decide) (ab_ln_lt _ _) (P89.rr (by decide) ea) ?_
        refine ab_gR X fl_PT_24 d_PT_offerWaysOfD_101 (by first | assumption | decide | (show _ < 124; omega) | (show _ < 61; omega) | (show _ < 20; omega)) (P89.1.pt2 (by first | assumption | decide | omega)) ?_
        refine ab_aload_n X 0 d_PT_offerWaysOfD_104 rfl rfl ?_
        refine ab_gR X fl_PT_11 d_PT_offerWaysOfD_105 (by first | assumption | decide | (show _ < 124; omega) | (show _ < 61; omega) | (show _ < 20; omega)) (P89.1.pt0 (by first | assumption | decide | omega)) ?_
        refine ab_iconst (v := 1) X d_PT_offerWaysOfD_108 (by decide) ?_
        refine ab_aalv X (1) ⟨rfl, _, fun _ => rfl⟩ d_PT_offerWaysOfD_109 (by first | assumption | decide | (show _ < 124; omega) | (show _ < 61; omega) | (show _ < 20; omega)) (rfl) (show 1 < 4 by decide) (ab_ln_lt _ _) (P89.rr (by decide) eb) ?_
        refine ab_gR X fl_PT_20 d_PT_offerWaysOfD_110 (by first | assumption | decide | (show _ < 124; omega) | (show _ < 61; omega) | (show _ < 20; omega)) (P89.1.pt1 (by first | assumption | decide | omega)) ?_
        refine ab_callS (as := [ab_O 3 f, ab_O 3 60, ab_I 5, ab_O 3 (3 * a + 1), ab_O 3 (3 * b)]) X (fun h => by cases h) (s_PT_offerTwo u89 f (3 * a + 1) (3 * b) 5 P89.1 (by omega) (by omega) (by omega)) ls_PT_82 d_PT_offerWaysOfD_113 rfl rfl ⟨by first | exact Nat.le_of_ble_eq_true rfl | (simp only [ab_rm]; omega), by first | exact Nat.le_of_ble_eq_true rfl | (simp only [ab_rm]; omega)⟩ ⟨by first | exact Nat.le_of_ble_eq_true rfl | (simp only [ab_rm]; omega), by first | exact Nat.le_of_ble_eq_true rfl | (simp only [ab_rm]; omega)⟩ (Nat.le_of_ble_eq_true rfl) (fun u113 r113 h113 => ?_)
        obtain ⟨q113, rfl⟩ := h113
        have P113 := P89.trans q113 (by decide)
        refine ab_aload_n X 1 d_PT_offerWaysOfD_116 rfl rfl ?_
        refine ab_aload_n X 2 d_PT_offerWaysOfD_117 rfl rfl ?_
        refine ab_iconst (v := 5) X d_PT_offerWaysOfD_118 (by decide) ?_
        refine ab_aload_n X 0 d_PT_offerWaysOfD_119 rfl rfl ?_
        refine ab_gR X fl_PT_11 d_PT_offerWaysOfD_120 (by first | assumption | decide | (show _ < 124; omega) | (show _ < 61; omega) | (show _ < 20; omega)) (P113.1.pt0 (by first | assumption | decide | omega)) ?_
        refine ab_iconst (v := 0) X d_PT_offerWaysOfD_123 (by decide) ?_
        refine ab_aalv X (0) ⟨rfl, _, fun _ => rfl⟩ d_PT_offerWaysOfD_124 (by first | assumption | decide | (show _ < 124; omega) | (show _ < 61; omega) | (show _ < 20; omega)) (rfl) (show 0 < 4 by decide) (ab_ln_lt _ _) (P113.rr (by decide) ea) ?_
        refine ab_gR X fl_PT_20 d_PT_offerWaysOfD_125 (by first | assumption | decide | (show _ < 124; omega) | (show _ < 61; omega) | (show _ < 20; omega)) (P113.1.pt1 (by first | assumption | decide | omega)) ?_
        refine ab_aload_n X 0 d_PT_offerWaysOfD_128 rfl rfl ?_
        refine ab_gR X fl_PT_11 d_PT_offerWaysOfD_129 (by first | assumption | decide | (show _ < 124; omega) | (show _ < 61; omega) | (show _ < 20; omega)) (P113.1.pt0 (by first | assumption | decide | omega)) ?_
        refine ab_iconst (v := 1) X d_PT_offerWaysOfD_132 (by decide) ?_
        refine ab_aalv X (1) ⟨rfl, _, fun _ => rfl⟩ d_PT_offerWaysOfD_133 (by first | assumption | decide | (show _ < 124; omega) | (show _ < 61; omega) | (show _ < 20; omega)) (rfl) (show 1 < 4 by decide) (ab_ln_lt _ _) (P113.rr (by decide) eb) ?_
        refine ab_gR X fl_PT_24 d_PT_offerWaysOfD_134 (by first | assumption | decide | (show _ < 124; omega) | (show _ < 61; omega) | (show _ < 20; omega)) (P113.1.pt2 (by first | assumption | decide | omega)) ?_
        refine ab_callS (as := [ab_O 3 f, ab_O 3 60, ab_I 5, ab_O 3 (3 * a), ab_O 3 (3 * b + 1)]) X (fun h => by cases h) (s_PT_offerTwo u113 f (3 * a) (3 * b + 1) 5 P113.1 (by omega) (by omega) (by omega)) ls_PT_82 d_PT_offerWaysOfD_137 rfl rfl ⟨by first | exact Nat.le_of_ble_eq_true rfl | (simp only [ab_rm]; omega), by first | exact Nat.le_of_ble_eq_true rfl | (simp only [ab_rm]; omega)⟩ ⟨by first | exact Nat.le_of_ble_eq_true rfl | (simp only [ab_rm]; omega), by first | exact Nat.le_of_ble_eq_true rfl | (simp only [ab_rm]; omega)⟩ (Nat.le_of_ble_eq_true rfl) (fun u137 r137 h137 => ?_)
        obtain ⟨q137, rfl⟩ := h137
        have P137 := P113.trans q137 (by decide)
        exact ab_retv X hr0 hlk d_PT_offerWaysOfD_140 ⟨P137, rfl⟩
abbrev b_PT_offerWaysOfV : ByteArray := prog_5_method_8_code
def y_PT_offerWaysOfV : MethodName := ⟨"PolicyForge$Part", "offerWaysOfV", "(LPolicyForge$Form;)V"⟩
theorem d_PT_offerWaysOfV_0 : decode b_PT_offerWaysOfV 0 = .ok (.aload_n 0, 1) := by decide +kernel
theorem d_PT_offerWaysOfV_1 : decode b_PT_offerWaysOfV 1 = .ok (.getfield 30, 3) := by decide +kernel
theorem d_PT_offerWaysOfV_4 : decode b_PT_offerWaysOfV 4 = .ok (.bipush 6, 2) := by decide +kernel
theorem d_PT_offerWaysOfV_6 : decode b_PT_offerWaysOfV 6 = .ok (.if_icmp .ne 41, 3) := by decide +kernel
theorem d_PT_offerWaysOfV_9 : decode b_PT_offerWaysOfV 9 = .ok (.aload_n 0, 1) := by decide +kernel
theorem d_PT_offerWaysOfV_10 : decode b_PT_offerWaysOfV 10 = .ok (.getfield 37, 3) := by decide +kernel
theorem d_PT_offerWaysOfV_13 : decode b_PT_offerWaysOfV 13 = .ok (.iconst 2, 1) := by decide +kernel
theorem d_PT_offerWaysOfV_14 : decode b_PT_offerWaysOfV 14 = .ok (.if_icmp .ne 33, 3) := by decide +kernel
theorem d_PT_offerWaysOfV_17 : decode b_PT_offerWaysOfV 17 = .ok (.aload_n 0, 1) := by decide +kernel
theorem d_PT_offerWaysOfV_18 : decode b_PT_offerWaysOfV 18 = .ok (.getfield 27, 3) := by decide +kernel
theorem d_PT_offerWaysOfV_21 : decode b_PT_offerWaysOfV 21 = .ok (.aload_n 1, 1) := by decide +kernel
theorem d_PT_offerWaysOfV_22 : decode b_PT_offerWaysOfV 22 = .ok (.iconst 2, 1) := by decide +kernel
theorem d_PT_offerWaysOfV_23 : decode b_PT_offerWaysOfV 23 = .ok (.aload_n 0, 1) := by decide +kernel
theorem d_PT_offerWaysOfV_24 : decode b_PT_offerWaysOfV 24 = .ok (.getfield 11, 3) := by decide +kernel
theorem d_PT_offerWaysOfV_27 : decode b_PT_offerWaysOfV 27 = .ok (.iconst 0, 1) := by decide +kernel
theorem d_PT_offerWaysOfV_28 : decode b_PT_offerWaysOfV 28 = .ok (.aaload, 1) := by decide +kernel
theorem d_PT_offerWaysOfV_29 : decode b_PT_offerWaysOfV 29 = .ok (.getfield 27, 3) := by decide +kernel
theorem d_PT_offerWaysOfV_32 : decode b_PT_offerWaysOfV 32 = .ok (.aload_n 0, 1) := by decide +kernel
theorem d_PT_offerWaysOfV_33 : decode b_PT_offerWaysOfV 33 = .ok (.getfield 11, 3) := by decide +kernel
theorem d_PT_offerWaysOfV_36 : decode b_PT_offerWaysOfV 36 = .ok (.iconst 1, 1) := by decide +kernel
theorem d_PT_offerWaysOfV_37 : decode b_PT_offerWaysOfV 37 = .ok (.aaload, 1) := by decide +kernel
theorem d_PT_offerWaysOfV_38 : decode b_PT_offerWaysOfV 38 = .ok (.getfield 27, 3) := by decide +kernel
theorem d_PT_offerWaysOfV_41 : decode b_PT_offerWaysOfV 41 = .ok (.invokestatic 82, 3) := by decide +kernel
theorem d_PT_offerWaysOfV_44 : decode b_PT_offerWaysOfV 44 = .ok (.goto 75, 3) := by decide +kernel
theorem d_PT_offerWaysOfV_47 : decode b_PT_offerWaysOfV 47 = .ok (.aload_n 0, 1) := by decide +kernel
theorem d_PT_offerWaysOfV_48 : decode b_PT_offerWaysOfV 48 = .ok (.getfield 30, 3) := by decide +kernel
theorem d_PT_offerWaysOfV_51 : decode b_PT_offerWaysOfV 51 = .ok (.bipush 7, 2) := by decide +kernel
theorem d_PT_offerWaysOfV_53 : decode b_PT_offerWaysOfV 53 = .ok (.if_icmp .ne 66, 3) := by decide +kernel
theorem d_PT_offerWaysOfV_56 : decode b_PT_offerWaysOfV 56 = .ok (.aload_n 0, 1) := by decide +kernel
theorem d_PT_offerWaysOfV_57 : decode b_PT_offerWaysOfV 57 = .ok (.getfield 37, 3) := by decide +kernel
theorem d_PT_offerWaysOfV_60 : decode b_PT_offerWaysOfV 60 = .ok (.iconst 2, 1) := by decide +kernel
theorem d_PT_offerWaysOfV_61 : decode b_PT_offerWaysOfV 61 = .ok (.if_icmp .ne 58, 3) := by decide +kernel
theorem d_PT_offerWaysOfV_64 : decode b_PT_offerWaysOfV 64 = .ok (.aload_n 0, 1) := by decide +kernel
theorem d_PT_offerWaysOfV_65 : decode b_PT_offerWaysOfV 65 = .ok (.getfield 27, 3) := by decide +kernel
theorem d_PT_offerWaysOfV_68 : decode b_PT_offerWaysOfV 68 = .ok (.aload_n 1, 1) := by decide +kernel
theorem d_PT_offerWaysOfV_69 : decode b_PT_offerWaysOfV 69 = .ok (.bipush 8, 2) := by decide +kernel
theorem d_PT_offerWaysOfV_71 : decode b_PT_offerWaysOfV 71 = .ok (.aload_n 0, 1) := by decide +kernel
theorem d_PT_offerWaysOfV_72 : decode b_PT_offerWaysOfV 72 = .ok (.getfield 11, 3) := by decide +kernel
theorem d_PT_offerWaysOfV_75 : decode b_PT_offerWaysOfV 75 = .ok (.iconst 0, 1) := by decide +kernel
theorem d_PT_offerWaysOfV_76 : decode b_PT_offerWaysOfV 76 = .ok (.aaload, 1) := by decide +kernel
theorem d_PT_offerWaysOfV_77 : decode b_PT_offerWaysOfV 77 = .ok (.getfield 24, 3) := by decide +kernel
theorem d_PT_offerWaysOfV_80 : decode b_PT_offerWaysOfV 80 = .ok (.aload_n 0, 1) := by decide +kernel
theorem d_PT_offerWaysOfV_81 : decode b_PT_offerWaysOfV 81 = .ok (.getfield 11, 3) := by decide +kernel
theorem d_PT_offerWaysOfV_84 : decode b_PT_offerWaysOfV 84 = .ok (.iconst 1, 1) := by decide +kernel
theorem d_PT_offerWaysOfV_85 : decode b_PT_offerWaysOfV 85 = .ok (.aaload, 1) := by decide +kernel
theorem d_PT_offerWaysOfV_86 : decode b_PT_offerWaysOfV 86 = .ok (.getfield 27, 3) := by decide +kernel
theorem d_PT_offerWaysOfV_89 : decode b_PT_offerWaysOfV 89 = .ok (.invokestatic 82, 3) := by decide +kernel
theorem d_PT_offerWaysOfV_92 : decode b_PT_offerWaysOfV 92 = .ok (.aload_n 0, 1) := by decide +kernel
theorem d_PT_offerWaysOfV_93 : decode b_PT_offerWaysOfV 93 = .ok (.getfield 27, 3) := by decide +kernel
theorem d_PT_offerWaysOfV_96 : decode b_PT_offerWaysOfV 96 = .ok (.aload_n 1, 1) := by decide +kernel
theorem d_PT_offerWaysOfV_97 : decode b_PT_offerWaysOfV 97 = .ok (.iconst 5, 1) := by decide +kernel
theorem d_PT_offerWaysOfV_98 : decode b_PT_offerWaysOfV 98 = .ok (.aload_n 0, 1) := by decide +kernel
theorem d_PT_offerWaysOfV_99 : decode b_PT_offerWaysOfV 99 = .ok (.getfield 11, 3) := by decide +kernel
theorem d_PT_offerWaysOfV_102 : decode b_PT_offerWaysOfV 102 = .ok (.iconst 0, 1) := by decide +kernel
theorem d_PT_offerWaysOfV_103 : decode b_PT_offerWaysOfV 103 = .ok (.aaload, 1) := by decide +kernel
theorem d_PT_offerWaysOfV_104 : decode b_PT_offerWaysOfV 104 = .ok (.getfield 27, 3) := by decide +kernel
theorem d_PT_offerWaysOfV_107 : decode b_PT_offerWaysOfV 107 = .ok (.aload_n 0, 1) := by decide +kernel
theorem d_PT_offerWaysOfV_108 : decode b_PT_offerWaysOfV 108 = .ok (.getfield 11, 3) := by decide +kernel
theorem d_PT_offerWaysOfV_111 : decode b_PT_offerWaysOfV 111 = .ok (.iconst 1, 1) := by decide +kernel
theorem d_PT_offerWaysOfV_112 : decode b_PT_offerWaysOfV 112 = .ok (.aaload, 1) := by decide +kernel
theorem d_PT_offerWaysOfV_113 : decode b_PT_offerWaysOfV 113 = .ok (.getfield 27, 3) := by decide +kernel
theorem d_PT_offerWaysOfV_116 : decode b_PT_offerWaysOfV 116 = .ok (.invokestatic 82, 3) := by decide +kernel
theorem d_PT_offerWaysOfV_119 : decode b_PT_offerWaysOfV 119 = .ok (.aload_n 0, 1) := by decide +kernel
theorem d_PT_offerWaysOfV_120 : decode b_PT_offerWaysOfV 120 = .ok (.getfield 27, 3) := by decide +kernel
theorem d_PT_offerWaysOfV_123 : decode b_PT_offerWaysOfV 123 = .ok (.aload_n 1, 1) := by decide +kernel
theorem d_PT_offerWaysOfV_124 : decode b_PT_offerWaysOfV 124 = .ok (.iconst 3, 1) := by decide +kernel
theorem d_PT_offerWaysOfV_125 : decode b_PT_offerWaysOfV 125 = .ok (.iconst 0, 1) := by decide +kernel
theorem d_PT_offerWaysOfV_126 : decode b_PT_offerWaysOfV 126 = .ok (.iconst 1, 1) := by decide +kernel
theorem d_PT_offerWaysOfV_127 : decode b_PT_offerWaysOfV 127 = .ok (.invokevirtual 65, 3) := by decide +kernel
theorem d_PT_offerWaysOfV_130 : decode b_PT_offerWaysOfV 130 = .ok (.aload_n 0, 1) := by decide +kernel
theorem d_PT_offerWaysOfV_131 : decode b_PT_offerWaysOfV 131 = .ok (.getfield 20, 3) := by decide +kernel
theorem d_PT_offerWaysOfV_134 : decode b_PT_offerWaysOfV 134 = .ok (.invokevirtual 69, 3) := by decide +kernel
theorem d_PT_offerWaysOfV_137 : decode b_PT_offerWaysOfV 137 = .ok (.invokevirtual 73, 3) := by decide +kernel
theorem d_PT_offerWaysOfV_140 : decode b_PT_offerWaysOfV 140 = .ok (.return_, 1) := by decide +kernel
set_option maxRecDepth 100000 in
set_option maxHeartbeats 1000000 in
theorem s_PT_offerWaysOfV (u : ab_S) (p1 : Nat) (h : CI u) (hp : p1 < 20) : ab_C false l D ca y_PT_offerWaysOfV b_PT_offerWaysOfV 2 none 5 ab_nQ u [ab_O 2 p1, ab_O 3 60] (fun u' v => cP [3, 9] u u' ∧ v = none) := by
  refine ab_C.of (by decide) (Nat.le_of_ble_eq_true rfl) ?_
  intro p e s m args below meth c ad X hZ hr0 hlk
  have P0 : cP [3, 9] u u := cQ.rf h
  refine ab_aload_n X 0 d_PT_offerWaysOfV_0 rfl rfl ?_
  refine ab_gI X fl_PT_30 d_PT_offerWaysOfV_1 (by first | assumption | decide | (show _ < 124; omega) | (show _ < 61; omega) | (show _ < 20; omega)) (rfl) ?_
  refine ab_bipush (v := 6) X d_PT_offerWaysOfV_4 (by decide) ?_
  refine ab_icmp_ne X 47 d_PT_offerWaysOfV_6 rfl (fun h6 => ?_) (fun h6 => ?_)
  ·
    refine ab_aload_n X 0 d_PT_offerWaysOfV_47 rfl rfl ?_
    refine ab_gI X fl_PT_30 d_PT_offerWaysOfV_48 (by first | assumption | decide | (show _ < 124; omega) | (show _ < 61; omega) | (show _ < 20; omega)) (rfl) ?_
    refine ab_bipush (v := 7) X d_PT_offerWaysOfV_51 (by decide) ?_
    refine ab_icmp_ne X 119 d_PT_offerWaysOfV_53 rfl (fun h53 => ?_) (fun h53 => ?_)
    ·
      refine ab_aload_n X 0 d_PT_offerWaysOfV_119 rfl rfl ?_
      refine ab_gR X fl_PT_27 d_PT_offerWaysOfV_120 (by first | assumption | decide | (show _ < 124; omega) | (show _ < 61; omega) | (show _ < 20; omega)) (P0.1.pt3 (by first | assumption | decide | omega)) ?_
      refine ab_aload_n X 1 d_PT_offerWaysOfV_123 rfl rfl ?_
      refine ab_iconst (v := 3) X d_PT_offerWaysOfV_124 (by decide) ?_
      refine ab_iconst (v := 0) X d_PT_offerWaysOfV_125 (by decide) ?_
      refine ab_iconst (v := 1) X d_PT_offerWaysOfV_126 (by decide) ?_
      refine ab_callV (as := [ab_I 3, ab_I 0, ab_I 1]) X (fun h => by cases h) (s_FM_start u 60 3 0 1 (P0.ex 60).1 (by decide)) lk_PT_65 d_PT_offerWaysOfV_127 rfl rfl (by first | assumption | decide | (show _ < 124; omega) | (show _ < 61; omega) | (show _ < 20; omega)) ⟨by first | exact Nat.le_of_ble_eq_true rfl | (simp only [ab_rm]; omega), by first | exact Nat.le_of_ble_eq_true rfl | (simp only [ab_rm]; omega)⟩ ⟨by first | exact Nat.le_of_ble_eq_true rfl | (simp only [ab_rm]; omega), by first | exact Nat.le_of_ble_eq_true rfl | (simp only [ab_rm]; omega)⟩ (Nat.le_of_ble_eq_true rfl) (fun u127 r127 h127 => ?_)
      obtain ⟨⟨q127, a1, a2, a3⟩, rfl⟩ := h127
      have P127 := P0.trans q127 (by decide)
      refine ab_aload_n X 0 d_PT_offerWaysOfV_130 rfl rfl ?_
      refine ab_gR X fl_PT_20 d_PT_offerWaysOfV_131 (by first | assumption | decide | (show _ < 124; omega) | (show _ < 61; omega) | (show _ < 20; omega)) (P127.1.pt1 (by first | assumption | decide | omega)) ?_
      refine ab_callV (as := [ab_O 3 (3 * p1)]) X (fun h => by cases h) (s_FM_with u127 60 (3 * p1) 0 P127.1 (by decide) (by omega) a3 (by decide)) lk_PT_69 d_PT_offerWaysOfV_134 rfl rfl (by first | assumption | decide | (show _ < 124; omega) | (show _ < 61; omega) | (show _ < 20; omega)) ⟨by first | exact Nat.le_of_ble_eq_true rfl | (simp only [ab_rm]; omega), by first | exact Nat.le_of_ble_eq_true rfl | (simp only [ab_rm]; omega)⟩ ⟨by first | exact Nat.le_of_ble_eq_true rfl | (simp only [ab_rm]; omega), by first | exact Nat.le_of_ble_eq_true rfl | (simp only [ab_rm]; omega)⟩ (Nat.le_of_ble_eq_true rfl) (fun u134 r134 h134 => ?_)
      obtain ⟨⟨q134, b1, b2, b3⟩, rfl⟩ := h134
      have P134 := P127.trans q134 (by decide)
      have R137 := ci_done P134 (b2.trans a2) b3 (by decide) ci_cl3
      refine ab_callV (as := [ab_O 3 60]) X (fun h => by cases h) (s_FM_offer u134 (3 * p1 + 2) 60 R137.1 (by omega) (by decide) (by omega)) lk_PT_73 d_PT_offerWaysOfV_137 rfl rfl (by first | assumption | decide | (show _ < 124; omega) | (show _ < 61; omega) | (show _ < 20; omega)) ⟨by first | exact Nat.le_of_ble_eq_true rfl | (simp only [ab_rm]; omega), by first | exact Nat.le_of_ble_eq_true rfl | (simp only [ab_rm]; omega)⟩ ⟨by first | exact Nat.le_of_ble_eq_true rfl | (simp only [ab_rm]; omega), by first | exact Nat.le_of_ble_eq_true rfl | (simp only [ab_rm]; omega)⟩ (Nat.le_of_ble_eq_true rfl) (fun u137 r137 h137 => ?_)
      obtain ⟨q137, rfl⟩ := h137
      have P137 := P134.trans q137 (by decide)
      exact ab_retv X hr0 hlk d_PT_offerWaysOfV_140 ⟨P137, rfl⟩
    ·
      refine ab_aload_n X 0 d_PT_offerWaysOfV_56 rfl rfl ?_
      refine ab_gI X fl_PT_37 d_PT_offerWaysOfV_57 (by first | assumption | decide | (show _ < 124; omega) | (show _ < 61; omega) | (show _ < 20; omega)) (rfl) ?_
      refine ab_iconst (v := 2) X d_PT_offerWaysOfV_60 (by decide) ?_
      refine ab_icmp_ne X 119 d_PT_offerWaysOfV_61 rfl (fun h61 => ?_) (fun h61 => ?_)
      ·
        refine ab_aload_n X 0 d_PT_offerWaysOfV_119 rfl rfl ?_
        refine ab_gR X fl_PT_27 d_PT_offerWaysOfV_120 (by first | assumption | decide | (show _ < 124; omega) | (show _ < 61; omega) | (show _ < 20; omega)) (P0.1.pt3 (by first | assumption | decide | omega)) ?_
        refine ab_aload_n X 1 d_PT_offerWaysOfV_123 rfl rfl ?_
        refine ab_iconst (v := 3) X d_PT_offerWaysOfV_124 (by decide) ?_
        refine ab_iconst (v := 0) X d_PT_offerWaysOfV_125 (by decide) ?_
        refine ab_iconst (v := 1) X d_PT_offerWaysOfV_126 (by decide) ?_
        refine ab_callV (as := [ab_I 3, ab_I 0, ab_I 1]) X (fun h => by cases h) (s_FM_start u 60 3 0 1 (P0.ex 60).1 (by decide)) lk_PT_65 d_PT_offerWaysOfV_127 rfl rfl (by first | assumption | decide | (show _ < 124; omega) | (show _ < 61; omega) | (show _ < 20; omega)) ⟨by first | exact Nat.le_of_ble_eq_true rfl | (simp only [ab_rm]; omega), by first | exact Nat.le_of_ble_eq_true rfl | (simp only [ab_rm]; omega)⟩ ⟨by first | exact Nat.le_of_ble_eq_true rfl | (simp only [ab_rm]; omega), by first | exact Nat.le_of_ble_eq_true rfl | (simp only [ab_rm]; omega)⟩ (Nat.le_of_ble_eq_true rfl) (fun u127 r127 h127 => ?_)
        obtain ⟨⟨q127, a1, a2, a3⟩, rfl⟩ := h127
        have P127 := P0.trans q127 (by decide)
        refine ab_aload_n X 0 d_PT_offerWaysOfV_130 rfl rfl ?_
        refine ab_gR X fl_PT_20 d_PT_offerWaysOfV_131 (by first | assumption | decide | (show _ < 124; omega) | (show _ < 61; omega) | (show _ < 20; omega)) (P127.1.pt1 (by first | assumption | decide | omega)) ?_
        refine ab_callV (as := [ab_O 3 (3 * p1)]) X (fun h => by cases h) (s_FM_with u127 60 (3 * p1) 0 P127.1 (by decide) (by omega) a3 (by decide)) lk_PT_69 d_PT_offerWaysOfV_134 rfl rfl (by first | assumption | decide | (show _ < 124; omega) | (show _ < 61; omega) | (show _ < 20; omega)) ⟨by first | exact Nat.le_of_ble_eq_true rfl | (simp only [ab_rm]; omega), by first | exact Nat.le_of_ble_eq_true rfl | (simp only [ab_rm]; omega)⟩ ⟨by first | exact Nat.le_of_ble_eq_true rfl | (simp only [ab_rm]; omega), by first | exact Nat.le_of_ble_eq_true rfl | (simp only [ab_rm]; omega)⟩ (Nat.le_of_ble_eq_true rfl) (fun u134 r134 h134 => ?_)
        obtain ⟨⟨q134, b1, b2, b3⟩, rfl⟩ := h134
        have P134 := P127.trans q134 (by decide)
        have R137 := ci_done P134 (b2.trans a2) b3 (by decide) ci_cl3
        refine ab_callV (as := [ab_O 3 60]) X (fun h => by cases h) (s_FM_offer u134 (3 * p1 + 2) 60 R137.1 (by omega) (by decide) (by omega)) lk_PT_73 d_PT_offerWaysOfV_137 rfl rfl (by first | assumption | decide | (show _ < 124; omega) | (show _ < 61; omega) | (show _ < 20; omega)) ⟨by first | exact Nat.le_of_ble_eq_true rfl | (simp only [ab_rm]; omega), by first | exact Nat.le_of_ble_eq_true rfl | (simp only [ab_rm]; omega)⟩ ⟨by first | exact Nat.le_of_ble_eq_true rfl | (simp only [ab_rm]; omega), by first | exact Nat.le_of_ble_eq_true rfl | (simp only [ab_rm]; omega)⟩ (Nat.le_of_ble_eq_true rfl) (fun u137 r137 h137 => ?_)
        obtain ⟨q137, rfl⟩ := h137
        have P137 := P134.trans q137 (by decide)
        exact ab_retv X hr0 hlk d_PT_offerWaysOfV_140 ⟨P137, rfl⟩
      ·
        obtain ⟨a, b, ha, hb, ea, eb⟩ := ci_two h hp h61
        refine ab_aload_n X 0 d_PT_offerWaysOfV_64 rfl rfl ?_
        refine ab_gR X fl_PT_27 d_PT_offerWaysOfV_65 (by first | assumption | decide | (show _ < 124; omega) | (show _ < 61; omega) | (show _ < 20; omega)) (P0.1.pt3 (by first | assumption | decide | omega)) ?_
        refine ab_aload_n X 1 d_PT_offerWaysOfV_68 rfl rfl ?_
        refine ab_bipush (v := 8) X d_PT_offerWaysOfV_69 (by decide) ?_
        refine ab_aload_n X 0 d_PT_offerWaysOfV_71 rfl rfl ?_
        refine ab_gR X fl_PT_11 d_PT_offerWaysOfV_72 (by first | assumption | decide | (show _ < 124; omega) | (show _ < 61; omega) | (show _ < 20; omega)) (P0.1.pt0 (by first | assumption | decide | omega)) ?_
        refine ab_iconst (v := 0) X d_PT_offerWaysOfV_75 (by decide) ?_
        refine ab_aalv X (0) ⟨rfl, _, fun _ => rfl⟩ d_PT_offerWaysOfV_76 (by first | assumption | decide | (show _ < 124; omega) | (show _ < 61; omega) | (show _ < 20; omega)) (rfl) (show 0 < 4 by decide) (ab_ln_lt _ _) (P0.rr (by decide) ea) ?_
        refine ab_gR X fl_PT_24 d_PT_offerWaysOfV_77 (by first | assumption | decide | (show _ < 124; omega) | (show _ < 61; omega) | (show _ < 20; omega)) (P0.1.pt2 (by first | assumption | decide | omega)) ?_
        refine ab_aload_n X 0 d_PT_offerWaysOfV_80 rfl rfl ?_
        refine ab_gR X fl_PT_11 d_PT_offerWaysOfV_81 (by first | assumption | decide | (show _ < 124; omega) | (show _ < 61; omega) | (show _ < 20; omega)) (P0.1.pt0 (by first | assumption | decide | omega)) ?_
        refine ab_iconst (v := 1) X d_PT_offerWaysOfV_84 (by decide) ?_
        refine ab_aalv X (1) ⟨rfl, _, fun _ => rfl⟩ d_PT_offerWaysOfV_85 (by first | assumption | decide | (show _ < 124; omega) | (show _ < 61; omega) | (show _ < 20; omega)) (rfl) (show 1 < 4 by decide) (ab_ln_lt _ _) (P0.rr (by decide) eb) ?_
        refine ab_gR X fl_PT_27 d_PT_offerWaysOfV_86 (by first | assumption | decide | (show _ < 124; omega) | (show _ < 61; omega) | (show _ < 20; omega)) (P0.1.pt3 (by first | assumption | decide | omega)) ?_
        refine ab_callS (as := [ab_O 3 (3 * p1 + 2), ab_O 3 60, ab_I 8, ab_O 3 (3 * a + 1), ab_O 3 (3 * b + 2)]) X (fun h => by cases h) (s_PT_offerTwo u (3 * p1 + 2) (3 * a + 1) (3 * b + 2) 8 P0.1 (by omega) (by omega) (by omega)) ls_PT_82 d_PT_offerWaysOfV_89 rfl rfl ⟨by first | exact Nat.le_of_ble_eq_true rfl | (simp only [ab_rm]; omega), by first | exact Nat.le_of_ble_eq_true rfl | (simp only [ab_rm]; omega)⟩ ⟨by first | exact Nat.le_of_ble_eq_true rfl | (simp only [ab_rm]; omega), by first | exact Nat.le_of_ble_eq_true rfl | (simp only [ab_rm]; omega)⟩ (Nat.le_of_ble_eq_true rfl) (fun u89 r89 h89 => ?_)
        obtain ⟨q89, rfl⟩ := h89
        have P89 := P0.trans q89 (by decide)
        refine ab_aload_n X 0 d_PT_offerWaysOfV_92 rfl rfl ?_
        refine ab_gR X fl_PT_27 d_PT_offerWaysOfV_93 (by first | assumption | decide | (show _ < 124; omega) | (show _ < 61; omega) | (show _ < 20; omega)) (P89.1.pt3 (by first | assumption | decide | omega)) ?_
        refine ab_aload_n X 1 d_PT_offerWaysOfV_96 rfl rfl ?_
        refine ab_iconst (v := 5) X d_PT_offerWaysOfV_97 (by decide) ?_
        refine ab_aload_n X 0 d_PT_offerWaysOfV_98 rfl rfl ?_
        refine ab_gR X fl_PT_11 d_PT_offerWaysOfV_99 (by first | assumption | decide | (show _ < 124; omega) | (show _ < 61; omega) | (show _ < 20; omega)) (P89.1.pt0 (by first | assumption | decide | omega)) ?_
        refine ab_iconst (v := 0) X d_PT_offerWaysOfV_102 (by decide) ?_
        refine ab_aalv X (0) ⟨rfl, _, fun _ => rfl⟩ d_PT_offerWaysOfV_103 (by first | assumption | decide | (show _ < 124; omega) | (show _ < 61; omega) | (show _ < 20; omega)) (rfl) (show 0 < 4 by decide) (ab_ln_lt _ _) (P89.rr (by decide) ea) ?_
        refine ab_gR X fl_PT_27 d_PT_offerWaysOfV_104 (by first | assumption | decide | (show _ < 124; omega) | (show _ < 61; omega) | (show _ < 20; omega)) (P89.1.pt3 (by first | assumption | decide | omega)) ?_
        refine ab_aload_n X 0 d_PT_offerWaysOfV_107 rfl rfl ?_
        refine ab_gR X fl_PT_11 d_PT_offerWaysOfV_108 (by first | assumption | decide | (show _ < 124; omega) | (show _ < 61; omega) | (show _ < 20; omega)) (P89.1.pt0 (by first | assumption | decide | omega)) ?_
        refine ab_iconst (v := 1) X d_PT_offerWaysOfV_111 (by decide) ?_
        refine ab_aalv X (1) ⟨rfl, _, fun _ => rfl⟩ d_PT_offerWaysOfV_112 (by first | assumption | decide | (show _ < 124; omega) | (show _ < 61; omega) | (show _ < 20; omega)) (rfl) (show 1 < 4 by decide) (ab_ln_lt _ _) (P89.rr (by decide) eb) ?_
        refine ab_gR X fl_PT_27 d_PT_offerWaysOfV_113 (by first | assumption | decide | (show _ < 124; omega) | (show _ < 61; omega) | (show _ < 20; omega)) (P89.1.pt3 (by first | assumption | decide | omega)) ?_
        refine ab_callS (as := [ab_O 3 (3 * p1 + 2), ab_O 3 60, ab_I 5, ab_O 3 (3 * a + 2), ab_O 3 (3 * b + 2)]) X (fun h => by cases h) (s_PT_offerTwo u89 (3 * p1 + 2) (3 * a + 2) (3 * b + 2) 5 P89.1 (by omega) (by omega) (by omega)) ls_PT_82 d_PT_offerWaysOfV_116 rfl rfl ⟨by first | exact Nat.le_of_ble_eq_true rfl | (simp only [ab_rm]; omega), by first | exact Nat.le_of_ble_eq_true rfl | (simp only [ab_rm]; omega)⟩ ⟨by first | exact Nat.le_of_ble_eq_true rfl | (simp only [ab_rm]; omega), by first | exact Nat.le_of_ble_eq_true rfl | (simp only [ab_rm]; omega)⟩ (Nat.le_of_ble_eq_true rfl) (fun u116 r116 h116 => ?_)
        obtain ⟨q116, rfl⟩ := h116
        have P116 := P89.trans q116 (by decide)
        refine ab_aload_n X 0 d_PT_offerWaysOfV_119 rfl rfl ?_
        refine ab_gR X fl_PT_27 d_PT_offerWaysOfV_120 (by first | assumption | decide | (show _ < 124; omega) | (show _ < 61; omega) | (show _ < 20; omega)) (P116.1.pt3 (by first | assumption | decide | omega)) ?_
        refine ab_aload_n X 1 d_PT_offerWaysOfV_123 rfl rfl ?_
        refine ab_iconst (v := 3) X d_PT_offerWaysOfV_124 (by decide) ?_
        refine ab_iconst (v := 0) X d_PT_offerWaysOfV_125 (by decide) ?_
        refine ab_iconst (v := 1) X d_PT_offerWaysOfV_126 (by decide) ?_
        refine ab_callV (as := [ab_I 3, ab_I 0, ab_I 1]) X (fun h => by cases h) (s_FM_start u116 60 3 0 1 (P116.ex 60).1 (by decide)) lk_PT_65 d_PT_offerWaysOfV_127 rfl rfl (by first | assumption | decide | (show _ < 124; omega) | (show _ < 61; omega) | (show _ < 20; omega)) ⟨by first | exact Nat.le_of_ble_eq_true rfl | (simp only [ab_rm]; omega), by first | exact Nat.le_of_ble_eq_true rfl | (simp only [ab_rm]; omega)⟩ ⟨by first | exact Nat.le_of_ble_eq_true rfl | (simp only [ab_rm]; omega), by first | exact Nat.le_of_ble_eq_true rfl | (simp only [ab_rm]; omega)⟩ (Nat.le_of_ble_eq_true rfl) (fun u127 r127 h127 => ?_)
        obtain ⟨⟨q127, a1, a2, a3⟩, rfl⟩ := h127
        have P127 := P116.trans q127 (by decide)
        refine ab_aload_n X 0 d_PT_offerWaysOfV_130 rfl rfl ?_
        refine ab_gR X fl_PT_20 d_PT_offerWaysOfV_131 (by first | assumption | decide | (show _ < 124; omega) | (show _ < 61; omega) | (show _ < 20; omega)) (P127.1.pt1 (by first | assumption | decide | omega)) ?_
        refine ab_callV (as := [ab_O 3 (3 * p1)]) X (fun h => by cases h) (s_FM_with u127 60 (3 * p1) 0 P127.1 (by decide) (by omega) a3 (by decide)) lk_PT_69 d_PT_offerWaysOfV_134 rfl rfl (by first | assumption | decide | (show _ < 124; omega) | (show _ < 61; omega) | (show _ < 20; omega)) ⟨by first | exact Nat.le_of_ble_eq_true rfl | (simp only [ab_rm]; omega), by first | exact Nat.le_of_ble_eq_true rfl | (simp only [ab_rm]; omega)⟩ ⟨by first | exact Nat.le_of_ble_eq_true rfl | (simp only [ab_rm]; omega), by first | exact Nat.le_of_ble_eq_true rfl | (simp only [ab_rm]; omega)⟩ (Nat.le_of_ble_eq_true rfl) (fun u134 r134 h134 => ?_)
        obtain ⟨⟨q134, b1, b2, b3⟩, rfl⟩ := h134
        have P134 := P127.trans q134 (by decide)
        have R137 := ci_done P134 (b2.trans a2) b3 (by decide) ci_cl3
        refine ab_callV (as := [ab_O 3 60]) X (fun h => by cases h) (s_FM_offer u134 (3 * p1 + 2) 60 R137.1 (by omega) (by decide) (by omega)) lk_PT_73 d_PT_offerWaysOfV_137 rfl rfl (by first | assumption | decide | (show _ < 124; omega) | (show _ < 61; omega) | (show _ < 20; omega)) ⟨by first | exact Nat.le_of_ble_eq_true rfl | (simp only [ab_rm]; omega), by first | exact Nat.le_of_ble_eq_true rfl | (simp only [ab_rm]; omega)⟩ ⟨by first | exact Nat.le_of_ble_eq_true rfl | (simp only [ab_rm]; omega), by first | exact Nat.le_of_ble_eq_true rfl | (simp only [ab_rm]; omega)⟩ (Nat.le_of_ble_eq_true rfl) (fun u137 r137 h137 => ?_)
        obtain ⟨q137, rfl⟩ := h137
        have P137 := P134.trans q137 (by decide)
        exact ab_retv X hr0 hlk d_PT_offerWaysOfV_140 ⟨P137, rfl⟩
  ·
    refine ab_aload_n X 0 d_PT_offerWaysOfV_9 rfl rfl ?_
    refine ab_gI X fl_PT_37 d_PT_offerWaysOfV_10 (by first | assumption | decide | (show _ < 124; omega) | (show _ < 61; omega) | (show _ < 20; omega)) (rfl) ?_
    refine ab_iconst (v := 2) X d_PT_offerWaysOfV_13 (by decide) ?_
    refine ab_icmp_ne X 47 d_PT_offerWaysOfV_14 rfl (fun h14 => ?_) (fun h14 => ?_)
    ·
      refine ab_aload_n X 0 d_PT_offerWaysOfV_47 rfl rfl ?_
      refine ab_gI X fl_PT_30 d_PT_offerWaysOfV_48 (by first | assumption | decide | (show _ < 124; omega) | (show _ < 61; omega) | (show _ < 20; omega)) (rfl) ?_
      refine ab_bipush (v := 7) X d_PT_offerWaysOfV_51 (by decide) ?_
      refine ab_icmp_ne X 119 d_PT_offerWaysOfV_53 rfl (fun h53 => ?_) (fun h53 => ?_)
      ·
        refine ab_aload_n X 0 d_PT_offerWaysOfV_119 rfl rfl ?_
        refine ab_gR X fl_PT_27 d_PT_offerWaysOfV_120 (by first | assumption | decide | (show _ < 124; omega) | (show _ < 61; omega) | (show _ < 20; omega)) (P0.1.pt3 (by first | assumption | decide | omega)) ?_
        refine ab_aload_n X 1 d_PT_offerWaysOfV_123 rfl rfl ?_
        refine ab_iconst (v := 3) X d_PT_offerWaysOfV_124 (by decide) ?_
        refine ab_iconst (v := 0) X d_PT_offerWaysOfV_125 (by decide) ?_
        refine ab_iconst (v := 1) X d_PT_offerWaysOfV_126 (by decide) ?_
        refine ab_callV (as := [ab_I 3, ab_I 0, ab_I 1]) X (fun h => by cases h) (s_FM_start u 60 3 0 1 (P0.ex 60).1 (by decide)) lk_PT_65 d_PT_offerWaysOfV_127 rfl rfl (by first | assumption | decide | (show _ < 124; omega) | (show _ < 61; omega) | (show _ < 20; omega)) ⟨by first | exact Nat.le_of_ble_eq_true rfl | (simp only [ab_rm]; omega), by first | exact Nat.le_of_ble_eq_true rfl | (simp only [ab_rm]; omega)⟩ ⟨by first | exact Nat.le_of_ble_eq_true rfl | (simp only [ab_rm]; omega), by first | exact Nat.le_of_ble_eq_true rfl | (simp only [ab_rm]; omega)⟩ (Nat.le_of_ble_eq_true rfl) (fun u127 r127 h127 => ?_)
        obtain ⟨⟨q127, a1, a2, a3⟩, rfl⟩ := h127
        have P127 := P0.trans q127 (by decide)
        refine ab_aload_n X 0 d_PT_offerWaysOfV_130 rfl rfl ?_
        refine ab_gR X fl_PT_20 d_PT_offerWaysOfV_131 (by first | assumption | decide | (show _ < 124; omega) | (show _ < 61; omega) | (show _ < 20; omega)) (P127.1.pt1 (by first | assumption | decide | omega)) ?_
        refine ab_callV (as := [ab_O 3 (3 * p1)]) X (fun h => by cases h) (s_FM_with u127 60 (3 * p1) 0 P127.1 (by decide) (by omega) a3 (by decide)) lk_PT_69 d_PT_offerWaysOfV_134 rfl rfl (by first | assumption | decide | (show _ < 124; omega) | (show _ < 61; omega) | (show _ < 20; omega)) ⟨by first | exact Nat.le_of_ble_eq_true rfl | (simp only [ab_rm]; omega), by first | exact Nat.le_of_ble_eq_true rfl | (simp only [ab_rm]; omega)⟩ ⟨by first | exact Nat.le_of_ble_eq_true rfl | (simp only [ab_rm]; omega), by first | exact Nat.le_of_ble_eq_true rfl | (simp only [ab_rm]; omega)⟩ (Nat.le_of_ble_eq_true rfl) (fun u134 r134 h134 => ?_)
        obtain ⟨⟨q134, b1, b2, b3⟩, rfl⟩ := h134
        have P134 := P127.trans q134 (by decide)
        have R137 := ci_done P134 (b2.trans a2) b3 (by decide) ci_cl3
        refine ab_callV (as := [ab_O 3 60]) X (fun h => by cases h) (s_FM_offer u134 (3 * p1 + 2) 60 R137.1 (by omega) (by decide) (by omega)) lk_PT_73 d_PT_offerWaysOfV_137 rfl rfl (by first | assumption | decide | (show _ < 124; omega) | (show _ < 61; omega) | (show _ < 20; omega)) ⟨by first | exact Nat.le_of_ble_eq_true rfl | (simp only [ab_rm]; omega), by first | exact Nat.le_of_ble_eq_true rfl | (simp only [ab_rm]; omega)⟩ ⟨by first | exact Nat.le_of_ble_eq_true rfl | (simp only [ab_rm]; omega), by first | exact Nat.le_of_ble_eq_true rfl | (simp only [ab_rm]; omega)⟩ (Nat.le_of_ble_eq_true rfl) (fun u137 r137 h137 => ?_)
        obtain ⟨q137, rfl⟩ := h137
        have P137 := P134.trans q137 (by decide)
        exact ab_retv X hr0 hlk d_PT_offerWaysOfV_140 ⟨P137, rfl⟩
      ·
        refine ab_aload_n X 0 d_PT_offerWaysOfV_56 rfl rfl ?_
        refine ab_gI X fl_PT_37 d_PT_offerWaysOfV_57 (by first | assumption | decide | (show _ < 124; omega) | (show _ < 61; omega) | (show _ < 20; omega)) (rfl) ?_
        refine ab_iconst (v := 2) X d_PT_offerWaysOfV_60 (by decide) ?_
        refine ab_icmp_ne X 119 d_PT_offerWaysOfV_61 rfl (fun h61 => ?_) (fun h61 => ?_)
        ·
          refine ab_aload_n X 0 d_PT_offerWaysOfV_119 rfl rfl ?_
          refine ab_gR X fl_PT_27 d_PT_offerWaysOfV_120 (by first | assumption | decide | (show _ < 124; omega) | (show _ < 61; omega) | (show _ < 20; omega)) (P0.1.pt3 (by first | assumption | decide | omega)) ?_
          refine ab_aload_n X 1 d_PT_offerWaysOfV_123 rfl rfl ?_
          refine ab_iconst (v := 3) X d_PT_offerWaysOfV_124 (by decide) ?_
          refine ab_iconst (v := 0) X d_PT_offerWaysOfV_125 (by decide) ?_
          refine ab_iconst (v := 1) X d_PT_offerWaysOfV_126 (by decide) ?_
          refine ab_callV (as := [ab_I 3, ab_I 0, ab_I 1]) X (fun h => by cases h) (s_FM_start u 60 3 0 1 (P0.ex 60).1 (by decide)) lk_PT_65 d_PT_offerWaysOfV_127 rfl rfl (by first | assumption | decide | (show _ < 124; omega) | (show _ < 61; omega) | (show _ < 20; omega)) ⟨by first | exact Nat.le_of_ble_eq_true rfl | (simp only [ab_rm]; omega), by first | exact Nat.le_of_ble_eq_true rfl | (simp only [ab_rm]; omega)⟩ ⟨by first | exact Nat.le_of_ble_eq_true rfl | (simp only [ab_rm]; omega), by first | exact Nat.le_of_ble_eq_true rfl | (simp only [ab_rm]; omega)⟩ (Nat.le_of_ble_eq_true rfl) (fun u127 r127 h127 => ?_)
          obtain ⟨⟨q127, a1, a2, a3⟩, rfl⟩ := h127
          have P127 := P0.trans q127 (by decide)
          refine ab_aload_n X 0 d_PT_offerWaysOfV_130 rfl rfl ?_
          refine ab_gR X fl_PT_20 d_PT_offerWaysOfV_131 (by first | assumption | decide | (show _ < 124; omega) | (show _ < 61; omega) | (show _ < 20; omega)) (P127.1.pt1 (by first | assumption | decide | omega)) ?_
          refine ab_callV (as := [ab_O 3 (3 * p1)]) X (fun h => by cases h) (s_FM_with u127 60 (3 * p1) 0 P127.1 (by decide) (by omega) a3 (by decide)) lk_PT_69 d_PT_offerWaysOfV_134 rfl rfl (by first | assumption | decide | (show _ < 124; omega) | (show _ < 61; omega) | (show _ < 20; omega)) ⟨by first | exact Nat.le_of_ble_eq_true rfl | (simp only [ab_rm]; omega), by first | exact Nat.le_of_ble_eq_true rfl | (simp only [ab_rm]; omega)⟩ ⟨by first | exact Nat.le_of_ble_eq_true rfl | (simp only [ab_rm]; omega), by first | exact Nat.le_of_ble_eq_true rfl | (simp only [ab_rm]; omega)⟩ (Nat.le_of_ble_eq_true rfl) (fun u134 r134 h134 => ?_)
          obtain ⟨⟨q134, b1, b2, b3⟩, rfl⟩ := h134
          have P134 := P127.trans q134 (by decide)
          have R137 := ci_done P134 (b2.trans a2) b3 (by decide) ci_cl3
          refine ab_callV (as := [ab_O 3 60]) X (fun h => by cases h) (s_FM_offer u134 (3 * p1 + 2) 60 R137.1 (by omega) (by decide) (by omega)) lk_PT_73 d_PT_offerWaysOfV_137 rfl rfl (by first | assumption | decide | (show _ < 124; omega) | (show _ < 61; omega) | (show _ < 20; omega)) ⟨by first | exact Nat.le_of_ble_eq_true rfl | (simp only [ab_rm]; omega), by first | exact Nat.le_of_ble_eq_true rfl | (simp only [ab_rm]; omega)⟩ ⟨by first | exact Nat.le_of_ble_eq_true rfl | (simp only [ab_rm]; omega), by first | exact Nat.le_of_ble_eq_true rfl | (simp only [ab_rm]; omega)⟩ (Nat.le_of_ble_eq_true rfl) (fun u137 r137 h137 => ?_)
          obtain ⟨q137, rfl⟩ := h137
          have P137 := P134.trans q137 (by decide)
          exact ab_retv X hr0 hlk d_PT_offerWaysOfV_140 ⟨P137, rfl⟩
        ·
          obtain ⟨a, b, ha, hb, ea, eb⟩ := ci_two h hp h61
          refine ab_aload_n X 0 d_PT_offerWaysOfV_64 rfl rfl ?_
          refine ab_gR X fl_PT_27 d_PT_offerWaysOfV_65 (by first | assumption | decide | (show _ < 124; omega) | (show _ < 61; omega) | (show _ < 20; omega)) (P0.1.pt3 (by first | assumption | decide | omega)) ?_
          refine ab_aload_n X 1 d_PT_offerWaysOfV_68 rfl rfl ?_
          refine ab_bipush (v := 8) X d_PT_offerWaysOfV_69 (by decide) ?_
          refine ab_aload_n X 0 d_PT_offerWaysOfV_71 rfl rfl ?_
          refine ab_gR X fl_PT_11 d_PT_offerWaysOfV_72 (by first | assumption | decide | (show _ < 124; omega) | (show _ < 61; omega) | (show _ < 20; omega)) (P0.1.pt0 (by first | assumption | decide | omega)) ?_
          refine ab_iconst (v := 0) X d_PT_offerWaysOfV_75 (by decide) ?_
          refine ab_aalv X (0) ⟨rfl, _, fun _ => rfl⟩ d_PT_offerWaysOfV_76 (by first | assumption | decide | (show _ < 124; omega) | (show _ < 61; omega) | (show _ < 20; omega)) (rfl) (show 0 < 4 by decide) (ab_ln_lt _ _) (P0.rr (by decide) ea) ?_
          refine ab_gR X fl_PT_24 d_PT_offerWaysOfV_77 (by first | assumption | decide | (show _ < 124; omega) | (show _ < 61; omega) | (show _ < 20; omega)) (P0.1.pt2 (by first | assumption | decide | omega)) ?_
          refine ab_aload_n X 0 d_PT_offerWaysOfV_80 rfl rfl ?_
          refine ab_gR X fl_PT_11 d_PT_offerWaysOfV_81 (by first | assumption | decide | (show _ < 124; omega) | (show _ < 61; omega) | (show _ < 20; omega)) (P0.1.pt0 (by first | assumption | decide | omega)) ?_
          refine ab_iconst (v := 1) X d_PT_offerWaysOfV_84 (by decide) ?_
          refine ab_aalv X (1) ⟨rfl, _, fun _ => rfl⟩ d_PT_offerWaysOfV_85 (by first | assumption | decide | (show _ < 124; omega) | (show _ < 61; omega) | (show _ < 20; omega)) (rfl) (show 1 < 4 by decide) (ab_ln_lt _ _) (P0.rr (by decide) eb) ?_
          refine ab_gR X fl_PT_27 d_PT_offerWaysOfV_86 (by first | assumption | decide | (show _ < 124; omega) | (show _ < 61; omega) | (show _ < 20; omega)) (P0.1.pt3 (by first | assumption | decide | omega)) ?_
          refine ab_callS (as := [ab_O 3 (3 * p1 + 2), ab_O 3 60, ab_I 8, ab_O 3 (3 * a + 1), ab_O 3 (3 * b + 2)]) X (fun h => by cases h) (s_PT_offerTwo u (3 * p1 + 2) (3 * a + 1) (3 * b + 2) 8 P0.1 (by omega) (by omega) (by omega)) ls_PT_82 d_PT_offerWaysOfV_89 rfl rfl ⟨by first | exact Nat.le_of_ble_eq_true rfl | (simp only [ab_rm]; omega), by first | exact Nat.le_of_ble_eq_true rfl | (simp only [ab_rm]; omega)⟩ ⟨by first | exact Nat.le_of_ble_eq_true rfl | (simp only [ab_rm]; omega), by first | exact Nat.le_of_ble_eq_true rfl | (simp only [ab_rm]; omega)⟩ (Nat.le_of_ble_eq_true rfl) (fun u89 r89 h89 => ?_)
          obtain ⟨q89, rfl⟩ := h89
          have P89 := P0.trans q89 (by decide)
          refine ab_aload_n X 0 d_PT_offerWaysOfV_92 rfl rfl ?_
          refine ab_gR X fl_PT_27 d_PT_offerWaysOfV_93 (by first | assumption | decide | (show _ < 124; omega) | (show _ < 61; omega) | (show _ < 20; omega)) (P89.1.pt3 (by first | assumption | decide | omega)) ?_
          refine ab_aload_n X 1 d_PT_offerWaysOfV_96 rfl rfl ?_
          refine ab_iconst (v := 5) X d_PT_offerWaysOfV_97 (by decide) ?_
          refine ab_aload_n X 0 d_PT_offerWaysOfV_98 rfl rfl ?_
          refine ab_gR X fl_PT_11 d_PT_offerWaysOfV_99 (by first | assumption | decide | (show _ < 124; omega) | (show _ < 61; omega) | (show _ < 20; omega)) (P89.1.pt0 (by first | assumption | decide | omega)) ?_
          refine ab_iconst (v := 0) X d_PT_offerWaysOfV_102 (by decide) ?_
          refine ab_aalv X (0) ⟨rfl, _, fun _ => rfl⟩ d_PT_offerWaysOfV_103 (by first | assumption | decide | (show _ < 124; omega) | (show _ < 61; omega) | (show _ < 20; omega)) (rfl) (show 0 < 4 by decide) (ab_ln_lt _ _) (P89.rr (by decide) ea) ?_
          refine ab_gR X fl_PT_27 d_PT_offerWaysOfV_104 (by first | assumption | decide | (show _ < 124; omega) | (show _ < 61; omega) | (show _ < 20; omega)) (P89.1.pt3 (by first | assumption | decide | omega)) ?_
          refine ab_aload_n X 0 d_PT_offerWaysOfV_107 rfl rfl ?_
          refine ab_gR X fl_PT_11 d_PT_offerWaysOfV_108 (by first | assumption | decide | (show _ < 124; omega) | (show _ < 61; omega) | (show _ < 20; omega)) (P89.1.pt0 (by first | assumption | decide | omega)) ?_
          refine ab_iconst (v := 1) X d_PT_offerWaysOfV_111 (by decide) ?_
          refine ab_aalv X (1) ⟨rfl, _, fun _ => rfl⟩ d_PT_offerWaysOfV_112 (by first | assumption | decide | (show _ < 124; omega) | (show _ < 61; omega) | (show _ < 20; omega)) (rfl) (show 1 < 4 by decide) (ab_ln_lt _ _) (P89.rr (by decide) eb) ?_
          refine ab_gR X fl_PT_27 d_PT_offerWaysOfV_113 (by first | assumption | decide | (show _ < 124; omega) | (show _ < 61; omega) | (show _ < 20; omega)) (P89.1.pt3 (by first | assumption | decide | omega)) ?_
          refine ab_callS (as := [ab_O 3 (3 * p1 + 2), ab_O 3 60, ab_I 5, ab_O 3 (3 * a + 2), ab_O 3 (3 * b + 2)]) X (fun h => by cases h) (s_PT_offerTwo u89 (3 * p1 + 2) (3 * a + 2) (3 * b + 2) 5 P89.1 (by omega) (by omega) (by omega)) ls_PT_82 d_PT_offerWaysOfV_116 rfl rfl ⟨by first | exact Nat.le_of_ble_eq_true rfl | (simp only [ab_rm]; omega), by first | exact Nat.le_of_ble_eq_true rfl | (simp only [ab_rm]; omega)⟩ ⟨by first | exact Nat.le_of_ble_eq_true rfl | (simp only [ab_rm]; omega), by first | exact Nat.le_of_ble_eq_true rfl | (simp only [ab_rm]; omega)⟩ (Nat.le_of_ble_eq_true rfl) (fun u116 r116 h116 => ?_)
          obtain ⟨q116, rfl⟩ := h116
          have P116 := P89.trans q116 (by decide)
          refine ab_aload_n X 0 d_PT_offerWaysOfV_119 rfl rfl ?_
          refine ab_gR X fl_PT_27 d_PT_offerWaysOfV_120 (by first | assumption | decide | (show _ < 124; omega) | (show _ < 61; omega) | (show _ < 20; omega)) (P116.1.pt3 (by first | assumption | decide | omega)) ?_
          refine ab_aload_n X 1 d_PT_offerWaysOfV_123 rfl rfl ?_
          refine ab_iconst (v := 3) X d_PT_offerWaysOfV_124 (by decide) ?_
          refine ab_iconst (v := 0) X d_PT_offerWaysOfV_125 (by decide) ?_
          refine ab_iconst (v := 1) X d_PT_offerWaysOfV_126 (by decide) ?_
          refine ab_callV (as := [ab_I 3, ab_I 0, ab_I 1]) X (fun h => by cases h) (s_FM_start u116 60 3 0 1 (P116.ex 60).1 (by decide)) lk_PT_65 d_PT_offerWaysOfV_127 rfl rfl (by first | assumption | decide | (show _ < 124; omega) | (show _ < 61; omega) | (show _ < 20; omega)) ⟨by first | exact Nat.le_of_ble_eq_true rfl | (simp only [ab_rm]; omega), by first | exact Nat.le_of_ble_eq_true rfl | (simp only [ab_rm]; omega)⟩ ⟨by first | exact Nat.le_of_ble_eq_true rfl | (simp only [ab_rm]; omega), by first | exact Nat.le_of_ble_eq_true rfl | (simp only [ab_rm]; omega)⟩ (Nat.le_of_ble_eq_true rfl) (fun u127 r127 h127 => ?_)
          obtain ⟨⟨q127, a1, a2, a3⟩, rfl⟩ := h127
          have P127 := P116.trans q127 (by decide)
          refine ab_aload_n X 0 d_PT_offerWaysOfV_130 rfl rfl ?_
          refine ab_gR X fl_PT_20 d_PT_offerWaysOfV_131 (by first | assumption | decide | (show _ < 124; omega) | (show _ < 61; omega) | (show _ < 20; omega)) (P127.1.pt1 (by first | assumption | decide | omega)) ?_
          refine ab_callV (as := [ab_O 3 (3 * p1)]) X (fun h => by cases h) (s_FM_with u127 60 (3 * p1) 0 P127.1 (by decide) (by omega) a3 (by decide)) lk_PT_69 d_PT_offerWaysOfV_134 rfl rfl (by first | assumption | decide | (show _ < 124; omega) | (show _ < 61; omega) | (show _ < 20; omega)) ⟨by first | exact Nat.le_of_ble_eq_true rfl | (simp only [ab_rm]; omega), by first | exact Nat.le_of_ble_eq_true rfl | (simp only [ab_rm]; omega)⟩ ⟨by first | exact Nat.le_of_ble_eq_true rfl | (simp only [ab_rm]; omega), by first | exact Nat.le_of_ble_eq_true rfl | (simp only [ab_rm]; omega)⟩ (Nat.le_of_ble_eq_true rfl) (fun u134 r134 h134 => ?_)
          obtain ⟨⟨q134, b1, b2, b3⟩, rfl⟩ := h134
          have P134 := P127.trans q134 (by decide)
          have R137 := ci_done P134 (b2.trans a2) b3 (by decide) ci_cl3
          refine ab_callV (as := [ab_O 3 60]) X (fun h => by cases h) (s_FM_offer u134 (3 * p1 + 2) 60 R137.1 (by omega) (by decide) (by omega)) lk_PT_73 d_PT_offerWaysOfV_137 rfl rfl (by first | assumption | decide | (show _ < 124; omega) | (show _ < 61; omega) | (show _ < 20; omega)) ⟨by first | exact Nat.le_of_ble_eq_true rfl | (simp only [ab_rm]; omega), by first | exact Nat.le_of_ble_eq_true rfl | (simp only [ab_rm]; omega)⟩ ⟨by first | exact Nat.le_of_ble_eq_true rfl | (simp only [ab_rm]; omega), by first | exact Nat.le_of_ble_eq_true rfl | (simp only [ab_rm]; omega)⟩ (Nat.le_of_ble_eq_true rfl) (fun u137 r137 h137 => ?_)
          obtain ⟨q137, rfl⟩ := h137
          have P137 := P134.trans q137 (by decide)
          exact ab_retv X hr0 hlk d_PT_offerWaysOfV_140 ⟨P137, rfl⟩
    ·
      obtain ⟨a, b, ha, hb, ea, eb⟩ := ci_two h hp h14
      refine ab_aload_n X 0 d_PT_offerWaysOfV_17 rfl rfl ?_
      refine ab_gR X fl_PT_27 d_PT_offerWaysOfV_18 (by first | assumption | decide | (show _ < 124; omega) | (show _ < 61; omega) | (show _ < 20; omega)) (P0.1.pt3 (by first | assumption | decide | omega)) ?_
      refine ab_aload_n X 1 d_PT_offerWaysOfV_21 rfl rfl ?_
      refine ab_iconst (v := 2) X d_PT_offerWaysOfV_22 (by decide) ?_
      refine ab_aload_n X 0 d_PT_offerWaysOfV_23 rfl rfl ?_
      refine ab_gR X fl_PT_11 d_PT_offerWaysOfV_24 (by first | assumption | decide | (show _ < 124; omega) | (show _ < 61; omega) | (show _ < 20; omega)) (P0.1.pt0 (by first | assumption | decide | omega)) ?_
      refine ab_iconst (v := 0) X d_PT_offerWaysOfV_27 (by decide) ?_
      refine ab_aalv X (0) ⟨rfl, _, fun _ => rfl⟩ d_PT_offerWaysOfV_28 (by first | assumption | decide | (show _ < 124; omega) | (show _ < 61; omega) | (show _ < 20; omega)) (rfl) (show 0 < 4 by decide) (ab_ln_lt _ _) (P0.rr (by decide) ea) ?_
      refine ab_gR X fl_PT_27 d_PT_offerWaysOfV_29 (by first | assumption | decide | (show _ < 124; omega) | (show _ < 61; omega) | (show _ < 20; omega)) (P0.1.pt3 (by first | assumption | decide | omega)) ?_
      refine ab_aload_n X 0 d_PT_offerWaysOfV_32 rfl rfl ?_
      refine ab_gR X fl_PT_11 d_PT_offerWaysOfV_33 (by first | assumption | decide | (show _ < 124; omega) | (show _ < 61; omega) | (show _ < 20; omega)) (P0.1.pt0 (by first | assumption | decide | omega)) ?_
      refine ab_iconst (v := 1) X d_PT_offerWaysOfV_36 (by decide) ?_
      refine ab_aalv X (1) ⟨rfl, _, fun _ => rfl⟩ d_PT_offerWaysOfV_37 (by first | assumption | decide | (show _ < 124; omega) | (show _ < 61; omega) | (show _ < 20; omega)) (rfl) (show 1 < 4 by decide) (ab_ln_lt _ _) (P0.rr (by decide) eb) ?_
      refine ab_gR X fl_PT_27 d_PT_offerWaysOfV_38 (by first | assumption | decide | (show _ < 124; omega) | (show _ < 61; omega) | (show _ < 20; omega)) (P0.1.pt3 (by first | assumption | decide | omega)) ?_
      refine ab_callS (as := [ab_O 3 (3 * p1 + 2), ab_O 3 60, ab_I 2, ab_O 3 (3 * a + 2), ab_O 3 (3 * b + 2)]) X (fun h => by cases h) (s_PT_offerTwo u (3 * p1 + 2) (3 * a + 2) (3 * b + 2) 2 P0.1 (by omega) (by omega) (by omega)) ls_PT_82 d_PT_offerWaysOfV_41 rfl rfl ⟨by first | exact Nat.le_of_ble_eq_true rfl | (simp only [ab_rm]; omega), by first | exact Nat.le_of_ble_eq_true rfl | (simp only [ab_rm]; omega)⟩ ⟨by first | exact Nat.le_of_ble_eq_true rfl | (simp only [ab_rm]; omega), by first | exact Nat.le_of_ble_eq_true rfl | (simp only [ab_rm]; omega)⟩ (Nat.le_of_ble_eq_true rfl) (fun u41 r41 h41 => ?_)
      obtain ⟨q41, rfl⟩ := h41
      have P41 := P0.trans q41 (by decide)
      refine ab_goto X 119 d_PT_offerWaysOfV_44 rfl ?_
      refine ab_aload_n X 0 d_PT_offerWaysOfV_119 rfl rfl ?_
      refine ab_gR X fl_PT_27 d_PT_offerWaysOfV_120 (by first | assumption | decide | (show _ < 124; omega) | (show _ < 61; omega) | (show _ < 20; omega)) (P41.1.pt3 (by first | assumption | decide | omega)) ?_
      refine ab_aload_n X 1 d_PT_offerWaysOfV_123 rfl rfl ?_
      refine ab_iconst (v := 3) X d_PT_offerWaysOfV_124 (by decide) ?_
      refine ab_iconst (v := 0) X d_PT_offerWaysOfV_125 (by decide) ?_
      refine ab_iconst (v := 1) X d_PT_offerWaysOfV_126 (by decide) ?_
      refine ab_callV (as := [ab_I 3, ab_I 0, ab_I 1]) X (fun h => by cases h) (s_FM_start u41 60 3 0 1 (P41.ex 60).1 (by decide)) lk_PT_65 d_PT_offerWaysOfV_127 rfl rfl (by first | assumption | decide | (show _ < 124; omega) | (show _ < 61; omega) | (show _ < 20; omega)) ⟨by first | exact Nat.le_of_ble_eq_true rfl | (simp only [ab_rm]; omega), by first | exact Nat.le_of_ble_eq_true rfl | (simp only [ab_rm]; omega)⟩ ⟨by first | exact Nat.le_of_ble_eq_true rfl | (simp only [ab_rm]; omega), by first | exact Nat.le_of_ble_eq_true rfl | (simp only [ab_rm]; omega)⟩ (Nat.le_of_ble_eq_true rfl) (fun u127 r127 h127 => ?_)
      obtain ⟨⟨q127, a1, a2, a3⟩, rfl⟩ := h127
      have P127 := P41.trans q127 (by decide)
      refine ab_aload_n X 0 d_PT_offerWaysOfV_130 rfl rfl ?_
      refine ab_gR X fl_PT_20 d_PT_offerWaysOfV_131 (by first | assumption | decide | (show _ < 124; omega) | (show _ < 61; omega) | (show _ < 20; omega)) (P127.1.pt1 (by first | assumption | decide | omega)) ?_
      refine ab_callV (as := [ab_O 3 (3 * p1)]) X (fun h => by cases h) (s_FM_with u127 60 (3 * p1) 0 P127.1 (by decide) (by omega) a3 (by decide)) lk_PT_69 d_PT_offerWaysOfV_134 rfl rfl (by first | assumption | decide | (show _ < 124; omega) | (show _ < 61; omega) | (show _ < 20; omega)) ⟨by first | exact Nat.le_of_ble_eq_true rfl | (simp only [ab_rm]; omega), by first | exact Nat.le_of_ble_eq_true rfl | (simp only [ab_rm]; omega)⟩ ⟨by first | exact Nat.le_of_ble_eq_true rfl | (simp only [ab_rm]; omega), by first | exact Nat.le_of_ble_eq_true rfl | (simp only [ab_rm]; omega)⟩ (Nat.le_of_ble_eq_true rfl) (fun u134 r134 h134 => ?_)
      obtain ⟨⟨q134, b1, b2, b3⟩, rfl⟩ := h134
      have P134 := P127.trans q134 (by decide)
      have R137 := ci_done P134 (b2.trans a2) b3 (by decide) ci_cl3
      refine ab_callV (as := [ab_O 3 60]) X (fun h => by cases h) (s_FM_offer u134 (3 * p1 + 2) 60 R137.1 (by omega) (by decide) (by omega)) lk_PT_73 d_PT_offerWaysOfV_137 rfl rfl (by first | assumption | decide | (show _ < 124; omega) | (show _ < 61; omega) | (show _ < 20; omega)) ⟨by first | exact Nat.le_of_ble_eq_true rfl | (simp only [ab_rm]; omega), by first | exact Nat.le_of_ble_eq_true rfl | (simp only [ab_rm]; omega)⟩ ⟨by first | exact Nat.le_of_ble_eq_true rfl | (simp only [ab_rm]; omega), by first | exact Nat.le_of_ble_eq_true rfl | (simp only [ab_rm]; omega)⟩ (Nat.le_of_ble_eq_true rfl) (fun u137 r137 h137 => ?_)
      obtain ⟨q137, rfl⟩ := h137
      have P137 := P134.trans q137 (by decide)
      exact ab_retv X hr0 hlk d_PT_offerWaysOfV_140 ⟨P137, rfl⟩
abbrev b_PT_chooseForms : ByteArray := prog_5_method_5_code
def y_PT_chooseForms : MethodName := ⟨"PolicyForge$Part", "chooseForms", "(LPolicyForge$Form;)V"⟩
theorem d_PT_chooseForms_0 : decode b_PT_chooseForms 0 = .ok (.aload_n 0, 1) := by decide +kernel
theorem d_PT_chooseForms_1 : decode b_PT_chooseForms 1 = .ok (.getfield 20, 3) := by decide +kernel
theorem d_PT_chooseForms_4 : decode b_PT_chooseForms 4 = .ok (.iconst 0, 1) := by decide +kernel
theorem d_PT_chooseForms_5 : decode b_PT_chooseForms 5 = .ok (.putfield 54, 3) := by decide +kernel
theorem d_PT_chooseForms_8 : decode b_PT_chooseForms 8 = .ok (.aload_n 0, 1) := by decide +kernel
theorem d_PT_chooseForms_9 : decode b_PT_chooseForms 9 = .ok (.getfield 24, 3) := by decide +kernel
theorem d_PT_chooseForms_12 : decode b_PT_chooseForms 12 = .ok (.iconst 0, 1) := by decide +kernel
theorem d_PT_chooseForms_13 : decode b_PT_chooseForms 13 = .ok (.putfield 54, 3) := by decide +kernel
theorem d_PT_chooseForms_16 : decode b_PT_chooseForms 16 = .ok (.aload_n 0, 1) := by decide +kernel
theorem d_PT_chooseForms_17 : decode b_PT_chooseForms 17 = .ok (.getfield 27, 3) := by decide +kernel
theorem d_PT_chooseForms_20 : decode b_PT_chooseForms 20 = .ok (.iconst 0, 1) := by decide +kernel
theorem d_PT_chooseForms_21 : decode b_PT_chooseForms 21 = .ok (.putfield 54, 3) := by decide +kernel
theorem d_PT_chooseForms_24 : decode b_PT_chooseForms 24 = .ok (.aload_n 0, 1) := by decide +kernel
theorem d_PT_chooseForms_25 : decode b_PT_chooseForms 25 = .ok (.aload_n 1, 1) := by decide +kernel
theorem d_PT_chooseForms_26 : decode b_PT_chooseForms 26 = .ok (.invokevirtual 57, 3) := by decide +kernel
theorem d_PT_chooseForms_29 : decode b_PT_chooseForms 29 = .ok (.aload_n 0, 1) := by decide +kernel
theorem d_PT_chooseForms_30 : decode b_PT_chooseForms 30 = .ok (.aload_n 0, 1) := by decide +kernel
theorem d_PT_chooseForms_31 : decode b_PT_chooseForms 31 = .ok (.getfield 20, 3) := by decide +kernel
theorem d_PT_chooseForms_34 : decode b_PT_chooseForms 34 = .ok (.aload_n 1, 1) := by decide +kernel
theorem d_PT_chooseForms_35 : decode b_PT_chooseForms 35 = .ok (.invokevirtual 61, 3) := by decide +kernel
theorem d_PT_chooseForms_38 : decode b_PT_chooseForms 38 = .ok (.aload_n 0, 1) := by decide +kernel
theorem d_PT_chooseForms_39 : decode b_PT_chooseForms 39 = .ok (.aload_n 0, 1) := by decide +kernel
theorem d_PT_chooseForms_40 : decode b_PT_chooseForms 40 = .ok (.getfield 24, 3) := by decide +kernel
theorem d_PT_chooseForms_43 : decode b_PT_chooseForms 43 = .ok (.aload_n 1, 1) := by decide +kernel
theorem d_PT_chooseForms_44 : decode b_PT_chooseForms 44 = .ok (.invokevirtual 61, 3) := by decide +kernel
theorem d_PT_chooseForms_47 : decode b_PT_chooseForms 47 = .ok (.aload_n 0, 1) := by decide +kernel
theorem d_PT_chooseForms_48 : decode b_PT_chooseForms 48 = .ok (.getfield 24, 3) := by decide +kernel
theorem d_PT_chooseForms_51 : decode b_PT_chooseForms 51 = .ok (.aload_n 1, 1) := by decide +kernel
theorem d_PT_chooseForms_52 : decode b_PT_chooseForms 52 = .ok (.bipush 6, 2) := by decide +kernel
theorem d_PT_chooseForms_54 : decode b_PT_chooseForms 54 = .ok (.iconst 0, 1) := by decide +kernel
theorem d_PT_chooseForms_55 : decode b_PT_chooseForms 55 = .ok (.iconst 1, 1) := by decide +kernel
theorem d_PT_chooseForms_56 : decode b_PT_chooseForms 56 = .ok (.invokevirtual 65, 3) := by decide +kernel
theorem d_PT_chooseForms_59 : decode b_PT_chooseForms 59 = .ok (.aload_n 0, 1) := by decide +kernel
theorem d_PT_chooseForms_60 : decode b_PT_chooseForms 60 = .ok (.getfield 20, 3) := by decide +kernel
theorem d_PT_chooseForms_63 : decode b_PT_chooseForms 63 = .ok (.invokevirtual 69, 3) := by decide +kernel
theorem d_PT_chooseForms_66 : decode b_PT_chooseForms 66 = .ok (.invokevirtual 73, 3) := by decide +kernel
theorem d_PT_chooseForms_69 : decode b_PT_chooseForms 69 = .ok (.aload_n 0, 1) := by decide +kernel
theorem d_PT_chooseForms_70 : decode b_PT_chooseForms 70 = .ok (.getfield 24, 3) := by decide +kernel
theorem d_PT_chooseForms_73 : decode b_PT_chooseForms 73 = .ok (.invokevirtual 76, 3) := by decide +kernel
theorem d_PT_chooseForms_76 : decode b_PT_chooseForms 76 = .ok (.aload_n 0, 1) := by decide +kernel
theorem d_PT_chooseForms_77 : decode b_PT_chooseForms 77 = .ok (.aload_n 1, 1) := by decide +kernel
theorem d_PT_chooseForms_78 : decode b_PT_chooseForms 78 = .ok (.invokevirtual 79, 3) := by decide +kernel
theorem d_PT_chooseForms_81 : decode b_PT_chooseForms 81 = .ok (.return_, 1) := by decide +kernel
theorem fp_PT_54 : ab_fp "PolicyForge$Part" 54 3 4 0 .int := ⟨rfl, R_FM, T_FM, 10, t_FM, rfl, uw_FM, by decide, rfl, (ab_in 180 (by decide +kernel) (by decide +kernel)), t_FM_ok, n_FM, rfl, rfl⟩
theorem lk_PT_57 : ab_lk "PolicyForge$Part" 57 y_PT_offerWaysOfB b_PT_offerWaysOfB 2 none 1 2 := ⟨⟨rfl, T_PT, 8, rfl⟩, List.forall_mem_cons.mpr ⟨(ab_in 603 (by decide +kernel) (by decide +kernel)), List.forall_mem_cons.mpr ⟨(ab_in 605 (by decide +kernel) (by decide +kernel)), List.forall_mem_cons.mpr ⟨(ab_in 12 (by decide +kernel) (by decide +kernel)), List.forall_mem_cons.mpr ⟨(ab_in 94 (by decide +kernel) (by decide +kernel)), List.forall_mem_cons.mpr ⟨(ab_in 606 (by decide +kernel) (by decide +kernel)), fun _ h => absurd h List.not_mem_nil⟩⟩⟩⟩⟩, ⟨by decide +kernel, by decide +kernel, by decide +kernel⟩, by decide⟩
theorem lk_PT_61 : ab_lk "PolicyForge$Part" 61 y_PT_offerWaysOfD b_PT_offerWaysOfD 3 none 2 2 := ⟨⟨rfl, T_PT, 8, rfl⟩, List.forall_mem_cons.mpr ⟨(ab_in 655 (by decide +kernel) (by decide +kernel)), List.forall_mem_cons.mpr ⟨(ab_in 657 (by decide +kernel) (by decide +kernel)), List.forall_mem_cons.mpr ⟨(ab_in 18 (by decide +kernel) (by decide +kernel)), List.forall_mem_cons.mpr ⟨(ab_in 94 (by decide +kernel) (by decide +kernel)), List.forall_mem_cons.mpr ⟨(ab_in 658 (by decide +kernel) (by decide +kernel)), fun _ h => absurd h List.not_mem_nil⟩⟩⟩⟩⟩, ⟨by decide +kernel, by decide +kernel, by decide +kernel⟩, by decide⟩
theorem lk_PT_76 : ab_lk "PolicyForge$Part" 76 y_FM_makeRefusal b_FM_makeRefusal 2 none 0 3 := ⟨⟨rfl, T_FM, 10, rfl⟩, List.forall_mem_cons.mpr ⟨(ab_in 663 (by decide +kernel) (by decide +kernel)), List.forall_mem_cons.mpr ⟨(ab_in 664 (by decide +kernel) (by decide +kernel)), List.forall_mem_cons.mpr ⟨(ab_in 665 (by decide +kernel) (by decide +kernel)), List.forall_mem_cons.mpr ⟨(ab_in 95 (by decide +kernel) (by decide +kernel)), List.forall_mem_cons.mpr ⟨(ab_in 666 (by decide +kernel) (by decide +kernel)), fun _ h => absurd h List.not_mem_nil⟩⟩⟩⟩⟩, ⟨by decide +kernel, by decide +kernel, by decide +kernel⟩, by decide⟩
theorem lk_PT_79 : ab_lk "PolicyForge$Part" 79 y_PT_offerWaysOfV b_PT_offerWaysOfV 2 none 1 2 := ⟨⟨rfl, T_PT, 8, rfl⟩, List.forall_mem_cons.mpr ⟨(ab_in 677 (by decide +kernel) (by decide +kernel)), List.forall_mem_cons.mpr ⟨(ab_in 679 (by decide +kernel) (by decide +kernel)), List.forall_mem_cons.mpr ⟨(ab_in 20 (by decide +kernel) (by decide +kernel)), List.forall_mem_cons.mpr ⟨(ab_in 94 (by decide +kernel) (by decide +kernel)), List.forall_mem_cons.mpr ⟨(ab_in 680 (by decide +kernel) (by decide +kernel)), fun _ h => absurd h List.not_mem_nil⟩⟩⟩⟩⟩, ⟨by decide +kernel, by decide +kernel, by decide +kernel⟩, by decide⟩
set_option maxRecDepth 100000 in
set_option maxHeartbeats 1000000 in
theorem s_PT_chooseForms (u : ab_S) (p1 : Nat) (h : CI u) (hp : p1 < 20) : ab_C false l D ca y_PT_chooseForms b_PT_chooseForms 2 none 6 ab_nQ u [ab_O 2 p1, ab_O 3 60] (fun u' v => cP [3, 4, 8, 9] u u' ∧ v = none) := by
  refine ab_C.of (by decide) (Nat.le_of_ble_eq_true rfl) ?_
  intro p e s m args below meth c ad X hZ hr0 hlk
  have P0 : cP [3, 4, 8, 9] u u := cQ.rf h
  refine ab_aload_n X 0 d_PT_chooseForms_0 rfl rfl ?_
  refine ab_gR X fl_PT_20 d_PT_chooseForms_1 (by first | assumption | decide | (show _ < 124; omega) | (show _ < 61; omega) | (show _ < 20; omega)) (P0.1.pt1 (by first | assumption | decide | omega)) ?_
  refine ab_iconst (v := 0) X d_PT_chooseForms_4 (by decide) ?_
  refine ab_putI X fp_PT_54 d_PT_chooseForms_5 (by first | assumption | decide | (show _ < 124; omega) | (show _ < 61; omega) | (show _ < 20; omega)) rfl rfl ?_
  refine ab_gen (fun u5 e5 => ?_)
  have P5 : cP [3, 4, 8, 9] u u5 := by rw [e5]; exact P0.rule0 (by decide)
  refine ab_aload_n X 0 d_PT_chooseForms_8 rfl rfl ?_
  refine ab_gR X fl_PT_24 d_PT_chooseForms_9 (by first | assumption | decide | (show _ < 124; omega) | (show _ < 61; omega) | (show _ < 20; omega)) (P5.1.pt2 (by first | assumption | decide | omega)) ?_
  refine ab_iconst (v := 0) X d_PT_chooseForms_12 (by decide) ?_
  refine ab_putI X fp_PT_54 d_PT_chooseForms_13 (by first | assumption | decide | (show _ < 124; omega) | (show _ < 61; omega) | (show _ < 20; omega)) rfl rfl ?_
  refine ab_gen (fun u13 e13 => ?_)
  have P13 : cP [3, 4, 8, 9] u u13 := by rw [e13]; exact P5.rule0 (by decide)
  refine ab_aload_n X 0 d_PT_chooseForms_16 rfl rfl ?_
  refine ab_gR X fl_PT_27 d_PT_chooseForms_17 (by first | assumption | decide | (show _ < 124; omega) | (show _ < 61; omega) | (show _ < 20; omega)) (P13.1.pt3 (by first | assumption | decide | omega)) ?_
  refine ab_iconst (v := 0) X d_PT_chooseForms_20 (by decide) ?_
  refine ab_putI X fp_PT_54 d_PT_chooseForms_21 (by first | assumption | decide | (show _ < 124; omega) | (show _ < 61; omega) | (show _ < 20; omega)) rfl rfl ?_
  refine ab_gen (fun u21 e21 => ?_)
  have P21 : cP [3, 4, 8, 9] u u21 := by rw [e21]; exact P13.rule0 (by decide)
  refine ab_aload_n X 0 d_PT_chooseForms_24 rfl rfl ?_
  refine ab_aload_n X 1 d_PT_chooseForms_25 rfl rfl ?_
  refine ab_callV (as := [ab_O 3 60]) X (fun h => by cases h) (s_PT_offerWaysOfB u21 p1 P21.1 hp) lk_PT_57 d_PT_chooseForms_26 rfl rfl (by first | assumption | decide | (show _ < 124; omega) | (show _ < 61; omega) | (show _ < 20; omega)) ⟨by first | exact Nat.le_of_ble_eq_true rfl | (simp only [ab_rm]; omega), by first | exact Nat.le_of_ble_eq_true rfl | (simp only [ab_rm]; omega)⟩ ⟨by first | exact Nat.le_of_ble_eq_true rfl | (simp only [ab_rm]; omega), by first | exact Nat.le_of_ble_eq_true rfl | (simp only [ab_rm]; omega)⟩ (Nat.le_of_ble_eq_true rfl) (fun u26 r26 h26 => ?_)
  obtain ⟨q26, rfl⟩ := h26
  have P26 := P21.trans q26 (by decide)
  refine ab_aload_n X 0 d_PT_chooseForms_29 rfl rfl ?_
  refine ab_aload_n X 0 d_PT_chooseForms_30 rfl rfl ?_
  refine ab_gR X fl_PT_20 d_PT_chooseForms_31 (by first | assumption | decide | (show _ < 124; omega) | (show _ < 61; omega) | (show _ < 20; omega)) (P26.1.pt1 (by first | assumption | decide | omega)) ?_
  refine ab_aload_n X 1 d_PT_chooseForms_34 rfl rfl ?_
  refine ab_callV (as := [ab_O 3 (3 * p1), ab_O 3 60]) X (fun h => by cases h) (s_PT_offerWaysOfD u26 p1 (3 * p1) P26.1 hp (by omega)) lk_PT_61 d_PT_chooseForms_35 rfl rfl (by first | assumption | decide | (show _ < 124; omega) | (show _ < 61; omega) | (show _ < 20; omega)) ⟨by first | exact Nat.le_of_ble_eq_true rfl | (simp only [ab_rm]; omega), by first | exact Nat.le_of_ble_eq_true rfl | (simp only [ab_rm]; omega)⟩ ⟨by first | exact Nat.le_of_ble_eq_true rfl | (simp only [ab_rm]; omega), by first | exact Nat.le_of_ble_eq_true rfl | (simp only [ab_rm]; omega)⟩ (Nat.le_of_ble_eq_true rfl) (fun u35 r35 h35 => ?_)
  obtain ⟨q35, rfl⟩ := h35
  have P35 := P26.trans q35 (by decide)
  refine ab_aload_n X 0 d_PT_chooseForms_38 rfl rfl ?_
  refine ab_aload_n X 0 d_PT_chooseForms_39 rfl rfl ?_
  refine ab_gR X fl_PT_24 d_PT_chooseForms_40 (by first | assumption | decide | (show _ < 124; omega) | (show _ < 61; omega) | (show _ < 20; omega)) (P35.1.pt2 (by first | assumption | decide | omega)) ?_
  refine ab_aload_n X 1 d_PT_chooseForms_43 rfl rfl ?_
  refine ab_callV (as := [ab_O 3 (3 * p1 + 1), ab_O 3 60]) X (fun h => by cases h) (s_PT_offerWaysOfD u35 p1 (3 * p1 + 1) P35.1 hp (by omega)) lk_PT_61 d_PT_chooseForms_44 rfl rfl (by first | assumption | decide | (show _ < 124; omega) | (show _ < 61; omega) | (show _ < 20; omega)) ⟨by first | exact Nat.le_of_ble_eq_true rfl | (simp only [ab_rm]; omega), by first | exact Nat.le_of_ble_eq_true rfl | (simp only [ab_rm]; omega)⟩ ⟨by first | exact Nat.le_of_ble_eq_true rfl | (simp only [ab_rm]; omega), by first | exact Nat.le_of_ble_eq_true rfl | (simp only [ab_rm]; omega)⟩ (Nat.le_of_ble_eq_true rfl) (fun u44 r44 h44 => ?_)
  obtain ⟨q44, rfl⟩ := h44
  have P44 := P35.trans q44 (by decide)
  refine ab_aload_n X 0 d_PT_chooseForms_47 rfl rfl ?_
  refine ab_gR X fl_PT_24 d_PT_chooseForms_48 (by first | assumption | decide | (show _ < 124; omega) | (show _ < 61; omega) | (show _ < 20; omega)) (P44.1.pt2 (by first | assumption | decide | omega)) ?_
  refine ab_aload_n X 1 d_PT_chooseForms_51 rfl rfl ?_
  refine ab_bipush (v := 6) X d_PT_chooseForms_52 (by decide) ?_
  refine ab_iconst (v := 0) X d_PT_chooseForms_54 (by decide) ?_
  refine ab_iconst (v := 1) X d_PT_chooseForms_55 (by decide) ?_
  refine ab_callV (as := [ab_I 6, ab_I 0, ab_I 1]) X (fun h => by cases h) (s_FM_start u44 60 6 0 1 (P44.ex 60).1 (by decide)) lk_PT_65 d_PT_chooseForms_56 rfl rfl (by first | assumption | decide | (show _ < 124; omega) | (show _ < 61; omega) | (show _ < 20; omega)) ⟨by first | exact Nat.le_of_ble_eq_true rfl | (simp only [ab_rm]; omega), by first | exact Nat.le_of_ble_eq_true rfl | (simp only [ab_rm]; omega)⟩ ⟨by first | exact Nat.le_of_ble_eq_true rfl | (simp only [ab_rm]; omega), by first | exact Nat.le_of_ble_eq_true rfl | (simp only [ab_rm]; omega)⟩ (Nat.le_of_ble_eq_true rfl) (fun u56 r56 h56 => ?_)
  obtain ⟨⟨q56, a1, a2, a3⟩, rfl⟩ := h56
  have P56 := P44.trans q56 (by decide)
  refine ab_aload_n X 0 d_PT_chooseForms_59 rfl rfl ?_
  refine ab_gR X fl_PT_20 d_PT_chooseForms_60 (by first | assumption | decide | (show _ < 124; omega) | (show _ < 61; omega) | (show _ < 20; omega)) (P56.1.pt1 (by first | assumption | decide | omega)) ?_
  refine ab_callV (as := [ab_O 3 (3 * p1)]) X (fun h => by cases h) (s_FM_with u56 60 (3 * p1) 0 P56.1 (by decide) (by omega) a3 (by decide)) lk_PT_69 d_PT_chooseForms_63 rfl rfl (by first | assumption | decide | (show _ < 124; omega) | (show _ < 61; omega) | (show _ < 20; omega)) ⟨by first | exact Nat.le_of_ble_eq_true rfl | (simp only [ab_rm]; omega), by first | exact Nat.le_of_ble_eq_true rfl | (simp only [ab_rm]; omega)⟩ ⟨by first | exact Nat.le_of_ble_eq_true rfl | (simp only [ab_rm]; omega), by first | exact Nat.le_of_ble_eq_true rfl | (simp only [ab_rm]; omega)⟩ (Nat.le_of_ble_eq_true rfl) (fun u63 r63 h63 => ?_)
  obtain ⟨⟨q63, b1, b2, b3⟩, rfl⟩ := h63
  have P63 := P56.trans q63 (by decide)
  have R66 := ci_done (q56.trans q63 (by decide)) (b2.trans a2) b3 (by decide) (ci_cl6 (by decide))
  refine ab_callV (as := [ab_O 3 60]) X (fun h => by cases h) (s_FM_offer u63 (3 * p1 + 1) 60 R66.1 (by omega) (by decide) (by omega)) lk_PT_73 d_PT_chooseForms_66 rfl rfl (by first | assumption | decide | (show _ < 124; omega) | (show _ < 61; omega) | (show _ < 20; omega)) ⟨by first | exact Nat.le_of_ble_eq_true rfl | (simp only [ab_rm]; omega), by first | exact Nat.le_of_ble_eq_true rfl | (simp only [ab_rm]; omega)⟩ ⟨by first | exact Nat.le_of_ble_eq_true rfl | (simp only [ab_rm]; omega), by first | exact Nat.le_of_ble_eq_true rfl | (simp only [ab_rm]; omega)⟩ (Nat.le_of_ble_eq_true rfl) (fun u66 r66 h66 => ?_)
  obtain ⟨q66, rfl⟩ := h66
  have P66 := P63.trans q66 (by decide)
  refine ab_aload_n X 0 d_PT_chooseForms_69 rfl rfl ?_
  refine ab_gR X fl_PT_24 d_PT_chooseForms_70 (by first | assumption | decide | (show _ < 124; omega) | (show _ < 61; omega) | (show _ < 20; omega)) (P66.1.pt2 (by first | assumption | decide | omega)) ?_
  refine ab_callV (as := []) X (fun h => by cases h) (s_FM_makeRefusal u66 (3 * p1 + 1) P66.1 (by omega)) lk_PT_76 d_PT_chooseForms_73 rfl rfl (by first | assumption | decide | (show _ < 124; omega) | (show _ < 61; omega) | (show _ < 20; omega)) ⟨by first | exact Nat.le_of_ble_eq_true rfl | (simp only [ab_rm]; omega), by first | exact Nat.le_of_ble_eq_true rfl | (simp only [ab_rm]; omega)⟩ ⟨by first | exact Nat.le_of_ble_eq_true rfl | (simp only [ab_rm]; omega), by first | exact Nat.le_of_ble_eq_true rfl | (simp only [ab_rm]; omega)⟩ (Nat.le_of_ble_eq_true rfl) (fun u73 r73 h73 => ?_)
  obtain ⟨q73, rfl⟩ := h73
  have P73 := P66.trans q73 (by decide)
  refine ab_aload_n X 0 d_PT_chooseForms_76 rfl rfl ?_
  refine ab_aload_n X 1 d_PT_chooseForms_77 rfl rfl ?_
  refine ab_callV (as := [ab_O 3 60]) X (fun h => by cases h) (s_PT_offerWaysOfV u73 p1 P73.1 hp) lk_PT_79 d_PT_chooseForms_78 rfl rfl (by first | assumption | decide | (show _ < 124; omega) | (show _ < 61; omega) | (show _ < 20; omega)) ⟨by first | exact Nat.le_of_ble_eq_true rfl | (simp only [ab_rm]; omega), by first | exact Nat.le_of_ble_eq_true rfl | (simp only [ab_rm]; omega)⟩ ⟨by first | exact Nat.le_of_ble_eq_true rfl | (simp only [ab_rm]; omega), by first | exact Nat.le_of_ble_eq_true rfl | (simp only [ab_rm]; omega)⟩ (Nat.le_of_ble_eq_true rfl) (fun u78 r78 h78 => ?_)
  obtain ⟨q78, rfl⟩ := h78
  have P78 := P73.trans q78 (by decide)
  exact ab_retv X hr0 hlk d_PT_chooseForms_81 ⟨P78, rfl⟩
end SaPart

