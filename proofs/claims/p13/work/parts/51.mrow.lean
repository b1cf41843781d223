/-! The reference's rows: every call comes to its end, lengths stay small. -/
/-- a length, or -1 for none -/
def bl (q : Nat) (x : Int32) : Prop := x = -1 ∨ ∃ b, b ≤ q ∧ x = nI b
theorem bl.mono {q r : Nat} {x : Int32} (h : bl q x) (hq : q ≤ r) : bl r x := h.imp id (fun ⟨b, h1, h2⟩ => ⟨b, by omega, h2⟩)
section SaMRow
variable {l : Launch} {D : va_G} {ca : Nat → ClassId}
abbrev b_MO_weightOf : ByteArray := prog_10_method_34_code
def y_MO_weightOf : MethodName := ⟨"PolicyForgeModel", "weightOf", "(I)I"⟩
theorem d_MO_weightOf_0 : decode b_MO_weightOf 0 = .ok (.iload_n 0, 1) := by decide +kernel
theorem d_MO_weightOf_1 : decode b_MO_weightOf 1 = .ok (.iconst 2, 1) := by decide +kernel
theorem d_MO_weightOf_2 : decode b_MO_weightOf 2 = .ok (.if_icmp .ge 7, 3) := by decide +kernel
theorem d_MO_weightOf_5 : decode b_MO_weightOf 5 = .ok (.iconst 1, 1) := by decide +kernel
theorem d_MO_weightOf_6 : decode b_MO_weightOf 6 = .ok (.goto 15, 3) := by decide +kernel
theorem d_MO_weightOf_9 : decode b_MO_weightOf 9 = .ok (.iload_n 0, 1) := by decide +kernel
theorem d_MO_weightOf_10 : decode b_MO_weightOf 10 = .ok (.bipush 20, 2) := by decide +kernel
theorem d_MO_weightOf_12 : decode b_MO_weightOf 12 = .ok (.if_icmp .ge 8, 3) := by decide +kernel
theorem d_MO_weightOf_15 : decode b_MO_weightOf 15 = .ok (.bipush 9, 2) := by decide +kernel
theorem d_MO_weightOf_17 : decode b_MO_weightOf 17 = .ok (.goto 4, 3) := by decide +kernel
theorem d_MO_weightOf_20 : decode b_MO_weightOf 20 = .ok (.iconst 5, 1) := by decide +kernel
theorem d_MO_weightOf_21 : decode b_MO_weightOf 21 = .ok (.ireturn, 1) := by decide +kernel
set_option maxRecDepth 100000 in
set_option maxHeartbeats 1000000 in
theorem t_MO_weightOf (u : ab_S) (x : Int32) : ab_C false l D ca y_MO_weightOf b_MO_weightOf 1 (some FieldType.int) 0 ab_nQ u [ab_I x] (fun u' v => u' = u ∧ ∃ x : Int32, v = some (ab_I x)) := by
  refine ab_C.of (by decide) (Nat.le_of_ble_eq_true rfl) ?_
  intro p e s m args below meth c ad X hZ hr0 hlk
  refine ab_iload_n X 0 d_MO_weightOf_0 rfl rfl ?_
  refine ab_iconst (v := 2) X d_MO_weightOf_1 (by decide) ?_
  refine ab_icmp_ge X 9 d_MO_weightOf_2 rfl (fun h2 => ?_) (fun h2 => ?_)
  ·
    refine ab_iload_n X 0 d_MO_weightOf_9 rfl rfl ?_
    refine ab_bipush (v := 20) X d_MO_weightOf_10 (by decide) ?_
    refine ab_icmp_ge X 20 d_MO_weightOf_12 rfl (fun h12 => ?_) (fun h12 => ?_)
    ·
      refine ab_iconst (v := 5) X d_MO_weightOf_20 (by decide) ?_
      exact ab_reti X hr0 hlk d_MO_weightOf_21 ⟨rfl, _, rfl⟩
    ·
      refine ab_bipush (v := 9) X d_MO_weightOf_15 (by decide) ?_
      refine ab_goto X 21 d_MO_weightOf_17 rfl ?_
      exact ab_reti X hr0 hlk d_MO_weightOf_21 ⟨rfl, _, rfl⟩
  ·
    refine ab_iconst (v := 1) X d_MO_weightOf_5 (by decide) ?_
    refine ab_goto X 21 d_MO_weightOf_6 rfl ?_
    exact ab_reti X hr0 hlk d_MO_weightOf_21 ⟨rfl, _, rfl⟩
abbrev b_MO_newRow : ByteArray := prog_10_method_35_code
def y_MO_newRow : MethodName := ⟨"PolicyForgeModel", "newRow", "()V"⟩
theorem d_MO_newRow_0 : decode b_MO_newRow 0 = .ok (.aload_n 0, 1) := by decide +kernel
theorem d_MO_newRow_1 : decode b_MO_newRow 1 = .ok (.iconst 0, 1) := by decide +kernel
theorem d_MO_newRow_2 : decode b_MO_newRow 2 = .ok (.putfield 90, 3) := by decide +kernel
theorem d_MO_newRow_5 : decode b_MO_newRow 5 = .ok (.aload_n 0, 1) := by decide +kernel
theorem d_MO_newRow_6 : decode b_MO_newRow 6 = .ok (.iconst 0, 1) := by decide +kernel
theorem d_MO_newRow_7 : decode b_MO_newRow 7 = .ok (.putfield 93, 3) := by decide +kernel
theorem d_MO_newRow_10 : decode b_MO_newRow 10 = .ok (.return_, 1) := by decide +kernel
set_option maxRecDepth 100000 in
set_option maxHeartbeats 1000000 in
theorem s_MO_newRow (u : ab_S) (h : mR u.2.1) : ab_C false l D ca y_MO_newRow b_MO_newRow 1 none 0 ab_nQ u [ab_O 17 0] (fun u' v => (gP [26, 27, 115] u u' ∧ u'.1 17 0 26 = nI 0) ∧ v = none) := by
  refine ab_C.of (by decide) (Nat.le_of_ble_eq_true rfl) ?_
  intro p e s m args below meth c ad X hZ hr0 hlk
  have P0 : gP [26, 27, 115] u u := gP.rf h
  refine ab_aload_n X 0 d_MO_newRow_0 rfl rfl ?_
  refine ab_iconst (v := 0) X d_MO_newRow_1 (by decide) ?_
  refine ab_putI X fp_MO_90 d_MO_newRow_2 (by first | assumption | decide | (show _ < 124; omega) | (show _ < 61; omega) | (show _ < 20; omega)) rfl rfl ?_
  refine ab_gen (fun u2 e2 => ?_)
  have P2 : gP [26, 27, 115] u u2 := by rw [e2]; exact P0.ui rfl (by decide)
  refine ab_aload_n X 0 d_MO_newRow_5 rfl rfl ?_
  refine ab_iconst (v := 0) X d_MO_newRow_6 (by decide) ?_
  refine ab_putI X fp_MO_93 d_MO_newRow_7 (by first | assumption | decide | (show _ < 124; omega) | (show _ < 61; omega) | (show _ < 20; omega)) rfl rfl ?_
  refine ab_gen (fun u7 e7 => ?_)
  have P7 : gP [26, 27, 115] u u7 := by rw [e7]; exact P2.ui rfl (by decide)
  exact ab_retv X hr0 hlk d_MO_newRow_10 ⟨⟨P7, by rw [e7, e2]; simp [ab_up]; rfl⟩, rfl⟩
abbrev b_MO_item1 : ByteArray := prog_10_method_36_code
def y_MO_item1 : MethodName := ⟨"PolicyForgeModel", "item1", "(I)V"⟩
theorem d_MO_item1_0 : decode b_MO_item1 0 = .ok (.aload_n 0, 1) := by decide +kernel
theorem d_MO_item1_1 : decode b_MO_item1 1 = .ok (.getfield 87, 3) := by decide +kernel
theorem d_MO_item1_4 : decode b_MO_item1 4 = .ok (.aload_n 0, 1) := by decide +kernel
theorem d_MO_item1_5 : decode b_MO_item1 5 = .ok (.getfield 90, 3) := by decide +kernel
theorem d_MO_item1_8 : decode b_MO_item1 8 = .ok (.iload_n 1, 1) := by decide +kernel
theorem d_MO_item1_9 : decode b_MO_item1 9 = .ok (.iastore, 1) := by decide +kernel
theorem d_MO_item1_10 : decode b_MO_item1 10 = .ok (.aload_n 0, 1) := by decide +kernel
theorem d_MO_item1_11 : decode b_MO_item1 11 = .ok (.dup, 1) := by decide +kernel
theorem d_MO_item1_12 : decode b_MO_item1 12 = .ok (.getfield 90, 3) := by decide +kernel
theorem d_MO_item1_15 : decode b_MO_item1 15 = .ok (.iconst 1, 1) := by decide +kernel
theorem d_MO_item1_16 : decode b_MO_item1 16 = .ok (.iadd, 1) := by decide +kernel
theorem d_MO_item1_17 : decode b_MO_item1 17 = .ok (.putfield 90, 3) := by decide +kernel
theorem d_MO_item1_20 : decode b_MO_item1 20 = .ok (.aload_n 0, 1) := by decide +kernel
theorem d_MO_item1_21 : decode b_MO_item1 21 = .ok (.dup, 1) := by decide +kernel
theorem d_MO_item1_22 : decode b_MO_item1 22 = .ok (.getfield 93, 3) := by decide +kernel
theorem d_MO_item1_25 : decode b_MO_item1 25 = .ok (.iload_n 1, 1) := by decide +kernel
theorem d_MO_item1_26 : decode b_MO_item1 26 = .ok (.invokestatic 260, 3) := by decide +kernel
theorem d_MO_item1_29 : decode b_MO_item1 29 = .ok (.iadd, 1) := by decide +kernel
theorem d_MO_item1_30 : decode b_MO_item1 30 = .ok (.putfield 93, 3) := by decide +kernel
theorem d_MO_item1_33 : decode b_MO_item1 33 = .ok (.return_, 1) := by decide +kernel
theorem fl_MO_87 : ab_fl "PolicyForgeModel" 87 17 25 1 := ⟨rfl, R_MO, T_MO, 44, rfl, uw_MO, by decide, rfl, (ab_in 951 (by decide +kernel) (by decide +kernel))⟩
theorem fl_MO_90 : ab_fl "PolicyForgeModel" 90 17 26 0 := ⟨rfl, R_MO, T_MO, 44, rfl, uw_MO, by decide, rfl, (ab_in 952 (by decide +kernel) (by decide +kernel))⟩
theorem fl_MO_93 : ab_fl "PolicyForgeModel" 93 17 27 0 := ⟨rfl, R_MO, T_MO, 44, rfl, uw_MO, by decide, rfl, (ab_in 953 (by decide +kernel) (by decide +kernel))⟩
theorem ls_MO_260 : ab_ls "PolicyForgeModel" 260 y_MO_weightOf b_MO_weightOf 1 (some FieldType.int) 1 := ⟨List.forall_mem_cons.mpr ⟨(ab_in 1237 (by decide +kernel) (by decide +kernel)), List.forall_mem_cons.mpr ⟨(ab_in 1238 (by decide +kernel) (by decide +kernel)), List.forall_mem_cons.mpr ⟨(ab_in 100 (by decide +kernel) (by decide +kernel)), List.forall_mem_cons.mpr ⟨(ab_in 1239 (by decide +kernel) (by decide +kernel)), fun _ h => absurd h List.not_mem_nil⟩⟩⟩⟩, ⟨by decide +kernel, by decide +kernel, by decide +kernel⟩, by decide⟩
set_option maxRecDepth 100000 in
set_option maxHeartbeats 1000000 in
theorem s_MO_item1 (u : ab_S) (x : Int32) (r : Nat) (h : mR u.2.1) (er : u.1 17 0 26 = nI r) (hr : r < 64) : ab_C false l D ca y_MO_item1 b_MO_item1 2 none 1 ab_nQ u [ab_O 17 0, ab_I x] (fun u' v => (gP [26, 27, 115] u u' ∧ u'.1 17 0 26 = nI (r + 1)) ∧ v = none) := by
  refine ab_C.of (by decide) (Nat.le_of_ble_eq_true rfl) ?_
  intro p e s m args below meth c ad X hZ hr0 hlk
  have P0 : gP [26, 27, 115] u u := gP.rf h
  refine ab_aload_n X 0 d_MO_item1_0 rfl rfl ?_
  refine ab_gR X fl_MO_87 d_MO_item1_1 (by first | assumption | decide | (show _ < 124; omega) | (show _ < 61; omega) | (show _ < 20; omega)) (P0.1.mo25) ?_
  refine ab_aload_n X 0 d_MO_item1_4 rfl rfl ?_
  refine ab_gI X fl_MO_90 d_MO_item1_5 (by first | assumption | decide | (show _ < 124; omega) | (show _ < 61; omega) | (show _ < 20; omega)) (er) ?_
  refine ab_iload_n X 1 d_MO_item1_8 rfl rfl ?_
  refine ab_iast X (r) ⟨rfl, rfl⟩ d_MO_item1_9 (by first | assumption | decide | (show _ < 124; omega) | (show _ < 61; omega) | (show _ < 20; omega)) (rfl) (show r < 64 by omega) (ab_ln_lt _ _) ?_
  refine ab_gen (fun u9 e9 => ?_)
  have P9 : gP [26, 27, 115] u u9 := by rw [e9]; exact P0.ui rfl (by decide)
  refine ab_aload_n X 0 d_MO_item1_10 rfl rfl ?_
  refine ab_dup X d_MO_item1_11 rfl ?_
  refine ab_gI X fl_MO_90 d_MO_item1_12 (by first | assumption | decide | (show _ < 124; omega) | (show _ < 61; omega) | (show _ < 20; omega)) ((show _ = nI r by rw [e9]; simpa [ab_up] using er)) ?_
  refine ab_iconst (v := 1) X d_MO_item1_15 (by decide) ?_
  refine ab_iadd X d_MO_item1_16 ?_
  refine ab_top (nI_1 _) ?_
  refine ab_putI X fp_MO_90 d_MO_item1_17 (by first | assumption | decide | (show _ < 124; omega) | (show _ < 61; omega) | (show _ < 20; omega)) rfl rfl ?_
  refine ab_gen (fun u17 e17 => ?_)
  have P17 : gP [26, 27, 115] u u17 := by rw [e17]; exact P9.ui rfl (by decide)
  refine ab_aload_n X 0 d_MO_item1_20 rfl rfl ?_
  refine ab_dup X d_MO_item1_21 rfl ?_
  refine ab_gI X fl_MO_93 d_MO_item1_22 (by first | assumption | decide | (show _ < 124; omega) | (show _ < 61; omega) | (show _ < 20; omega)) (rfl) ?_
  refine ab_iload_n X 1 d_MO_item1_25 rfl rfl ?_
  refine ab_callS (as := [ab_I x]) X (fun h => by cases h) (t_MO_weightOf u17 x) ls_MO_260 d_MO_item1_26 rfl rfl ⟨by first | exact Nat.le_of_ble_eq_true rfl | (simp only [ab_rm]; omega), by first | exact Nat.le_of_ble_eq_true rfl | (simp only [ab_rm]; omega)⟩ ⟨by first | exact Nat.le_of_ble_eq_true rfl | (simp only [ab_rm]; omega), by first | exact Nat.le_of_ble_eq_true rfl | (simp only [ab_rm]; omega)⟩ (Nat.le_of_ble_eq_true rfl) (fun u26 r26 h26 => ?_)
  obtain ⟨e26, x26, rfl⟩ := h26
  subst u26
  refine ab_iadd X d_MO_item1_29 ?_
  refine ab_putI X fp_MO_93 d_MO_item1_30 (by first | assumption | decide | (show _ < 124; omega) | (show _ < 61; omega) | (show _ < 20; omega)) rfl rfl ?_
  refine ab_gen (fun u30 e30 => ?_)
  have P30 : gP [26, 27, 115] u u30 := by rw [e30]; exact P17.ui rfl (by decide)
  exact ab_retv X hr0 hlk d_MO_item1_33 ⟨⟨P30, by rw [e30, e17]; simp [ab_up]⟩, rfl⟩
abbrev b_MO_no : ByteArray := prog_10_method_38_code
def y_MO_no : MethodName := ⟨"PolicyForgeModel", "no", "(I)V"⟩
theorem d_MO_no_0 : decode b_MO_no 0 = .ok (.iconst 0, 1) := by decide +kernel
theorem d_MO_no_1 : decode b_MO_no 1 = .ok (.istore_n 2, 1) := by decide +kernel
theorem d_MO_no_2 : decode b_MO_no 2 = .ok (.iload_n 2, 1) := by decide +kernel
theorem d_MO_no_3 : decode b_MO_no 3 = .ok (.aload_n 0, 1) := by decide +kernel
theorem d_MO_no_4 : decode b_MO_no 4 = .ok (.getfield 84, 3) := by decide +kernel
theorem d_MO_no_7 : decode b_MO_no 7 = .ok (.iload_n 1, 1) := by decide +kernel
theorem d_MO_no_8 : decode b_MO_no 8 = .ok (.iaload, 1) := by decide +kernel
theorem d_MO_no_9 : decode b_MO_no 9 = .ok (.if_icmp .ge 24, 3) := by decide +kernel
theorem d_MO_no_12 : decode b_MO_no 12 = .ok (.aload_n 0, 1) := by decide +kernel
theorem d_MO_no_13 : decode b_MO_no 13 = .ok (.aload_n 0, 1) := by decide +kernel
theorem d_MO_no_14 : decode b_MO_no 14 = .ok (.getfield 81, 3) := by decide +kernel
theorem d_MO_no_17 : decode b_MO_no 17 = .ok (.bipush 50, 2) := by decide +kernel
theorem d_MO_no_19 : decode b_MO_no 19 = .ok (.iload_n 1, 1) := by decide +kernel
theorem d_MO_no_20 : decode b_MO_no 20 = .ok (.imul, 1) := by decide +kernel
theorem d_MO_no_21 : decode b_MO_no 21 = .ok (.iload_n 2, 1) := by decide +kernel
theorem d_MO_no_22 : decode b_MO_no 22 = .ok (.iadd, 1) := by decide +kernel
theorem d_MO_no_23 : decode b_MO_no 23 = .ok (.iaload, 1) := by decide +kernel
theorem d_MO_no_24 : decode b_MO_no 24 = .ok (.invokevirtual 264, 3) := by decide +kernel
theorem d_MO_no_27 : decode b_MO_no 27 = .ok (.iinc 2 1, 3) := by decide +kernel
theorem d_MO_no_30 : decode b_MO_no 30 = .ok (.goto (-28), 3) := by decide +kernel
theorem d_MO_no_33 : decode b_MO_no 33 = .ok (.return_, 1) := by decide +kernel
theorem fl_MO_84 : ab_fl "PolicyForgeModel" 84 17 24 1 := ⟨rfl, R_MO, T_MO, 44, rfl, uw_MO, by decide, rfl, (ab_in 950 (by decide +kernel) (by decide +kernel))⟩
theorem fl_MO_81 : ab_fl "PolicyForgeModel" 81 17 23 1 := ⟨rfl, R_MO, T_MO, 44, rfl, uw_MO, by decide, rfl, (ab_in 949 (by decide +kernel) (by decide +kernel))⟩
theorem lk_MO_264 : ab_lk "PolicyForgeModel" 264 y_MO_item1 b_MO_item1 2 none 1 17 := ⟨⟨rfl, T_MO, 44, rfl⟩, List.forall_mem_cons.mpr ⟨(ab_in 1233 (by decide +kernel) (by decide +kernel)), List.forall_mem_cons.mpr ⟨(ab_in 1235 (by decide +kernel) (by decide +kernel)), List.forall_mem_cons.mpr ⟨(ab_in 75 (by decide +kernel) (by decide +kernel)), List.forall_mem_cons.mpr ⟨(ab_in 100 (by decide +kernel) (by decide +kernel)), List.forall_mem_cons.mpr ⟨(ab_in 1236 (by decide +kernel) (by decide +kernel)), fun _ h => absurd h List.not_mem_nil⟩⟩⟩⟩⟩, ⟨by decide +kernel, by decide +kernel, by decide +kernel⟩, by decide⟩
set_option maxRecDepth 100000 in
set_option maxHeartbeats 1000000 in
theorem s_MO_no (u : ab_S) (g mm r : Nat) (h : mR u.2.1) (hg : g < 24) (em : u.1 18 14 g = nI mm) (hm : mm ≤ 50) (er : u.1 17 0 26 = nI r) (hr : r + mm ≤ 64) : ab_C false l D ca y_MO_no b_MO_no 3 none 2 ab_nQ u [ab_O 17 0, ab_I (nI g)] (fun u' v => (gP [26, 27, 115] u u' ∧ u'.1 17 0 26 = nI (r + mm)) ∧ v = none) := by
  refine ab_C.of (by decide) (Nat.le_of_ble_eq_true rfl) ?_
  intro p e s m args below meth c ad X hZ hr0 hlk
  have P0 : gP [26, 27, 115] u u := gP.rf h
  have loop : ∀ (k j : Nat) (u1 : ab_S), k + j = mm → gP [26, 27, 115] u u1 → u1.1 17 0 26 = nI (r + j) → ab_J p l e (ab_rm 2 0 0) s m args below meth c (MQ below (ab_Q D ca ad ab_nQ s.heap.size (fun u' v => (gP [26, 27, 115] u u' ∧ u'.1 17 0 26 = nI (r + mm)) ∧ v = none)) args s 0 0 (ab_A ad ab_nQ s.heap.size)) D ca (ab_A ad ab_nQ s.heap.size) s.heap 3 0 0 ad ab_nQ u1 2 [(2, ab_I (nI j)), (0, ab_O 17 0), (1, ab_I (nI g))] [] := by
    intro k
    induction k with
    | zero =>
      intro j u1 hj P1 a1
      refine ab_iload_n X 0 d_MO_no_2 rfl rfl ?_
      refine ab_aload_n X 1 d_MO_no_3 rfl rfl ?_
      refine ab_gR X fl_MO_84 d_MO_no_4 (by first | assumption | decide | (show _ < 124; omega) | (show _ < 61; omega) | (show _ < 20; omega)) (P1.1.mo24) ?_
      refine ab_iload_n X 2 d_MO_no_7 rfl rfl ?_
      refine ab_iald X (g) ⟨rfl, rfl⟩ d_MO_no_8 (by first | assumption | decide | (show _ < 124; omega) | (show _ < 61; omega) | (show _ < 20; omega)) (rfl) (show g < 24 by omega) (ab_ln_lt _ _) ?_
      refine ab_top (P1.ai (by decide) em) ?_
      refine ab_icmp_ge X 33 d_MO_no_9 rfl (fun _ => ?_) (fun hb => absurd ((nI_le (by omega) (by omega))) hb)
      exact ab_retv X hr0 hlk d_MO_no_33 ⟨⟨P1, by rw [a1]; congr 1; omega⟩, rfl⟩
    | succ k ih =>
      intro j u1 hj P1 a1
      refine ab_iload_n X 0 d_MO_no_2 rfl rfl ?_
      refine ab_aload_n X 1 d_MO_no_3 rfl rfl ?_
      refine ab_gR X fl_MO_84 d_MO_no_4 (by first | assumption | decide | (show _ < 124; omega) | (show _ < 61; omega) | (show _ < 20; omega)) (P1.1.mo24) ?_
      refine ab_iload_n X 2 d_MO_no_7 rfl rfl ?_
      refine ab_iald X (g) ⟨rfl, rfl⟩ d_MO_no_8 (by first | assumption | decide | (show _ < 124; omega) | (show _ < 61; omega) | (show _ < 20; omega)) (rfl) (show g < 24 by omega) (ab_ln_lt _ _) ?_
      refine ab_top (P1.ai (by decide) em) ?_
      refine ab_icmp_ge X 33 d_MO_no_9 rfl (fun hb => absurd hb ((nI_ge (by omega) (by omega)))) (fun _ => ?_)
      refine ab_aload_n X 1 d_MO_no_12 rfl rfl ?_
      refine ab_aload_n X 1 d_MO_no_13 rfl rfl ?_
      refine ab_gR X fl_MO_81 d_MO_no_14 (by first | assumption | decide | (show _ < 124; omega) | (show _ < 61; omega) | (show _ < 20; omega)) (P1.1.mo23) ?_
      refine ab_bipush (v := 50) X d_MO_no_17 (by decide) ?_
      refine ab_iload_n X 2 d_MO_no_19 rfl rfl ?_
      refine ab_imul X d_MO_no_20 ?_
      refine ab_iload_n X 0 d_MO_no_21 rfl rfl ?_
      refine ab_iadd X d_MO_no_22 ?_
      refine ab_iald X (50 * g + j) ⟨rfl, rfl⟩ d_MO_no_23 (by first | assumption | decide | (show _ < 124; omega) | (show _ < 61; omega) | (show _ < 20; omega)) (nI_50a g j) (show 50 * g + j < 1200 by omega) (ab_ln_lt _ _) ?_
      refine ab_callV (as := [ab_I _]) X (fun h => by cases h) (s_MO_item1 u1 _ (r + j) P1.1 a1 (by omega)) lk_MO_264 d_MO_no_24 rfl rfl (by first | assumption | decide | (show _ < 124; omega) | (show _ < 61; omega) | (show _ < 20; omega)) ⟨by first | exact Nat.le_of_ble_eq_true rfl | (simp only [ab_rm]; omega), by first | exact Nat.le_of_ble_eq_true rfl | (simp only [ab_rm]; omega)⟩ ⟨by first | exact Nat.le_of_ble_eq_true rfl | (simp only [ab_rm]; omega), by first | exact Nat.le_of_ble_eq_true rfl | (simp only [ab_rm]; omega)⟩ (Nat.le_of_ble_eq_true rfl) (fun u24 r24 h24 => ?_)
      obtain ⟨⟨q24, b24⟩, rfl⟩ := h24
      have P24 := P1.trans q24 (by decide)
      refine ab_iinc2 X 0 1 2 d_MO_no_27 rfl (by decide) rfl rfl rfl rfl ?_
      refine ab_goto X 2 d_MO_no_30 rfl ?_
      rw [show nI j + Int32.ofInt 1 = nI (j + 1) from nI_1 j]
      exact ih (j + 1) _ (by omega) P24 b24
  refine ab_iconst (v := 0) X d_MO_no_0 (by decide) ?_
  refine ab_istore_n2 X 0 1 d_MO_no_1 rfl (by decide) rfl rfl rfl rfl ?_
  exact loop mm 0 _ (by omega) P0 er
abbrev b_MO_yes : ByteArray := prog_10_method_37_code
def y_MO_yes : MethodName := ⟨"PolicyForgeModel", "yes", "(I)V"⟩
theorem d_MO_yes_0 : decode b_MO_yes 0 = .ok (.aload_n 0, 1) := by decide +kernel
theorem d_MO_yes_1 : decode b_MO_yes 1 = .ok (.getfield 75, 3) := by decide +kernel
theorem d_MO_yes_4 : decode b_MO_yes 4 = .ok (.iload_n 1, 1) := by decide +kernel
theorem d_MO_yes_5 : decode b_MO_yes 5 = .ok (.iaload, 1) := by decide +kernel
theorem d_MO_yes_6 : decode b_MO_yes 6 = .ok (.ifCond .ge 15, 3) := by decide +kernel
theorem d_MO_yes_9 : decode b_MO_yes 9 = .ok (.aload_n 0, 1) := by decide +kernel
theorem d_MO_yes_10 : decode b_MO_yes 10 = .ok (.dup, 1) := by decide +kernel
theorem d_MO_yes_11 : decode b_MO_yes 11 = .ok (.getfield 93, 3) := by decide +kernel
theorem d_MO_yes_14 : decode b_MO_yes 14 = .ok (.ldc_w 263, 3) := by decide +kernel
theorem d_MO_yes_17 : decode b_MO_yes 17 = .ok (.iadd, 1) := by decide +kernel
theorem d_MO_yes_18 : decode b_MO_yes 18 = .ok (.putfield 93, 3) := by decide +kernel
theorem d_MO_yes_21 : decode b_MO_yes 21 = .ok (.iconst 0, 1) := by decide +kernel
theorem d_MO_yes_22 : decode b_MO_yes 22 = .ok (.istore_n 2, 1) := by decide +kernel
theorem d_MO_yes_23 : decode b_MO_yes 23 = .ok (.iload_n 2, 1) := by decide +kernel
theorem d_MO_yes_24 : decode b_MO_yes 24 = .ok (.aload_n 0, 1) := by decide +kernel
theorem d_MO_yes_25 : decode b_MO_yes 25 = .ok (.getfield 75, 3) := by decide +kernel
theorem d_MO_yes_28 : decode b_MO_yes 28 = .ok (.iload_n 1, 1) := by decide +kernel
theorem d_MO_yes_29 : decode b_MO_yes 29 = .ok (.iaload, 1) := by decide +kernel
theorem d_MO_yes_30 : decode b_MO_yes 30 = .ok (.if_icmp .ge 24, 3) := by decide +kernel
theorem d_MO_yes_33 : decode b_MO_yes 33 = .ok (.aload_n 0, 1) := by decide +kernel
theorem d_MO_yes_34 : decode b_MO_yes 34 = .ok (.aload_n 0, 1) := by decide +kernel
theorem d_MO_yes_35 : decode b_MO_yes 35 = .ok (.getfield 72, 3) := by decide +kernel
theorem d_MO_yes_38 : decode b_MO_yes 38 = .ok (.bipush 50, 2) := by decide +kernel
theorem d_MO_yes_40 : decode b_MO_yes 40 = .ok (.iload_n 1, 1) := by decide +kernel
theorem d_MO_yes_41 : decode b_MO_yes 41 = .ok (.imul, 1) := by decide +kernel
theorem d_MO_yes_42 : decode b_MO_yes 42 = .ok (.iload_n 2, 1) := by decide +kernel
theorem d_MO_yes_43 : decode b_MO_yes 43 = .ok (.iadd, 1) := by decide +kernel
theorem d_MO_yes_44 : decode b_MO_yes 44 = .ok (.iaload, 1) := by decide +kernel
theorem d_MO_yes_45 : decode b_MO_yes 45 = .ok (.invokevirtual 264, 3) := by decide +kernel
theorem d_MO_yes_48 : decode b_MO_yes 48 = .ok (.iinc 2 1, 3) := by decide +kernel
theorem d_MO_yes_51 : decode b_MO_yes 51 = .ok (.goto (-28), 3) := by decide +kernel
theorem d_MO_yes_54 : decode b_MO_yes 54 = .ok (.return_, 1) := by decide +kernel
set_option maxRecDepth 100000 in
set_option maxHeartbeats 1000000 in
theorem s_MO_yes (u : ab_S) (f q r : Nat) (h : mR u.2.1) (hf : f < 72) (em : bl q (u.1 18 11 f)) (hm : q ≤ 50) (er : u.1 17 0 26 = nI r) (hr : r + q ≤ 64) : ab_C false l D ca y_MO_yes b_MO_yes 3 none 2 ab_nQ u [ab_O 17 0, ab_I (nI f)] (fun u' v => (gP [26, 27, 115] u u' ∧ ∃ r', r' ≤ r + q ∧ u'.1 17 0 26 = nI r') ∧ v = none) := by
  refine ab_C.of (by decide) (Nat.le_of_ble_eq_true rfl) ?_
  intro p e s m args below meth c ad X hZ hr0 hlk
  have P0 : gP [26, 27, 115] u u := gP.rf h
  have loop : ∀ (k j : Nat) (u1 : ab_S), k + j = q → gP [26, 27, 115] u u1 → u1.1 17 0 26 = nI (r + j) → ab_J p l e (ab_rm 2 0 0) s m args below meth c (MQ below (ab_Q D ca ad ab_nQ s.heap.size (fun u' v => (gP [26, 27, 115] u u' ∧ ∃ r', r' ≤ r + q ∧ u'.1 17 0 26 = nI r') ∧ v = none)) args s 0 0 (ab_A ad ab_nQ s.heap.size)) D ca (ab_A ad ab_nQ s.heap.size) s.heap 3 0 0 ad ab_nQ u1 23 [(2, ab_I (nI j)), (0, ab_O 17 0), (1, ab_I (nI f))] [] := by
    intro k
    induction k with
    | zero =>
      intro j u1 hj P1 a1
      refine ab_iload_n X 0 d_MO_yes_23 rfl rfl ?_
      refine ab_aload_n X 1 d_MO_yes_24 rfl rfl ?_
      refine ab_gR X fl_MO_75 d_MO_yes_25 (by first | assumption | decide | (show _ < 124; omega) | (show _ < 61; omega) | (show _ < 20; omega)) (P1.1.mo21) ?_
      refine ab_iload_n X 2 d_MO_yes_28 rfl rfl ?_
      refine ab_iald X (f) ⟨rfl, rfl⟩ d_MO_yes_29 (by first | assumption | decide | (show _ < 124; omega) | (show _ < 61; omega) | (show _ < 20; omega)) (rfl) (show f < 72 by omega) (ab_ln_lt _ _) ?_
      refine ab_top (P1.ai (by decide) rfl) ?_
      refine ab_icmp_ge X 54 d_MO_yes_30 rfl (fun _ => ?_) (fun hb => absurd ((by
        rcases em with e | ⟨b, hb, e⟩
        · rw [e]; exact Int32.le_of_lt (Int32.lt_of_lt_of_le (by decide : (-1 : Int32) < 0) (nI_pos' (by omega)))
        · rw [e]; exact nI_le (by omega) (by omega))) hb)
      exact ab_retv X hr0 hlk d_MO_yes_54 ⟨⟨P1, r + j, by omega, a1⟩, rfl⟩
    | succ k ih =>
      intro j u1 hj P1 a1
      refine ab_iload_n X 0 d_MO_yes_23 rfl rfl ?_
      refine ab_aload_n X 1 d_MO_yes_24 rfl rfl ?_
      refine ab_gR X fl_MO_75 d_MO_yes_25 (by first | assumption | decide | (show _ < 124; omega) | (show _ < 61; omega) | (show _ < 20; omega)) (P1.1.mo21) ?_
      refine ab_iload_n X 2 d_MO_yes_28 rfl rfl ?_
      refine ab_iald X (f) ⟨rfl, rfl⟩ d_MO_yes_29 (by first | assumption | decide | (show _ < 124; omega) | (show _ < 61; omega) | (show _ < 20; omega)) (rfl) (show f < 72 by omega) (ab_ln_lt _ _) ?_
      refine ab_icmp_ge X 54 d_MO_yes_30 rfl (fun h30 => ?_) (fun h30 => ?_)
      ·
        exact ab_retv X hr0 hlk d_MO_yes_54 ⟨⟨P1, r + j, by omega, a1⟩, rfl⟩
      ·
        refine ab_aload_n X 1 d_MO_yes_33 rfl rfl ?_
        refine ab_aload_n X 1 d_MO_yes_34 rfl rfl ?_
        refine ab_gR X fl_MO_72 d_MO_yes_35 (by first | assumption | decide | (show _ < 124; omega) | (show _ < 61; omega) | (show _ < 20; omega)) (P1.1.mo20) ?_
        refine ab_bipush (v := 50) X d_MO_yes_38 (by decide) ?_
        refine ab_iload_n X 2 d_MO_yes_40 rfl rfl ?_
        refine ab_imul X d_MO_yes_41 ?_
        refine ab_iload_n X 0 d_MO_yes_42 rfl rfl ?_
        refine ab_iadd X d_MO_yes_43 ?_
        refine ab_iald X (50 * f + j) ⟨rfl, rfl⟩ d_MO_yes_44 (by first | assumption | decide | (show _ < 124; omega) | (show _ < 61; omega) | (show _ < 20; omega)) (nI_50a f j) (show 50 * f + j < 3600 by omega) (ab_ln_lt _ _) ?_
        refine ab_callV (as := [ab_I _]) X (fun h => by cases h) (s_MO_item1 u1 _ (r + j) P1.1 a1 (by omega)) lk_MO_264 d_MO_yes_45 rfl rfl (by first | assumption | decide | (show _ < 124; omega) | (show _ < 61; omega) | (show _ < 20; omega)) ⟨by first | exact Nat.le_of_ble_eq_true rfl | (simp only [ab_rm]; omega), by first | exact Nat.le_of_ble_eq_true rfl | (simp only [ab_rm]; omega)⟩ ⟨by first | exact Nat.le_of_ble_eq_true rfl | (simp only [ab_rm]; omega), by first | exact Nat.le_of_ble_eq_true rfl | (simp only [ab_rm]; omega)⟩ (Nat.le_of_ble_eq_true rfl) (fun u45 r45 h45 => ?_)
        obtain ⟨⟨q45, b45⟩, rfl⟩ := h45
        have P45 := P1.trans q45 (by decide)
        refine ab_iinc2 X 0 1 2 d_MO_yes_48 rfl (by decide) rfl rfl rfl rfl ?_
        refine ab_goto X 23 d_MO_yes_51 rfl ?_
        rw [show nI j + Int32.ofInt 1 = nI (j + 1) from nI_1 j]
        exact ih (j + 1) _ (by omega) P45 b45
  refine ab_aload_n X 0 d_MO_yes_0 rfl rfl ?_
  refine ab_gR X fl_MO_75 d_MO_yes_1 (by first | assumption | decide | (show _ < 124; omega) | (show _ < 61; omega) | (show _ < 20; omega)) (P0.1.mo21) ?_
  refine ab_iload_n X 1 d_MO_yes_4 rfl rfl ?_
  refine ab_iald X (f) ⟨rfl, rfl⟩ d_MO_yes_5 (by first | assumption | decide | (show _ < 124; omega) | (show _ < 61; omega) | (show _ < 20; omega)) (rfl) (show f < 72 by omega) (ab_ln_lt _ _) ?_
  refine ab_if_ge X 21 d_MO_yes_6 rfl (fun h6 => ?_) (fun h6 => ?_)
  ·
    refine ab_iconst (v := 0) X d_MO_yes_21 (by decide) ?_
    refine ab_istore_n2 X 0 1 d_MO_yes_22 rfl (by decide) rfl rfl rfl rfl ?_
    first | exact loop q 0 _ (by omega) P0 (by rw [e18]; simpa [ab_up] using er) | exact loop q 0 _ (by omega) P0 er
  ·
    refine ab_aload_n X 0 d_MO_yes_9 rfl rfl ?_
    refine ab_dup X d_MO_yes_10 rfl ?_
    refine ab_gI X fl_MO_93 d_MO_yes_11 (by first | assumption | decide | (show _ < 124; omega) | (show _ < 61; omega) | (show _ < 20; omega)) (rfl) ?_
    refine ab_ldcw X (v := 100000) (ab_in 1248 (by decide +kernel) (by decide +kernel)) d_MO_yes_14 ?_
    refine ab_iadd X d_MO_yes_17 ?_
    refine ab_putI X fp_MO_93 d_MO_yes_18 (by first | assumption | decide | (show _ < 124; omega) | (show _ < 61; omega) | (show _ < 20; omega)) rfl rfl ?_
    refine ab_gen (fun u18 e18 => ?_)
    have P18 : gP [26, 27, 115] u u18 := by rw [e18]; exact P0.ui rfl (by decide)
    refine ab_iconst (v := 0) X d_MO_yes_21 (by decide) ?_
    refine ab_istore_n2 X 0 1 d_MO_yes_22 rfl (by decide) rfl rfl rfl rfl ?_
    first | exact loop q 0 _ (by omega) P18 (by rw [e18]; simpa [ab_up] using er) | exact loop q 0 _ (by omega) P18 er
abbrev b_MO_offer : ByteArray := prog_10_method_39_code
def y_MO_offer : MethodName := ⟨"PolicyForgeModel", "offer", "()V"⟩
theorem d_MO_offer_0 : decode b_MO_offer 0 = .ok (.aload_n 0, 1) := by decide +kernel
theorem d_MO_offer_1 : decode b_MO_offer 1 = .ok (.getfield 93, 3) := by decide +kernel
theorem d_MO_offer_4 : decode b_MO_offer 4 = .ok (.ldc_w 263, 3) := by decide +kernel
theorem d_MO_offer_7 : decode b_MO_offer 7 = .ok (.if_icmp .lt 4, 3) := by decide +kernel
theorem d_MO_offer_10 : decode b_MO_offer 10 = .ok (.return_, 1) := by decide +kernel
theorem d_MO_offer_11 : decode b_MO_offer 11 = .ok (.aload_n 0, 1) := by decide +kernel
theorem d_MO_offer_12 : decode b_MO_offer 12 = .ok (.getfield 93, 3) := by decide +kernel
theorem d_MO_offer_15 : decode b_MO_offer 15 = .ok (.aload_n 0, 1) := by decide +kernel
theorem d_MO_offer_16 : decode b_MO_offer 16 = .ok (.getfield 102, 3) := by decide +kernel
theorem d_MO_offer_19 : decode b_MO_offer 19 = .ok (.if_icmp .ge 7, 3) := by decide +kernel
theorem d_MO_offer_22 : decode b_MO_offer 22 = .ok (.iconst 1, 1) := by decide +kernel
theorem d_MO_offer_23 : decode b_MO_offer 23 = .ok (.goto 4, 3) := by decide +kernel
theorem d_MO_offer_26 : decode b_MO_offer 26 = .ok (.iconst 0, 1) := by decide +kernel
theorem d_MO_offer_27 : decode b_MO_offer 27 = .ok (.istore_n 1, 1) := by decide +kernel
theorem d_MO_offer_28 : decode b_MO_offer 28 = .ok (.aload_n 0, 1) := by decide +kernel
theorem d_MO_offer_29 : decode b_MO_offer 29 = .ok (.getfield 93, 3) := by decide +kernel
theorem d_MO_offer_32 : decode b_MO_offer 32 = .ok (.aload_n 0, 1) := by decide +kernel
theorem d_MO_offer_33 : decode b_MO_offer 33 = .ok (.getfield 102, 3) := by decide +kernel
theorem d_MO_offer_36 : decode b_MO_offer 36 = .ok (.if_icmp .ne 79, 3) := by decide +kernel
theorem d_MO_offer_39 : decode b_MO_offer 39 = .ok (.iconst 0, 1) := by decide +kernel
theorem d_MO_offer_40 : decode b_MO_offer 40 = .ok (.istore_n 2, 1) := by decide +kernel
theorem d_MO_offer_41 : decode b_MO_offer 41 = .ok (.iload_n 2, 1) := by decide +kernel
theorem d_MO_offer_42 : decode b_MO_offer 42 = .ok (.aload_n 0, 1) := by decide +kernel
theorem d_MO_offer_43 : decode b_MO_offer 43 = .ok (.getfield 90, 3) := by decide +kernel
theorem d_MO_offer_46 : decode b_MO_offer 46 = .ok (.if_icmp .ge 32, 3) := by decide +kernel
theorem d_MO_offer_49 : decode b_MO_offer 49 = .ok (.iload_n 2, 1) := by decide +kernel
theorem d_MO_offer_50 : decode b_MO_offer 50 = .ok (.aload_n 0, 1) := by decide +kernel
theorem d_MO_offer_51 : decode b_MO_offer 51 = .ok (.getfield 99, 3) := by decide +kernel
theorem d_MO_offer_54 : decode b_MO_offer 54 = .ok (.if_icmp .ge 24, 3) := by decide +kernel
theorem d_MO_offer_57 : decode b_MO_offer 57 = .ok (.aload_n 0, 1) := by decide +kernel
theorem d_MO_offer_58 : decode b_MO_offer 58 = .ok (.getfield 87, 3) := by decide +kernel
theorem d_MO_offer_61 : decode b_MO_offer 61 = .ok (.iload_n 2, 1) := by decide +kernel
theorem d_MO_offer_62 : decode b_MO_offer 62 = .ok (.iaload, 1) := by decide +kernel
theorem d_MO_offer_63 : decode b_MO_offer 63 = .ok (.aload_n 0, 1) := by decide +kernel
theorem d_MO_offer_64 : decode b_MO_offer 64 = .ok (.getfield 96, 3) := by decide +kernel
theorem d_MO_offer_67 : decode b_MO_offer 67 = .ok (.iload_n 2, 1) := by decide +kernel
theorem d_MO_offer_68 : decode b_MO_offer 68 = .ok (.iaload, 1) := by decide +kernel
theorem d_MO_offer_69 : decode b_MO_offer 69 = .ok (.if_icmp .ne 9, 3) := by decide +kernel
theorem d_MO_offer_72 : decode b_MO_offer 72 = .ok (.iinc 2 1, 3) := by decide +kernel
theorem d_MO_offer_75 : decode b_MO_offer 75 = .ok (.goto (-34), 3) := by decide +kernel
theorem d_MO_offer_78 : decode b_MO_offer 78 = .ok (.iload_n 2, 1) := by decide +kernel
theorem d_MO_offer_79 : decode b_MO_offer 79 = .ok (.aload_n 0, 1) := by decide +kernel
theorem d_MO_offer_80 : decode b_MO_offer 80 = .ok (.getfield 99, 3) := by decide +kernel
theorem d_MO_offer_83 : decode b_MO_offer 83 = .ok (.if_icmp .ge 30, 3) := by decide +kernel
theorem d_MO_offer_86 : decode b_MO_offer 86 = .ok (.iload_n 2, 1) := by decide +kernel
theorem d_MO_offer_87 : decode b_MO_offer 87 = .ok (.aload_n 0, 1) := by decide +kernel
theorem d_MO_offer_88 : decode b_MO_offer 88 = .ok (.getfield 90, 3) := by decide +kernel
theorem d_MO_offer_91 : decode b_MO_offer 91 = .ok (.if_icmp .eq 18, 3) := by decide +kernel
theorem d_MO_offer_94 : decode b_MO_offer 94 = .ok (.aload_n 0, 1) := by decide +kernel
theorem d_MO_offer_95 : decode b_MO_offer 95 = .ok (.getfield 87, 3) := by decide +kernel
theorem d_MO_offer_98 : decode b_MO_offer 98 = .ok (.iload_n 2, 1) := by decide +kernel
theorem d_MO_offer_99 : decode b_MO_offer 99 = .ok (.iaload, 1) := by decide +kernel
theorem d_MO_offer_100 : decode b_MO_offer 100 = .ok (.aload_n 0, 1) := by decide +kernel
theorem d_MO_offer_101 : decode b_MO_offer 101 = .ok (.getfield 96, 3) := by decide +kernel
theorem d_MO_offer_104 : decode b_MO_offer 104 = .ok (.iload_n 2, 1) := by decide +kernel
theorem d_MO_offer_105 : decode b_MO_offer 105 = .ok (.iaload, 1) := by decide +kernel
theorem d_MO_offer_106 : decode b_MO_offer 106 = .ok (.if_icmp .ge 7, 3) := by decide +kernel
theorem d_MO_offer_109 : decode b_MO_offer 109 = .ok (.iconst 1, 1) := by decide +kernel
theorem d_MO_offer_110 : decode b_MO_offer 110 = .ok (.goto 4, 3) := by decide +kernel
theorem d_MO_offer_113 : decode b_MO_offer 113 = .ok (.iconst 0, 1) := by decide +kernel
theorem d_MO_offer_114 : decode b_MO_offer 114 = .ok (.istore_n 1, 1) := by decide +kernel
theorem d_MO_offer_115 : decode b_MO_offer 115 = .ok (.iload_n 1, 1) := by decide +kernel
theorem d_MO_offer_116 : decode b_MO_offer 116 = .ok (.ifCond .ne 4, 3) := by decide +kernel
theorem d_MO_offer_119 : decode b_MO_offer 119 = .ok (.return_, 1) := by decide +kernel
theorem d_MO_offer_120 : decode b_MO_offer 120 = .ok (.aload_n 0, 1) := by decide +kernel
theorem d_MO_offer_121 : decode b_MO_offer 121 = .ok (.aload_n 0, 1) := by decide +kernel
theorem d_MO_offer_122 : decode b_MO_offer 122 = .ok (.getfield 93, 3) := by decide +kernel
theorem d_MO_offer_125 : decode b_MO_offer 125 = .ok (.putfield 102, 3) := by decide +kernel
theorem d_MO_offer_128 : decode b_MO_offer 128 = .ok (.aload_n 0, 1) := by decide +kernel
theorem d_MO_offer_129 : decode b_MO_offer 129 = .ok (.aload_n 0, 1) := by decide +kernel
theorem d_MO_offer_130 : decode b_MO_offer 130 = .ok (.getfield 90, 3) := by decide +kernel
theorem d_MO_offer_133 : decode b_MO_offer 133 = .ok (.putfield 99, 3) := by decide +kernel
theorem d_MO_offer_136 : decode b_MO_offer 136 = .ok (.iconst 0, 1) := by decide +kernel
theorem d_MO_offer_137 : decode b_MO_offer 137 = .ok (.istore_n 2, 1) := by decide +kernel
theorem d_MO_offer_138 : decode b_MO_offer 138 = .ok (.iload_n 2, 1) := by decide +kernel
theorem d_MO_offer_139 : decode b_MO_offer 139 = .ok (.aload_n 0, 1) := by decide +kernel
theorem d_MO_offer_140 : decode b_MO_offer 140 = .ok (.getfield 90, 3) := by decide +kernel
theorem d_MO_offer_143 : decode b_MO_offer 143 = .ok (.if_icmp .ge 21, 3) := by decide +kernel
theorem d_MO_offer_146 : decode b_MO_offer 146 = .ok (.aload_n 0, 1) := by decide +kernel
theorem d_MO_offer_147 : decode b_MO_offer 147 = .ok (.getfield 96, 3) := by decide +kernel
theorem d_MO_offer_150 : decode b_MO_offer 150 = .ok (.iload_n 2, 1) := by decide +kernel
theorem d_MO_offer_151 : decode b_MO_offer 151 = .ok (.aload_n 0, 1) := by decide +kernel
theorem d_MO_offer_152 : decode b_MO_offer 152 = .ok (.getfield 87, 3) := by decide +kernel
theorem d_MO_offer_155 : decode b_MO_offer 155 = .ok (.iload_n 2, 1) := by decide +kernel
theorem d_MO_offer_156 : decode b_MO_offer 156 = .ok (.iaload, 1) := by decide +kernel
theorem d_MO_offer_157 : decode b_MO_offer 157 = .ok (.iastore, 1) := by decide +kernel
theorem d_MO_offer_158 : decode b_MO_offer 158 = .ok (.iinc 2 1, 3) := by decide +kernel
theorem d_MO_offer_161 : decode b_MO_offer 161 = .ok (.goto (-23), 3) := by decide +kernel
theorem d_MO_offer_164 : decode b_MO_offer 164 = .ok (.return_, 1) := by decide +kernel
theorem fl_MO_102 : ab_fl "PolicyForgeModel" 102 17 30 0 := ⟨rfl, R_MO, T_MO, 44, rfl, uw_MO, by decide, rfl, (ab_in 956 (by decide +kernel) (by decide +kernel))⟩
theorem fl_MO_99 : ab_fl "PolicyForgeModel" 99 17 29 0 := ⟨rfl, R_MO, T_MO, 44, rfl, uw_MO, by decide, rfl, (ab_in 955 (by decide +kernel) (by decide +kernel))⟩
theorem fl_MO_96 : ab_fl "PolicyForgeModel" 96 17 28 1 := ⟨rfl, R_MO, T_MO, 44, rfl, uw_MO, by decide, rfl, (ab_in 954 (by decide +kernel) (by decide +kernel))⟩
set_option maxRecDepth 100000 in
set_option maxHeartbeats 1000000 in
theorem s_MO_offer (u : ab_S) (q r : Nat) (h : mR u.2.1) (er : u.1 17 0 26 = nI r) (hr : r ≤ q) (hq : q ≤ 64) (eb : bl q (u.1 17 0 29)) : ab_C false l D ca y_MO_offer b_MO_offer 3 none 0 ab_nQ u [ab_O 17 0] (fun u' v => (gP [29, 30, 116] u u' ∧ bl q (u'.1 17 0 29)) ∧ v = none) := by
  refine ab_C.of (by decide) (Nat.le_of_ble_eq_true rfl) ?_
  intro p e s m args below meth c ad X hZ hr0 hlk
  have P0 : gP [29, 30, 116] u u := gP.rf h
  have copy : ∀ (k j : Nat) (u1 : ab_S) (y : Int32), k + j = r → gP [29, 30, 116] u u1 → bl q (u1.1 17 0 29) → ab_J p l e (ab_rm 0 0 0) s m args below meth c (MQ below (ab_Q D ca ad ab_nQ s.heap.size (fun u' v => (gP [29, 30, 116] u u' ∧ bl q (u'.1 17 0 29)) ∧ v = none)) args s 0 0 (ab_A ad ab_nQ s.heap.size)) D ca (ab_A ad ab_nQ s.heap.size) s.heap 3 0 0 ad ab_nQ u1 138 [(2, ab_I (nI j)), (1, ab_I y), (0, ab_O 17 0)] [] := by
    intro k
    induction k with
    | zero =>
      intro j u1 y hj P1 a1
      refine ab_iload_n X 0 d_MO_offer_138 rfl rfl ?_
      refine ab_aload_n X 2 d_MO_offer_139 rfl rfl ?_
      refine ab_gI X fl_MO_90 d_MO_offer_140 (by first | assumption | decide | (show _ < 124; omega) | (show _ < 61; omega) | (show _ < 20; omega)) (P1.fi (by decide) er) ?_
      refine ab_icmp_ge X 164 d_MO_offer_143 rfl (fun _ => ?_) (fun hb => absurd ((nI_le (by omega) (by omega))) hb)
      exact ab_retv X hr0 hlk d_MO_offer_164 ⟨⟨P1, a1⟩, rfl⟩
    | succ k ih =>
      intro j u1 y hj P1 a1
      refine ab_iload_n X 0 d_MO_offer_138 rfl rfl ?_
      refine ab_aload_n X 2 d_MO_offer_139 rfl rfl ?_
      refine ab_gI X fl_MO_90 d_MO_offer_140 (by first | assumption | decide | (show _ < 124; omega) | (show _ < 61; omega) | (show _ < 20; omega)) (P1.fi (by decide) er) ?_
      refine ab_icmp_ge X 164 d_MO_offer_143 rfl (fun hb => absurd hb ((nI_ge (by omega) (by omega)))) (fun _ => ?_)
      refine ab_aload_n X 2 d_MO_offer_146 rfl rfl ?_
      refine ab_gR X fl_MO_96 d_MO_offer_147 (by first | assumption | decide | (show _ < 124; omega) | (show _ < 61; omega) | (show _ < 20; omega)) (P1.1.mo28) ?_
      refine ab_iload_n X 0 d_MO_offer_150 rfl rfl ?_
      refine ab_aload_n X 2 d_MO_offer_151 rfl rfl ?_
      refine ab_gR X fl_MO_87 d_MO_offer_152 (by first | assumption | decide | (show _ < 124; omega) | (show _ < 61; omega) | (show _ < 20; omega)) (P1.1.mo25) ?_
      refine ab_iload_n X 0 d_MO_offer_155 rfl rfl ?_
      refine ab_iald X (j) ⟨rfl, rfl⟩ d_MO_offer_156 (by first | assumption | decide | (show _ < 124; omega) | (show _ < 61; omega) | (show _ < 20; omega)) (rfl) (show j < 64 by omega) (ab_ln_lt _ _) ?_
      refine ab_iast X (j) ⟨rfl, rfl⟩ d_MO_offer_157 (by first | assumption | decide | (show _ < 124; omega) | (show _ < 61; omega) | (show _ < 20; omega)) (rfl) (show j < 64 by omega) (ab_ln_lt _ _) ?_
      refine ab_gen (fun u157 e157 => ?_)
      have P157 : gP [29, 30, 116] u u157 := by rw [e157]; exact P1.ui rfl (by decide)
      refine ab_iinc2 X 0 1 2 d_MO_offer_158 rfl (by decide) rfl rfl rfl rfl ?_
      refine ab_goto X 138 d_MO_offer_161 rfl ?_
      rw [show nI j + Int32.ofInt 1 = nI (j + 1) from nI_1 j]
      exact ih (j + 1) _ _ (by omega) P157 (by rw [e157]; simpa [ab_up] using a1)
  have fin : ∀ (y z : Int32), ab_J p l e (ab_rm 0 0 0) s m args below meth c (MQ below (ab_Q D ca ad ab_nQ s.heap.size (fun u' v => (gP [29, 30, 116] u u' ∧ bl q (u'.1 17 0 29)) ∧ v = none)) args s 0 0 (ab_A ad ab_nQ s.heap.size)) D ca (ab_A ad ab_nQ s.heap.size) s.heap 3 0 0 ad ab_nQ u 115 [(1, ab_I y), (0, ab_O 17 0)] [] := by
    intro y z
    refine ab_iload_n X 0 d_MO_offer_115 rfl rfl ?_
    refine ab_if_ne X 120 d_MO_offer_116 rfl (fun h116 => ?_) (fun h116 => ?_)
    ·
      refine ab_aload_n X 1 d_MO_offer_120 rfl rfl ?_
      refine ab_aload_n X 1 d_MO_offer_121 rfl rfl ?_
      refine ab_gI X fl_MO_93 d_MO_offer_122 (by first | assumption | decide | (show _ < 124; omega) | (show _ < 61; omega) | (show _ < 20; omega)) (rfl) ?_
      refine ab_putI X fp_MO_102 d_MO_offer_125 (by first | assumption | decide | (show _ < 124; omega) | (show _ < 61; omega) | (show _ < 20; omega)) rfl rfl ?_
      refine ab_gen (fun u125 e125 => ?_)
      have P125 : gP [29, 30, 116] u u125 := by rw [e125]; exact P0.ui rfl (by decide)
      refine ab_aload_n X 1 d_MO_offer_128 rfl rfl ?_
      refine ab_aload_n X 1 d_MO_offer_129 rfl rfl ?_
      refine ab_gI X fl_MO_90 d_MO_offer_130 (by first | assumption | decide | (show _ < 124; omega) | (show _ < 61; omega) | (show _ < 20; omega)) (P125.fi (by decide) er) ?_
      refine ab_putI X fp_MO_99 d_MO_offer_133 (by first | assumption | decide | (show _ < 124; omega) | (show _ < 61; omega) | (show _ < 20; omega)) rfl rfl ?_
      refine ab_gen (fun u133 e133 => ?_)
      have P133 : gP [29, 30, 116] u u133 := by rw [e133]; exact P125.ui rfl (by decide)
      refine ab_iconst (v := 0) X d_MO_offer_136 (by decide) ?_
      refine ab_istore_n2 X 0 1 d_MO_offer_137 rfl (by decide) rfl rfl rfl rfl ?_
      exact copy r 0 _ _ (by omega) P133 (by rw [e133]; exact Or.inr ⟨r, hr, by simp [ab_up]⟩)
    ·
      exact ab_retv X hr0 hlk d_MO_offer_119 ⟨⟨P0, eb⟩, rfl⟩
  have cmp : ∀ (k j : Nat) (y : Int32), k + j = r → (j = 0 ∨ True) → ab_J p l e (ab_rm 0 0 0) s m args below meth c (MQ below (ab_Q D ca ad ab_nQ s.heap.size (fun u' v => (gP [29, 30, 116] u u' ∧ bl q (u'.1 17 0 29)) ∧ v = none)) args s 0 0 (ab_A ad ab_nQ s.heap.size)) D ca (ab_A ad ab_nQ s.heap.size) s.heap 3 0 0 ad ab_nQ u 41 [(2, ab_I (nI j)), (1, ab_I y), (0, ab_O 17 0)] [] := by
    intro k
    induction k with
    | zero =>
      intro j y hj _
      obtain rfl : j = r := by omega
      refine ab_iload_n X 0 d_MO_offer_41 rfl rfl ?_
      refine ab_aload_n X 2 d_MO_offer_42 rfl rfl ?_
      refine ab_gI X fl_MO_90 d_MO_offer_43 (by first | assumption | decide | (show _ < 124; omega) | (show _ < 61; omega) | (show _ < 20; omega)) (er) ?_
      refine ab_icmp_ge X 78 d_MO_offer_46 rfl (fun _ => ?_) (fun hb => absurd ((nI_le (by omega) (by omega))) hb)
      refine ab_iload_n X 0 d_MO_offer_78 rfl rfl ?_
      refine ab_aload_n X 2 d_MO_offer_79 rfl rfl ?_
      refine ab_gI X fl_MO_99 d_MO_offer_80 (by first | assumption | decide | (show _ < 124; omega) | (show _ < 61; omega) | (show _ < 20; omega)) (rfl) ?_
      refine ab_icmp_ge X 113 d_MO_offer_83 rfl (fun h83 => ?_) (fun h83 => ?_)
      ·
        refine ab_iconst (v := 0) X d_MO_offer_113 (by decide) ?_
        refine ab_istore_n2 X 0 2 d_MO_offer_114 rfl (by decide) rfl rfl rfl rfl ?_
        refine ab_lv (List.forall_mem_cons.mpr ⟨List.mem_of_getElem? (i := 0) rfl, List.forall_mem_cons.mpr ⟨List.mem_of_getElem? (i := 2) rfl, fun _ h => absurd h List.not_mem_nil⟩⟩) ?_
        exact fin _ 0
      ·
        refine ab_iload_n X 0 d_MO_offer_86 rfl rfl ?_
        refine ab_aload_n X 2 d_MO_offer_87 rfl rfl ?_
        refine ab_gI X fl_MO_90 d_MO_offer_88 (by first | assumption | decide | (show _ < 124; omega) | (show _ < 61; omega) | (show _ < 20; omega)) (er) ?_
        refine ab_icmp_eq X 109 d_MO_offer_91 rfl (fun _ => ?_) (fun hb => absurd (rfl) hb)
        refine ab_iconst (v := 1) X d_MO_offer_109 (by decide) ?_
        refine ab_goto X 114 d_MO_offer_110 rfl ?_
        refine ab_istore_n2 X 0 2 d_MO_offer_114 rfl (by decide) rfl rfl rfl rfl ?_
        refine ab_lv (List.forall_mem_cons.mpr ⟨List.mem_of_getElem? (i := 0) rfl, List.forall_mem_cons.mpr ⟨List.mem_of_getElem? (i := 2) rfl, fun _ h => absurd h List.not_mem_nil⟩⟩) ?_
        exact fin _ 0
    | succ k ih =>
      intro j y hj _
      refine ab_iload_n X 0 d_MO_offer_41 rfl rfl ?_
      refine ab_aload_n X 2 d_MO_offer_42 rfl rfl ?_
      refine ab_gI X fl_MO_90 d_MO_offer_43 (by first | assumption | decide | (show _ < 124; omega) | (show _ < 61; omega) | (show _ < 20; omega)) (er) ?_
      refine ab_icmp_ge X 78 d_MO_offer_46 rfl (fun hb => absurd hb ((nI_ge (by omega) (by omega)))) (fun _ => ?_)
      refine ab_iload_n X 0 d_MO_offer_49 rfl rfl ?_
      refine ab_aload_n X 2 d_MO_offer_50 rfl rfl ?_
      refine ab_gI X fl_MO_99 d_MO_offer_51 (by first | assumption | decide | (show _ < 124; omega) | (show _ < 61; omega) | (show _ < 20; omega)) (rfl) ?_
      refine ab_icmp_ge X 78 d_MO_offer_54 rfl (fun h54 => ?_) (fun h54 => ?_)
      ·
        refine ab_iload_n X 0 d_MO_offer_78 rfl rfl ?_
        refine ab_aload_n X 2 d_MO_offer_79 rfl rfl ?_
        refine ab_gI X fl_MO_99 d_MO_offer_80 (by first | assumption | decide | (show _ < 124; omega) | (show _ < 61; omega) | (show _ < 20; omega)) (rfl) ?_
        refine ab_icmp_ge X 113 d_MO_offer_83 rfl (fun h83 => ?_) (fun h83 => ?_)
        ·
          refine ab_iconst (v := 0) X d_MO_offer_113 (by decide) ?_
          refine ab_istore_n2 X 0 2 d_MO_offer_114 rfl (by decide) rfl rfl rfl rfl ?_
          refine ab_lv (List.forall_mem_cons.mpr ⟨List.mem_of_getElem? (i := 0) rfl, List.forall_mem_cons.mpr ⟨List.mem_of_getElem? (i := 2) rfl, fun _ h => absurd h List.not_mem_nil⟩⟩) ?_
          exact fin _ 0
        ·
          refine ab_iload_n X 0 d_MO_offer_86 rfl rfl ?_
          refine ab_aload_n X 2 d_MO_offer_87 rfl rfl ?_
          refine ab_gI X fl_MO_90 d_MO_offer_88 (by first | assumption | decide | (show _ < 124; omega) | (show _ < 61; omega) | (show _ < 20; omega)) (rfl) ?_
          refine ab_icmp_eq X 109 d_MO_offer_91 rfl (fun h91 => ?_) (fun h91 => ?_)
          ·
            refine ab_iconst (v := 1) X d_MO_offer_109 (by decide) ?_
            refine ab_goto X 114 d_MO_offer_110 rfl ?_
            refine ab_istore_n2 X 0 2 d_MO_offer_114 rfl (by decide) rfl rfl rfl rfl ?_
            refine ab_lv (List.forall_mem_cons.mpr ⟨List.mem_of_getElem? (i := 0) rfl, List.forall_mem_cons.mpr ⟨List.mem_of_getElem? (i := 2) rfl, fun _ h => absurd h List.not_mem_nil⟩⟩) ?_
            exact fin _ 0
          ·
            refine ab_aload_n X 2 d_MO_offer_94 rfl rfl ?_
            refine ab_gR X fl_MO_87 d_MO_offer_95 (by first | assumption | decide | (show _ < 124; omega) | (show _ < 61; omega) | (show _ < 20; omega)) (P0.1.mo25) ?_
            refine ab_iload_n X 0 d_MO_offer_98 rfl rfl ?_
            refine ab_iald X (j) ⟨rfl, rfl⟩ d_MO_offer_99 (by first | assumption | decide | (show _ < 124; omega) | (show _ < 61; omega) | (show _ < 20; omega)) (rfl) (show j < 64 by omega) (ab_ln_lt _ _) ?_
            refine ab_aload_n X 2 d_MO_offer_100 rfl rfl ?_
            refine ab_gR X fl_MO_96 d_MO_offer_101 (by first | assumption | decide | (show _ < 124; omega) | (show _ < 61; omega) | (show _ < 20; omega)) (P0.1.mo28) ?_
            refine ab_iload_n X 0 d_MO_offer_104 rfl rfl ?_
            refine ab_iald X (j) ⟨rfl, rfl⟩ d_MO_offer_105 (by first | assumption | decide | (show _ < 124; omega) | (show _ < 61; omega) | (show _ < 20; omega)) (rfl) (show j < 64 by omega) (ab_ln_lt _ _) ?_
            refine ab_icmp_ge X 113 d_MO_offer_106 rfl (fun h106 => ?_) (fun h106 => ?_)
            ·
              refine ab_iconst (v := 0) X d_MO_offer_113 (by decide) ?_
              refine ab_istore_n2 X 0 2 d_MO_offer_114 rfl (by decide) rfl rfl rfl rfl ?_
              refine ab_lv (List.forall_mem_cons.mpr ⟨List.mem_of_getElem? (i := 0) rfl, List.forall_mem_cons.mpr ⟨List.mem_of_getElem? (i := 2) rfl, fun _ h => absurd h List.not_mem_nil⟩⟩) ?_
              exact fin _ 0
            ·
              refine ab_iconst (v := 1) X d_MO_offer_109 (by decide) ?_
              refine ab_goto X 114 d_MO_offer_110 rfl ?_
              refine ab_istore_n2 X 0 2 d_MO_offer_114 rfl (by decide) rfl rfl rfl rfl ?_
              refine ab_lv (List.forall_mem_cons.mpr ⟨List.mem_of_getElem? (i := 0) rfl, List.forall_mem_cons.mpr ⟨List.mem_of_getElem? (i := 2) rfl, fun _ h => absurd h List.not_mem_nil⟩⟩) ?_
              exact fin _ 0
      ·
        refine ab_aload_n X 2 d_MO_offer_57 rfl rfl ?_
        refine ab_gR X fl_MO_87 d_MO_offer_58 (by first | assumption | decide | (show _ < 124; omega) | (show _ < 61; omega) | (show _ < 20; omega)) (P0.1.mo25) ?_
        refine ab_iload_n X 0 d_MO_offer_61 rfl rfl ?_
        refine ab_iald X (j) ⟨rfl, rfl⟩ d_MO_offer_62 (by first | assumption | decide | (show _ < 124; omega) | (show _ < 61; omega) | (show _ < 20; omega)) (rfl) (show j < 64 by omega) (ab_ln_lt _ _) ?_
        refine ab_aload_n X 2 d_MO_offer_63 rfl rfl ?_
        refine ab_gR X fl_MO_96 d_MO_offer_64 (by first | assumption | decide | (show _ < 124; omega) | (show _ < 61; omega) | (show _ < 20; omega)) (P0.1.mo28) ?_
        refine ab_iload_n X 0 d_MO_offer_67 rfl rfl ?_
        refine ab_iald X (j) ⟨rfl, rfl⟩ d_MO_offer_68 (by first | assumption | decide | (show _ < 124; omega) | (show _ < 61; omega) | (show _ < 20; omega)) (rfl) (show j < 64 by omega) (ab_ln_lt _ _) ?_
        refine ab_icmp_ne X 78 d_MO_offer_69 rfl (fun h69 => ?_) (fun h69 => ?_)
        ·
          refine ab_iload_n X 0 d_MO_offer_78 rfl rfl ?_
          refine ab_aload_n X 2 d_MO_offer_79 rfl rfl ?_
          refine ab_gI X fl_MO_99 d_MO_offer_80 (by first | assumption | decide | (show _ < 124; omega) | (show _ < 61; omega) | (show _ < 20; omega)) (rfl) ?_
          refine ab_icmp_ge X 113 d_MO_offer_83 rfl (fun h83 => ?_) (fun h83 => ?_)
          ·
            refine ab_iconst (v := 0) X d_MO_offer_113 (by decide) ?_
            refine ab_istore_n2 X 0 2 d_MO_offer_114 rfl (by decide) rfl rfl rfl rfl ?_
            refine ab_lv (List.forall_mem_cons.mpr ⟨List.mem_of_getElem? (i := 0) rfl, List.forall_mem_cons.mpr ⟨List.mem_of_getElem? (i := 2) rfl, fun _ h => absurd h List.not_mem_nil⟩⟩) ?_
            exact fin _ 0
          ·
            refine ab_iload_n X 0 d_MO_offer_86 rfl rfl ?_
            refine ab_aload_n X 2 d_MO_offer_87 rfl rfl ?_
            refine ab_gI X fl_MO_90 d_MO_offer_88 (by first | assumption | decide | (show _ < 124; omega) | (show _ < 61; omega) | (show _ < 20; omega)) (rfl) ?_
            refine ab_icmp_eq X 109 d_MO_offer_91 rfl (fun h91 => ?_) (fun h91 => ?_)
            ·
              refine ab_iconst (v := 1) X d_MO_offer_109 (by decide) ?_
              refine ab_goto X 114 d_MO_offer_110 rfl ?_
              refine ab_istore_n2 X 0 2 d_MO_offer_114 rfl (by decide) rfl rfl rfl rfl ?_
              refine ab_lv (List.forall_mem_cons.mpr ⟨List.mem_of_getElem? (i := 0) rfl, List.forall_mem_cons.mpr ⟨List.mem_of_getElem? (i := 2) rfl, fun _ h => absurd h List.not_mem_nil⟩⟩) ?_
              exact fin _ 0
            ·
              refine ab_aload_n X 2 d_MO_offer_94 rfl rfl ?_
              refine ab_gR X fl_MO_87 d_MO_offer_95 (by first | assumption | decide | (show _ < 124; omega) | (show _ < 61; omega) | (show _ < 20; omega)) (P0.1.mo25) ?_
              refine ab_iload_n X 0 d_MO_offer_98 rfl rfl ?_
              refine ab_iald X (j) ⟨rfl, rfl⟩ d_MO_offer_99 (by first | assumption | decide | (show _ < 124; omega) | (show _ < 61; omega) | (show _ < 20; omega)) (rfl) (show j < 64 by omega) (ab_ln_lt _ _) ?_
              refine ab_aload_n X 2 d_MO_offer_100 rfl rfl ?_
              refine ab_gR X fl_MO_96 d_MO_offer_101 (by first | assumption | decide | (show _ < 124; omega) | (show _ < 61; omega) | (show _ < 20; omega)) (P0.1.mo28) ?_
              refine ab_iload_n X 0 d_MO_offer_104 rfl rfl ?_
              refine ab_iald X (j) ⟨rfl, rfl⟩ d_MO_offer_105 (by first | assumption | decide | (show _ < 124; omega) | (show _ < 61; omega) | (show _ < 20; omega)) (rfl) (show j < 64 by omega) (ab_ln_lt _ _) ?_
              refine ab_icmp_ge X 113 d_MO_offer_106 rfl (fun h106 => ?_) (fun h106 => ?_)
              ·
                refine ab_iconst (v := 0) X d_MO_offer_113 (by decide) ?_
                refine ab_istore_n2 X 0 2 d_MO_offer_114 rfl (by decide) rfl rfl rfl rfl ?_
                refine ab_lv (List.forall_mem_cons.mpr ⟨List.mem_of_getElem? (i := 0) rfl, List.forall_mem_cons.mpr ⟨List.mem_of_getElem? (i := 2) rfl, fun _ h => absurd h List.not_mem_nil⟩⟩) ?_
                exact fin _ 0
              ·
                refine ab_iconst (v := 1) X d_MO_offer_109 (by decide) ?_
                refine ab_goto X 114 d_MO_offer_110 rfl ?_
                refine ab_istore_n2 X 0 2 d_MO_offer_114 rfl (by decide) rfl rfl rfl rfl ?_
                refine ab_lv (List.forall_mem_cons.mpr ⟨List.mem_of_getElem? (i := 0) rfl, List.forall_mem_cons.mpr ⟨List.mem_of_getElem? (i := 2) rfl, fun _ h => absurd h List.not_mem_nil⟩⟩) ?_
                exact fin _ 0
        ·
          refine ab_iinc2 X 0 1 2 d_MO_offer_72 rfl (by decide) rfl rfl rfl rfl ?_
          refine ab_goto X 41 d_MO_offer_75 rfl ?_
          rw [show nI j + Int32.ofInt 1 = nI (j + 1) from nI_1 j]
          exact ih (j + 1) _ (by omega) (Or.inr trivial)
  refine ab_aload_n X 0 d_MO_offer_0 rfl rfl ?_
  refine ab_gI X fl_MO_93 d_MO_offer_1 (by first | assumption | decide | (show _ < 124; omega) | (show _ < 61; omega) | (show _ < 20; omega)) (rfl) ?_
  refine ab_ldcw X (v := 100000) (ab_in 1248 (by decide +kernel) (by decide +kernel)) d_MO_offer_4 ?_
  refine ab_icmp_lt X 11 d_MO_offer_7 rfl (fun h7 => ?_) (fun h7 => ?_)
  ·
    refine ab_aload_n X 0 d_MO_offer_11 rfl rfl ?_
    refine ab_gI X fl_MO_93 d_MO_offer_12 (by first | assumption | decide | (show _ < 124; omega) | (show _ < 61; omega) | (show _ < 20; omega)) (rfl) ?_
    refine ab_aload_n X 0 d_MO_offer_15 rfl rfl ?_
    refine ab_gI X fl_MO_102 d_MO_offer_16 (by first | assumption | decide | (show _ < 124; omega) | (show _ < 61; omega) | (show _ < 20; omega)) (rfl) ?_
    refine ab_icmp_ge X 26 d_MO_offer_19 rfl (fun h19 => ?_) (fun h19 => ?_)
    ·
      refine ab_iconst (v := 0) X d_MO_offer_26 (by decide) ?_
      refine ab_istore_n1 X 0 d_MO_offer_27 rfl (by decide) rfl rfl ?_
      refine ab_aload_n X 1 d_MO_offer_28 rfl rfl ?_
      refine ab_gI X fl_MO_93 d_MO_offer_29 (by first | assumption | decide | (show _ < 124; omega) | (show _ < 61; omega) | (show _ < 20; omega)) (rfl) ?_
      refine ab_aload_n X 1 d_MO_offer_32 rfl rfl ?_
      refine ab_gI X fl_MO_102 d_MO_offer_33 (by first | assumption | decide | (show _ < 124; omega) | (show _ < 61; omega) | (show _ < 20; omega)) (rfl) ?_
      refine ab_icmp_ne X 115 d_MO_offer_36 rfl (fun h36 => ?_) (fun h36 => ?_)
      ·
        exact fin _ 0
      ·
        refine ab_iconst (v := 0) X d_MO_offer_39 (by decide) ?_
        refine ab_istore_n2 X 0 1 d_MO_offer_40 rfl (by decide) rfl rfl rfl rfl ?_
        exact cmp r 0 _ (by omega) (Or.inl rfl)
    ·
      refine ab_iconst (v := 1) X d_MO_offer_22 (by decide) ?_
      refine ab_goto X 27 d_MO_offer_23 rfl ?_
      refine ab_istore_n1 X 0 d_MO_offer_27 rfl (by decide) rfl rfl ?_
      refine ab_aload_n X 1 d_MO_offer_28 rfl rfl ?_
      refine ab_gI X fl_MO_93 d_MO_offer_29 (by first | assumption | decide | (show _ < 124; omega) | (show _ < 61; omega) | (show _ < 20; omega)) (rfl) ?_
      refine ab_aload_n X 1 d_MO_offer_32 rfl rfl ?_
      refine ab_gI X fl_MO_102 d_MO_offer_33 (by first | assumption | decide | (show _ < 124; omega) | (show _ < 61; omega) | (show _ < 20; omega)) (rfl) ?_
      refine ab_icmp_ne X 115 d_MO_offer_36 rfl (fun h36 => ?_) (fun h36 => ?_)
      ·
        exact fin _ 0
      ·
        refine ab_iconst (v := 0) X d_MO_offer_39 (by decide) ?_
        refine ab_istore_n2 X 0 1 d_MO_offer_40 rfl (by decide) rfl rfl rfl rfl ?_
        exact cmp r 0 _ (by omega) (Or.inl rfl)
  ·
    exact ab_retv X hr0 hlk d_MO_offer_10 ⟨⟨P0, eb⟩, rfl⟩
end SaMRow

