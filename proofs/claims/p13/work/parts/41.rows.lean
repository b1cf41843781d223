/-! Rows: every call comes to its end. -/
theorem nI_lt_of {a b : Nat} (h : ¬ nI b ≤ nI a) (ha : a < 2 ^ 31) : a < b := Nat.lt_of_not_le fun q => h (nI_le q ha)
theorem nI_le_of {a b : Nat} (h : nI b ≤ nI a) (hb : b < 2 ^ 31) : b ≤ a := Nat.le_of_not_lt fun q => nI_ge q hb h
section SaRow
variable {l : Launch} {D : va_G} {ca : Nat → ClassId}
theorem s_RW_start (u : ab_S) (r : Nat) (h : CI u) (hr : r < 124) : ab_C false l D ca y_RW_start b_RW_start 1 none 0 ab_nQ u [ab_O 4 r] (fun u' v => cP [4, 8] u u' ∧ v = none) := by
  have hr4 : r < ab_nQ 4 := hr
  refine ab_C_mono (c_RW_start u r hr4) ?_
  rintro u' v ⟨rfl, rfl⟩
  have P0 : cP [4, 8] u u := cQ.rf h
  exact ⟨((P0.row0 (by decide) (r := r)).ui rfl (by decide)).ui rfl (by decide), rfl⟩
set_option maxRecDepth 100000 in
set_option maxHeartbeats 1000000 in
theorem s_RW_add (u : ab_S) (r : Nat) (x : Int32) (h : CI u) (hr : r < 124) : ab_C false l D ca y_RW_add b_RW_add 2 none 1 ab_nQ u [ab_O 4 r, ab_I x] (fun u' v => cP [4, 8] u u' ∧ v = none) := by
  refine ab_C.of (by decide) (Nat.le_of_ble_eq_true rfl) ?_
  intro p e s m args below meth c ad X hZ hr0 hlk
  have P0 : cP [4, 8] u u := cQ.rf h
  obtain ⟨n, hn, en⟩ := h.row hr
  have l2 := ab_ln8b r
  refine ab_aload_n X 0 d_RW_add_0 rfl rfl ?_
  refine ab_gI X fl_RW_9 d_RW_add_1 (by first | assumption | decide | (show _ < 124; omega) | (show _ < 61; omega) | (show _ < 20; omega)) (en) ?_
  refine ab_aload_n X 0 d_RW_add_4 rfl rfl ?_
  refine ab_gR X fl_RW_22 d_RW_add_5 (by first | assumption | decide | (show _ < 124; omega) | (show _ < 61; omega) | (show _ < 20; omega)) (P0.1.rw (by first | assumption | decide | omega)) ?_
  refine ab_alen X ⟨by decide, _, fun _ => rfl⟩ d_RW_add_8 (by first | assumption | decide | (show _ < 124; omega) | (show _ < 61; omega) | (show _ < 20; omega)) (rfl) ?_
  refine ab_icmp_ge X 45 d_RW_add_9 rfl (fun h9 => ?_) (fun h9 => ?_)
  ·
    exact ab_retv X hr0 hlk d_RW_add_45 ⟨P0, rfl⟩
  ·
    have hc := nI_lt_of h9 (by omega)
    refine ab_aload_n X 0 d_RW_add_12 rfl rfl ?_
    refine ab_gR X fl_RW_22 d_RW_add_13 (by first | assumption | decide | (show _ < 124; omega) | (show _ < 61; omega) | (show _ < 20; omega)) (P0.1.rw (by first | assumption | decide | omega)) ?_
    refine ab_aload_n X 0 d_RW_add_16 rfl rfl ?_
    refine ab_gI X fl_RW_9 d_RW_add_17 (by first | assumption | decide | (show _ < 124; omega) | (show _ < 61; omega) | (show _ < 20; omega)) (en) ?_
    refine ab_iload_n X 1 d_RW_add_20 rfl rfl ?_
    refine ab_iast X (n) ⟨rfl, rfl⟩ d_RW_add_21 (by first | assumption | decide | (show _ < 124; omega) | (show _ < 61; omega) | (show _ < 20; omega)) (rfl) (hc) (ab_ln_lt _ _) ?_
    refine ab_gen (fun u21 e21 => ?_)
    have P21 : cP [4, 8] u u21 := by rw [e21]; exact P0.ui rfl (by decide)
    refine ab_aload_n X 0 d_RW_add_22 rfl rfl ?_
    refine ab_dup X d_RW_add_23 rfl ?_
    refine ab_gI X fl_RW_9 d_RW_add_24 (by first | assumption | decide | (show _ < 124; omega) | (show _ < 61; omega) | (show _ < 20; omega)) ((show _ = nI n by rw [e21]; simpa [ab_up] using en)) ?_
    refine ab_iconst (v := 1) X d_RW_add_27 (by decide) ?_
    refine ab_iadd X d_RW_add_28 ?_
    refine ab_top (nI_1 _) ?_
    refine ab_putI X fp_RW_9 d_RW_add_29 (by first | assumption | decide | (show _ < 124; omega) | (show _ < 61; omega) | (show _ < 20; omega)) rfl rfl ?_
    refine ab_gen (fun u29 e29 => ?_)
    have P29 : cP [4, 8] u u29 := by rw [e29]; exact P21.row (by decide) (by omega)
    refine ab_aload_n X 0 d_RW_add_32 rfl rfl ?_
    refine ab_dup X d_RW_add_33 rfl ?_
    refine ab_gI X fl_RW_15 d_RW_add_34 (by first | assumption | decide | (show _ < 124; omega) | (show _ < 61; omega) | (show _ < 20; omega)) (rfl) ?_
    refine ab_iload_n X 1 d_RW_add_37 rfl rfl ?_
    refine ab_callS (as := [ab_I x]) X (fun h => by cases h) (c_RW_weightOf (N := ab_nQ) u29 x) ls_RW_26 d_RW_add_38 rfl rfl ⟨by first | exact Nat.le_of_ble_eq_true rfl | (simp only [ab_rm]; omega), by first | exact Nat.le_of_ble_eq_true rfl | (simp only [ab_rm]; omega)⟩ ⟨by first | exact Nat.le_of_ble_eq_true rfl | (simp only [ab_rm]; omega), by first | exact Nat.le_of_ble_eq_true rfl | (simp only [ab_rm]; omega)⟩ (Nat.le_of_ble_eq_true rfl) (fun u38 r38 h38 => ?_)
    obtain ⟨e38, rfl⟩ := h38
    subst u38
    refine ab_iadd X d_RW_add_41 ?_
    refine ab_putI X fp_RW_15 d_RW_add_42 (by first | assumption | decide | (show _ < 124; omega) | (show _ < 61; omega) | (show _ < 20; omega)) rfl rfl ?_
    refine ab_gen (fun u42 e42 => ?_)
    have P42 : cP [4, 8] u u42 := by rw [e42]; exact P29.ui rfl (by decide)
    exact ab_retv X hr0 hlk d_RW_add_45 ⟨P42, rfl⟩
abbrev b_RW_join : ByteArray := prog_7_method_4_code
def y_RW_join : MethodName := ⟨"PolicyForge$Row", "join", "(LPolicyForge$Row;)V"⟩
theorem d_RW_join_0 : decode b_RW_join 0 = .ok (.aload_n 0, 1) := by decide +kernel
theorem d_RW_join_1 : decode b_RW_join 1 = .ok (.aload_n 0, 1) := by decide +kernel
theorem d_RW_join_2 : decode b_RW_join 2 = .ok (.getfield 18, 3) := by decide +kernel
theorem d_RW_join_5 : decode b_RW_join 5 = .ok (.ifCond .eq 14, 3) := by decide +kernel
theorem d_RW_join_8 : decode b_RW_join 8 = .ok (.aload_n 1, 1) := by decide +kernel
theorem d_RW_join_9 : decode b_RW_join 9 = .ok (.getfield 18, 3) := by decide +kernel
theorem d_RW_join_12 : decode b_RW_join 12 = .ok (.ifCond .eq 7, 3) := by decide +kernel
theorem d_RW_join_15 : decode b_RW_join 15 = .ok (.iconst 1, 1) := by decide +kernel
theorem d_RW_join_16 : decode b_RW_join 16 = .ok (.goto 4, 3) := by decide +kernel
theorem d_RW_join_19 : decode b_RW_join 19 = .ok (.iconst 0, 1) := by decide +kernel
theorem d_RW_join_20 : decode b_RW_join 20 = .ok (.putfield 18, 3) := by decide +kernel
theorem d_RW_join_23 : decode b_RW_join 23 = .ok (.aload_n 0, 1) := by decide +kernel
theorem d_RW_join_24 : decode b_RW_join 24 = .ok (.dup, 1) := by decide +kernel
theorem d_RW_join_25 : decode b_RW_join 25 = .ok (.getfield 15, 3) := by decide +kernel
theorem d_RW_join_28 : decode b_RW_join 28 = .ok (.aload_n 1, 1) := by decide +kernel
theorem d_RW_join_29 : decode b_RW_join 29 = .ok (.getfield 15, 3) := by decide +kernel
theorem d_RW_join_32 : decode b_RW_join 32 = .ok (.iadd, 1) := by decide +kernel
theorem d_RW_join_33 : decode b_RW_join 33 = .ok (.putfield 15, 3) := by decide +kernel
theorem d_RW_join_36 : decode b_RW_join 36 = .ok (.iconst 0, 1) := by decide +kernel
theorem d_RW_join_37 : decode b_RW_join 37 = .ok (.istore_n 2, 1) := by decide +kernel
theorem d_RW_join_38 : decode b_RW_join 38 = .ok (.iload_n 2, 1) := by decide +kernel
theorem d_RW_join_39 : decode b_RW_join 39 = .ok (.aload_n 1, 1) := by decide +kernel
theorem d_RW_join_40 : decode b_RW_join 40 = .ok (.getfield 9, 3) := by decide +kernel
theorem d_RW_join_43 : decode b_RW_join 43 = .ok (.if_icmp .ge 46, 3) := by decide +kernel
theorem d_RW_join_46 : decode b_RW_join 46 = .ok (.aload_n 0, 1) := by decide +kernel
theorem d_RW_join_47 : decode b_RW_join 47 = .ok (.getfield 9, 3) := by decide +kernel
theorem d_RW_join_50 : decode b_RW_join 50 = .ok (.aload_n 0, 1) := by decide +kernel
theorem d_RW_join_51 : decode b_RW_join 51 = .ok (.getfield 22, 3) := by decide +kernel
theorem d_RW_join_54 : decode b_RW_join 54 = .ok (.arraylength, 1) := by decide +kernel
theorem d_RW_join_55 : decode b_RW_join 55 = .ok (.if_icmp .ge 34, 3) := by decide +kernel
theorem d_RW_join_58 : decode b_RW_join 58 = .ok (.aload_n 0, 1) := by decide +kernel
theorem d_RW_join_59 : decode b_RW_join 59 = .ok (.getfield 22, 3) := by decide +kernel
theorem d_RW_join_62 : decode b_RW_join 62 = .ok (.aload_n 0, 1) := by decide +kernel
theorem d_RW_join_63 : decode b_RW_join 63 = .ok (.getfield 9, 3) := by decide +kernel
theorem d_RW_join_66 : decode b_RW_join 66 = .ok (.aload_n 1, 1) := by decide +kernel
theorem d_RW_join_67 : decode b_RW_join 67 = .ok (.getfield 22, 3) := by decide +kernel
theorem d_RW_join_70 : decode b_RW_join 70 = .ok (.iload_n 2, 1) := by decide +kernel
theorem d_RW_join_71 : decode b_RW_join 71 = .ok (.iaload, 1) := by decide +kernel
theorem d_RW_join_72 : decode b_RW_join 72 = .ok (.iastore, 1) := by decide +kernel
theorem d_RW_join_73 : decode b_RW_join 73 = .ok (.aload_n 0, 1) := by decide +kernel
theorem d_RW_join_74 : decode b_RW_join 74 = .ok (.dup, 1) := by decide +kernel
theorem d_RW_join_75 : decode b_RW_join 75 = .ok (.getfield 9, 3) := by decide +kernel
theorem d_RW_join_78 : decode b_RW_join 78 = .ok (.iconst 1, 1) := by decide +kernel
theorem d_RW_join_79 : decode b_RW_join 79 = .ok (.iadd, 1) := by decide +kernel
theorem d_RW_join_80 : decode b_RW_join 80 = .ok (.putfield 9, 3) := by decide +kernel
theorem d_RW_join_83 : decode b_RW_join 83 = .ok (.iinc 2 1, 3) := by decide +kernel
theorem d_RW_join_86 : decode b_RW_join 86 = .ok (.goto (-48), 3) := by decide +kernel
theorem d_RW_join_89 : decode b_RW_join 89 = .ok (.return_, 1) := by decide +kernel
theorem fl_RW_18 : ab_fl "PolicyForge$Row" 18 4 3 0 := ⟨rfl, R_RW, T_RW, 4, rfl, uw_RW, by decide, rfl, (ab_in 159 (by decide +kernel) (by decide +kernel))⟩
set_option maxRecDepth 100000 in
set_option maxHeartbeats 1000000 in
theorem s_RW_join (u : ab_S) (r o : Nat) (h : CI u) (hr : r < 124) (ho : o < 124) : ab_C false l D ca y_RW_join b_RW_join 3 none 1 ab_nQ u [ab_O 4 r, ab_O 4 o] (fun u' v => cP [4, 8] u u' ∧ v = none) := by
  refine ab_C.of (by decide) (Nat.le_of_ble_eq_true rfl) ?_
  intro p e s m args below meth c ad X hZ hr0 hlk
  have P0 : cP [4, 8] u u := cQ.rf h
  have l1 := ab_ln8b o
  have l2 := ab_ln8b r
  have loop : ∀ (k j : Nat) (u1 : ab_S), k + j = 41 → cP [4, 8] u u1 → ab_J p l e (ab_rm 1 0 0) s m args below meth c (MQ below (ab_Q D ca ad ab_nQ s.heap.size (fun u' v => cP [4, 8] u u' ∧ v = none)) args s 0 0 (ab_A ad ab_nQ s.heap.size)) D ca (ab_A ad ab_nQ s.heap.size) s.heap 3 0 0 ad ab_nQ u1 38 [(2, ab_I (nI j)), (0, ab_O 4 r), (1, ab_O 4 o)] [] := by
    intro k
    induction k with
    | zero =>
      intro j u1 hj P1
      obtain ⟨co, hco, eo⟩ := P1.1.row ho
      refine ab_iload_n X 0 d_RW_join_38 rfl rfl ?_
      refine ab_aload_n X 2 d_RW_join_39 rfl rfl ?_
      refine ab_gI X fl_RW_9 d_RW_join_40 (by first | assumption | decide | (show _ < 124; omega) | (show _ < 61; omega) | (show _ < 20; omega)) (eo) ?_
      refine ab_icmp_ge X 89 d_RW_join_43 rfl (fun _ => ?_) (fun hb => absurd ((nI_le (by omega) (by omega))) hb)
      exact ab_retv X hr0 hlk d_RW_join_89 ⟨P1, rfl⟩
    | succ k ih =>
      intro j u1 hj P1
      obtain ⟨co, hco, eo⟩ := P1.1.row ho
      obtain ⟨cr, hcr, er⟩ := P1.1.row hr
      refine ab_iload_n X 0 d_RW_join_38 rfl rfl ?_
      refine ab_aload_n X 2 d_RW_join_39 rfl rfl ?_
      refine ab_gI X fl_RW_9 d_RW_join_40 (by first | assumption | decide | (show _ < 124; omega) | (show _ < 61; omega) | (show _ < 20; omega)) (eo) ?_
      refine ab_icmp_ge X 89 d_RW_join_43 rfl (fun h43 => ?_) (fun h43 => ?_)
      ·
        exact ab_retv X hr0 hlk d_RW_join_89 ⟨P1, rfl⟩
      ·
        have h1 := nI_lt_of h43 (by omega)
        refine ab_aload_n X 1 d_RW_join_46 rfl rfl ?_
        refine ab_gI X fl_RW_9 d_RW_join_47 (by first | assumption | decide | (show _ < 124; omega) | (show _ < 61; omega) | (show _ < 20; omega)) (er) ?_
        refine ab_aload_n X 1 d_RW_join_50 rfl rfl ?_
        refine ab_gR X fl_RW_22 d_RW_join_51 (by first | assumption | decide | (show _ < 124; omega) | (show _ < 61; omega) | (show _ < 20; omega)) (P1.1.rw (by first | assumption | decide | omega)) ?_
        refine ab_alen X ⟨by decide, _, fun _ => rfl⟩ d_RW_join_54 (by first | assumption | decide | (show _ < 124; omega) | (show _ < 61; omega) | (show _ < 20; omega)) (rfl) ?_
        refine ab_icmp_ge X 89 d_RW_join_55 rfl (fun h55 => ?_) (fun h55 => ?_)
        ·
          exact ab_retv X hr0 hlk d_RW_join_89 ⟨P1, rfl⟩
        ·
          have h2 := nI_lt_of h55 (by omega)
          refine ab_aload_n X 1 d_RW_join_58 rfl rfl ?_
          refine ab_gR X fl_RW_22 d_RW_join_59 (by first | assumption | decide | (show _ < 124; omega) | (show _ < 61; omega) | (show _ < 20; omega)) (P1.1.rw (by first | assumption | decide | omega)) ?_
          refine ab_aload_n X 1 d_RW_join_62 rfl rfl ?_
          refine ab_gI X fl_RW_9 d_RW_join_63 (by first | assumption | decide | (show _ < 124; omega) | (show _ < 61; omega) | (show _ < 20; omega)) (er) ?_
          refine ab_aload_n X 2 d_RW_join_66 rfl rfl ?_
          refine ab_gR X fl_RW_22 d_RW_join_67 (by first | assumption | decide | (show _ < 124; omega) | (show _ < 61; omega) | (show _ < 20; omega)) (P1.1.rw (by first | assumption | decide | omega)) ?_
          refine ab_iload_n X 0 d_RW_join_70 rfl rfl ?_
          refine ab_iald X (j) ⟨rfl, rfl⟩ d_RW_join_71 (by first | assumption | decide | (show _ < 124; omega) | (show _ < 61; omega) | (show _ < 20; omega)) (rfl) (by omega) (ab_ln_lt _ _) ?_
          refine ab_iast X (cr) ⟨rfl, rfl⟩ d_RW_join_72 (by first | assumption | decide | (show _ < 124; omega) | (show _ < 61; omega) | (show _ < 20; omega)) (rfl) (by omega) (ab_ln_lt _ _) ?_
          refine ab_gen (fun u72 e72 => ?_)
          have P72 : cP [4, 8] u u72 := by rw [e72]; exact P1.ui rfl (by decide)
          refine ab_aload_n X 1 d_RW_join_73 rfl rfl ?_
          refine ab_dup X d_RW_join_74 rfl ?_
          refine ab_gI X fl_RW_9 d_RW_join_75 (by first | assumption | decide | (show _ < 124; omega) | (show _ < 61; omega) | (show _ < 20; omega)) ((show _ = nI cr by rw [e72]; simpa [ab_up] using er)) ?_
          refine ab_iconst (v := 1) X d_RW_join_78 (by decide) ?_
          refine ab_iadd X d_RW_join_79 ?_
          refine ab_top (nI_1 _) ?_
          refine ab_putI X fp_RW_9 d_RW_join_80 (by first | assumption | decide | (show _ < 124; omega) | (show _ < 61; omega) | (show _ < 20; omega)) rfl rfl ?_
          refine ab_gen (fun u80 e80 => ?_)
          have P80 : cP [4, 8] u u80 := by rw [e80]; exact P72.row (by decide) (by omega)
          refine ab_iinc2 X 0 1 2 d_RW_join_83 rfl (by decide) rfl rfl rfl rfl ?_
          refine ab_goto X 38 d_RW_join_86 rfl ?_
          rw [show nI j + Int32.ofInt 1 = nI (j + 1) from nI_1 j]
          exact ih (j + 1) _ (by omega) P80
  refine ab_aload_n X 0 d_RW_join_0 rfl rfl ?_
  refine ab_aload_n X 0 d_RW_join_1 rfl rfl ?_
  refine ab_gI X fl_RW_18 d_RW_join_2 (by first | assumption | decide | (show _ < 124; omega) | (show _ < 61; omega) | (show _ < 20; omega)) (rfl) ?_
  refine ab_if_eq X 19 d_RW_join_5 rfl (fun h5 => ?_) (fun h5 => ?_)
  ·
    refine ab_iconst (v := 0) X d_RW_join_19 (by decide) ?_
    refine ab_putI X fp_RW_18 d_RW_join_20 (by first | assumption | decide | (show _ < 124; omega) | (show _ < 61; omega) | (show _ < 20; omega)) rfl rfl ?_
    refine ab_gen (fun u20 e20 => ?_)
    have P20 : cP [4, 8] u u20 := by rw [e20]; exact P0.ui rfl (by decide)
    refine ab_aload_n X 0 d_RW_join_23 rfl rfl ?_
    refine ab_dup X d_RW_join_24 rfl ?_
    refine ab_gI X fl_RW_15 d_RW_join_25 (by first | assumption | decide | (show _ < 124; omega) | (show _ < 61; omega) | (show _ < 20; omega)) (rfl) ?_
    refine ab_aload_n X 1 d_RW_join_28 rfl rfl ?_
    refine ab_gI X fl_RW_15 d_RW_join_29 (by first | assumption | decide | (show _ < 124; omega) | (show _ < 61; omega) | (show _ < 20; omega)) (rfl) ?_
    refine ab_iadd X d_RW_join_32 ?_
    refine ab_putI X fp_RW_15 d_RW_join_33 (by first | assumption | decide | (show _ < 124; omega) | (show _ < 61; omega) | (show _ < 20; omega)) rfl rfl ?_
    refine ab_gen (fun u33 e33 => ?_)
    have P33 : cP [4, 8] u u33 := by rw [e33]; exact P20.ui rfl (by decide)
    refine ab_iconst (v := 0) X d_RW_join_36 (by decide) ?_
    refine ab_istore_n2 X 0 1 d_RW_join_37 rfl (by decide) rfl rfl rfl rfl ?_
    exact loop 41 0 _ rfl P33
  ·
    refine ab_aload_n X 1 d_RW_join_8 rfl rfl ?_
    refine ab_gI X fl_RW_18 d_RW_join_9 (by first | assumption | decide | (show _ < 124; omega) | (show _ < 61; omega) | (show _ < 20; omega)) (rfl) ?_
    refine ab_if_eq X 19 d_RW_join_12 rfl (fun h12 => ?_) (fun h12 => ?_)
    ·
      refine ab_iconst (v := 0) X d_RW_join_19 (by decide) ?_
      refine ab_putI X fp_RW_18 d_RW_join_20 (by first | assumption | decide | (show _ < 124; omega) | (show _ < 61; omega) | (show _ < 20; omega)) rfl rfl ?_
      refine ab_gen (fun u20 e20 => ?_)
      have P20 : cP [4, 8] u u20 := by rw [e20]; exact P0.ui rfl (by decide)
      refine ab_aload_n X 0 d_RW_join_23 rfl rfl ?_
      refine ab_dup X d_RW_join_24 rfl ?_
      refine ab_gI X fl_RW_15 d_RW_join_25 (by first | assumption | decide | (show _ < 124; omega) | (show _ < 61; omega) | (show _ < 20; omega)) (rfl) ?_
      refine ab_aload_n X 1 d_RW_join_28 rfl rfl ?_
      refine ab_gI X fl_RW_15 d_RW_join_29 (by first | assumption | decide | (show _ < 124; omega) | (show _ < 61; omega) | (show _ < 20; omega)) (rfl) ?_
      refine ab_iadd X d_RW_join_32 ?_
      refine ab_putI X fp_RW_15 d_RW_join_33 (by first | assumption | decide | (show _ < 124; omega) | (show _ < 61; omega) | (show _ < 20; omega)) rfl rfl ?_
      refine ab_gen (fun u33 e33 => ?_)
      have P33 : cP [4, 8] u u33 := by rw [e33]; exact P20.ui rfl (by decide)
      refine ab_iconst (v := 0) X d_RW_join_36 (by decide) ?_
      refine ab_istore_n2 X 0 1 d_RW_join_37 rfl (by decide) rfl rfl rfl rfl ?_
      exact loop 41 0 _ rfl P33
    ·
      refine ab_iconst (v := 1) X d_RW_join_15 (by decide) ?_
      refine ab_goto X 20 d_RW_join_16 rfl ?_
      refine ab_putI X fp_RW_18 d_RW_join_20 (by first | assumption | decide | (show _ < 124; omega) | (show _ < 61; omega) | (show _ < 20; omega)) rfl rfl ?_
      refine ab_gen (fun u20 e20 => ?_)
      have P20 : cP [4, 8] u u20 := by rw [e20]; exact P0.ui rfl (by decide)
      refine ab_aload_n X 0 d_RW_join_23 rfl rfl ?_
      refine ab_dup X d_RW_join_24 rfl ?_
      refine ab_gI X fl_RW_15 d_RW_join_25 (by first | assumption | decide | (show _ < 124; omega) | (show _ < 61; omega) | (show _ < 20; omega)) (rfl) ?_
      refine ab_aload_n X 1 d_RW_join_28 rfl rfl ?_
      refine ab_gI X fl_RW_15 d_RW_join_29 (by first | assumption | decide | (show _ < 124; omega) | (show _ < 61; omega) | (show _ < 20; omega)) (rfl) ?_
      refine ab_iadd X d_RW_join_32 ?_
      refine ab_putI X fp_RW_15 d_RW_join_33 (by first | assumption | decide | (show _ < 124; omega) | (show _ < 61; omega) | (show _ < 20; omega)) rfl rfl ?_
      refine ab_gen (fun u33 e33 => ?_)
      have P33 : cP [4, 8] u u33 := by rw [e33]; exact P20.ui rfl (by decide)
      refine ab_iconst (v := 0) X d_RW_join_36 (by decide) ?_
      refine ab_istore_n2 X 0 1 d_RW_join_37 rfl (by decide) rfl rfl rfl rfl ?_
      exact loop 41 0 _ rfl P33
theorem d_RW_become_0 : decode b_RW_become 0 = .ok (.aload_n 0, 1) := by decide +kernel
theorem d_RW_become_1 : decode b_RW_become 1 = .ok (.invokevirtual 30, 3) := by decide +kernel
theorem d_RW_become_4 : decode b_RW_become 4 = .ok (.aload_n 0, 1) := by decide +kernel
theorem d_RW_become_5 : decode b_RW_become 5 = .ok (.aload_n 1, 1) := by decide +kernel
theorem d_RW_become_6 : decode b_RW_become 6 = .ok (.invokevirtual 33, 3) := by decide +kernel
theorem d_RW_become_9 : decode b_RW_become 9 = .ok (.return_, 1) := by decide +kernel
theorem lk_RW_30 : ab_lk "PolicyForge$Row" 30 y_RW_start b_RW_start 1 none 0 4 := ⟨⟨rfl, T_RW, 4, rfl⟩, List.forall_mem_cons.mpr ⟨(ab_in 811 (by decide +kernel) (by decide +kernel)), List.forall_mem_cons.mpr ⟨(ab_in 352 (by decide +kernel) (by decide +kernel)), List.forall_mem_cons.mpr ⟨(ab_in 353 (by decide +kernel) (by decide +kernel)), List.forall_mem_cons.mpr ⟨(ab_in 96 (by decide +kernel) (by decide +kernel)), List.forall_mem_cons.mpr ⟨(ab_in 354 (by decide +kernel) (by decide +kernel)), fun _ h => absurd h List.not_mem_nil⟩⟩⟩⟩⟩, ⟨by decide +kernel, by decide +kernel, by decide +kernel⟩, by decide⟩
theorem lk_RW_33 : ab_lk "PolicyForge$Row" 33 y_RW_join b_RW_join 3 none 1 4 := ⟨⟨rfl, T_RW, 4, rfl⟩, List.forall_mem_cons.mpr ⟨(ab_in 812 (by decide +kernel) (by decide +kernel)), List.forall_mem_cons.mpr ⟨(ab_in 674 (by decide +kernel) (by decide +kernel)), List.forall_mem_cons.mpr ⟨(ab_in 675 (by decide +kernel) (by decide +kernel)), List.forall_mem_cons.mpr ⟨(ab_in 96 (by decide +kernel) (by decide +kernel)), List.forall_mem_cons.mpr ⟨(ab_in 676 (by decide +kernel) (by decide +kernel)), fun _ h => absurd h List.not_mem_nil⟩⟩⟩⟩⟩, ⟨by decide +kernel, by decide +kernel, by decide +kernel⟩, by decide⟩
set_option maxRecDepth 100000 in
set_option maxHeartbeats 1000000 in
theorem s_RW_become (u : ab_S) (r o : Nat) (h : CI u) (hr : r < 124) (ho : o < 124) : ab_C false l D ca y_RW_become b_RW_become 2 none 2 ab_nQ u [ab_O 4 r, ab_O 4 o] (fun u' v => cP [4, 8] u u' ∧ v = none) := by
  refine ab_C.of (by decide) (Nat.le_of_ble_eq_true rfl) ?_
  intro p e s m args below meth c ad X hZ hr0 hlk
  have P0 : cP [4, 8] u u := cQ.rf h
  refine ab_aload_n X 0 d_RW_become_0 rfl rfl ?_
  refine ab_callV (as := []) X (fun h => by cases h) (s_RW_start u r h hr) lk_RW_30 d_RW_become_1 rfl rfl (by first | assumption | decide | (show _ < 124; omega) | (show _ < 61; omega) | (show _ < 20; omega)) ⟨by first | exact Nat.le_of_ble_eq_true rfl | (simp only [ab_rm]; omega), by first | exact Nat.le_of_ble_eq_true rfl | (simp only [ab_rm]; omega)⟩ ⟨by first | exact Nat.le_of_ble_eq_true rfl | (simp only [ab_rm]; omega), by first | exact Nat.le_of_ble_eq_true rfl | (simp only [ab_rm]; omega)⟩ (Nat.le_of_ble_eq_true rfl) (fun u1 r1 h1 => ?_)
  obtain ⟨q1, rfl⟩ := h1
  have P1 := P0.trans q1 (by decide)
  refine ab_aload_n X 0 d_RW_become_4 rfl rfl ?_
  refine ab_aload_n X 1 d_RW_become_5 rfl rfl ?_
  refine ab_callV (as := [ab_O 4 o]) X (fun h => by cases h) (s_RW_join u1 r o P1.1 hr ho) lk_RW_33 d_RW_become_6 rfl rfl (by first | assumption | decide | (show _ < 124; omega) | (show _ < 61; omega) | (show _ < 20; omega)) ⟨by first | exact Nat.le_of_ble_eq_true rfl | (simp only [ab_rm]; omega), by first | exact Nat.le_of_ble_eq_true rfl | (simp only [ab_rm]; omega)⟩ ⟨by first | exact Nat.le_of_ble_eq_true rfl | (simp only [ab_rm]; omega), by first | exact Nat.le_of_ble_eq_true rfl | (simp only [ab_rm]; omega)⟩ (Nat.le_of_ble_eq_true rfl) (fun u6 r6 h6 => ?_)
  obtain ⟨q6, rfl⟩ := h6
  have P6 := P1.trans q6 (by decide)
  exact ab_retv X hr0 hlk d_RW_become_9 ⟨P6, rfl⟩
abbrev b_RW_isLesser : ByteArray := prog_7_method_7_code
def y_RW_isLesser : MethodName := ⟨"PolicyForge$Row", "isLesser", "(LPolicyForge$Row;)Z"⟩
theorem d_RW_isLesser_0 : decode b_RW_isLesser 0 = .ok (.aload_n 0, 1) := by decide +kernel
theorem d_RW_isLesser_1 : decode b_RW_isLesser 1 = .ok (.getfield 15, 3) := by decide +kernel
theorem d_RW_isLesser_4 : decode b_RW_isLesser 4 = .ok (.aload_n 1, 1) := by decide +kernel
theorem d_RW_isLesser_5 : decode b_RW_isLesser 5 = .ok (.getfield 15, 3) := by decide +kernel
theorem d_RW_isLesser_8 : decode b_RW_isLesser 8 = .ok (.if_icmp .eq 20, 3) := by decide +kernel
theorem d_RW_isLesser_11 : decode b_RW_isLesser 11 = .ok (.aload_n 0, 1) := by decide +kernel
theorem d_RW_isLesser_12 : decode b_RW_isLesser 12 = .ok (.getfield 15, 3) := by decide +kernel
theorem d_RW_isLesser_15 : decode b_RW_isLesser 15 = .ok (.aload_n 1, 1) := by decide +kernel
theorem d_RW_isLesser_16 : decode b_RW_isLesser 16 = .ok (.getfield 15, 3) := by decide +kernel
theorem d_RW_isLesser_19 : decode b_RW_isLesser 19 = .ok (.if_icmp .ge 7, 3) := by decide +kernel
theorem d_RW_isLesser_22 : decode b_RW_isLesser 22 = .ok (.iconst 1, 1) := by decide +kernel
theorem d_RW_isLesser_23 : decode b_RW_isLesser 23 = .ok (.goto 4, 3) := by decide +kernel
theorem d_RW_isLesser_26 : decode b_RW_isLesser 26 = .ok (.iconst 0, 1) := by decide +kernel
theorem d_RW_isLesser_27 : decode b_RW_isLesser 27 = .ok (.ireturn, 1) := by decide +kernel
theorem d_RW_isLesser_28 : decode b_RW_isLesser 28 = .ok (.iconst 0, 1) := by decide +kernel
theorem d_RW_isLesser_29 : decode b_RW_isLesser 29 = .ok (.istore_n 2, 1) := by decide +kernel
theorem d_RW_isLesser_30 : decode b_RW_isLesser 30 = .ok (.iload_n 2, 1) := by decide +kernel
theorem d_RW_isLesser_31 : decode b_RW_isLesser 31 = .ok (.aload_n 0, 1) := by decide +kernel
theorem d_RW_isLesser_32 : decode b_RW_isLesser 32 = .ok (.getfield 9, 3) := by decide +kernel
theorem d_RW_isLesser_35 : decode b_RW_isLesser 35 = .ok (.if_icmp .ge 53, 3) := by decide +kernel
theorem d_RW_isLesser_38 : decode b_RW_isLesser 38 = .ok (.iload_n 2, 1) := by decide +kernel
theorem d_RW_isLesser_39 : decode b_RW_isLesser 39 = .ok (.aload_n 1, 1) := by decide +kernel
theorem d_RW_isLesser_40 : decode b_RW_isLesser 40 = .ok (.getfield 9, 3) := by decide +kernel
theorem d_RW_isLesser_43 : decode b_RW_isLesser 43 = .ok (.if_icmp .ge 45, 3) := by decide +kernel
theorem d_RW_isLesser_46 : decode b_RW_isLesser 46 = .ok (.aload_n 0, 1) := by decide +kernel
theorem d_RW_isLesser_47 : decode b_RW_isLesser 47 = .ok (.getfield 22, 3) := by decide +kernel
theorem d_RW_isLesser_50 : decode b_RW_isLesser 50 = .ok (.iload_n 2, 1) := by decide +kernel
theorem d_RW_isLesser_51 : decode b_RW_isLesser 51 = .ok (.iaload, 1) := by decide +kernel
theorem d_RW_isLesser_52 : decode b_RW_isLesser 52 = .ok (.aload_n 1, 1) := by decide +kernel
theorem d_RW_isLesser_53 : decode b_RW_isLesser 53 = .ok (.getfield 22, 3) := by decide +kernel
theorem d_RW_isLesser_56 : decode b_RW_isLesser 56 = .ok (.iload_n 2, 1) := by decide +kernel
theorem d_RW_isLesser_57 : decode b_RW_isLesser 57 = .ok (.iaload, 1) := by decide +kernel
theorem d_RW_isLesser_58 : decode b_RW_isLesser 58 = .ok (.if_icmp .eq 24, 3) := by decide +kernel
theorem d_RW_isLesser_61 : decode b_RW_isLesser 61 = .ok (.aload_n 0, 1) := by decide +kernel
theorem d_RW_isLesser_62 : decode b_RW_isLesser 62 = .ok (.getfield 22, 3) := by decide +kernel
theorem d_RW_isLesser_65 : decode b_RW_isLesser 65 = .ok (.iload_n 2, 1) := by decide +kernel
theorem d_RW_isLesser_66 : decode b_RW_isLesser 66 = .ok (.iaload, 1) := by decide +kernel
theorem d_RW_isLesser_67 : decode b_RW_isLesser 67 = .ok (.aload_n 1, 1) := by decide +kernel
theorem d_RW_isLesser_68 : decode b_RW_isLesser 68 = .ok (.getfield 22, 3) := by decide +kernel
theorem d_RW_isLesser_71 : decode b_RW_isLesser 71 = .ok (.iload_n 2, 1) := by decide +kernel
theorem d_RW_isLesser_72 : decode b_RW_isLesser 72 = .ok (.iaload, 1) := by decide +kernel
theorem d_RW_isLesser_73 : decode b_RW_isLesser 73 = .ok (.if_icmp .ge 7, 3) := by decide +kernel
theorem d_RW_isLesser_76 : decode b_RW_isLesser 76 = .ok (.iconst 1, 1) := by decide +kernel
theorem d_RW_isLesser_77 : decode b_RW_isLesser 77 = .ok (.goto 4, 3) := by decide +kernel
theorem d_RW_isLesser_80 : decode b_RW_isLesser 80 = .ok (.iconst 0, 1) := by decide +kernel
theorem d_RW_isLesser_81 : decode b_RW_isLesser 81 = .ok (.ireturn, 1) := by decide +kernel
theorem d_RW_isLesser_82 : decode b_RW_isLesser 82 = .ok (.iinc 2 1, 3) := by decide +kernel
theorem d_RW_isLesser_85 : decode b_RW_isLesser 85 = .ok (.goto (-55), 3) := by decide +kernel
theorem d_RW_isLesser_88 : decode b_RW_isLesser 88 = .ok (.aload_n 0, 1) := by decide +kernel
theorem d_RW_isLesser_89 : decode b_RW_isLesser 89 = .ok (.getfield 9, 3) := by decide +kernel
theorem d_RW_isLesser_92 : decode b_RW_isLesser 92 = .ok (.aload_n 1, 1) := by decide +kernel
theorem d_RW_isLesser_93 : decode b_RW_isLesser 93 = .ok (.getfield 9, 3) := by decide +kernel
theorem d_RW_isLesser_96 : decode b_RW_isLesser 96 = .ok (.if_icmp .ge 7, 3) := by decide +kernel
theorem d_RW_isLesser_99 : decode b_RW_isLesser 99 = .ok (.iconst 1, 1) := by decide +kernel
theorem d_RW_isLesser_100 : decode b_RW_isLesser 100 = .ok (.goto 4, 3) := by decide +kernel
theorem d_RW_isLesser_103 : decode b_RW_isLesser 103 = .ok (.iconst 0, 1) := by decide +kernel
theorem d_RW_isLesser_104 : decode b_RW_isLesser 104 = .ok (.ireturn, 1) := by decide +kernel
set_option maxRecDepth 100000 in
set_option maxHeartbeats 1000000 in
theorem t_RW_isLesser (u : ab_S) (r o : Nat) (h : CI u) (hr : r < 124) (ho : o < 124) : ab_C false l D ca y_RW_isLesser b_RW_isLesser 3 (some FieldType.boolean) 0 ab_nQ u [ab_O 4 r, ab_O 4 o] (fun u' v => u' = u ∧ ∃ b : Int32, (b = 0 ∨ b = 1) ∧ v = some (ab_I b)) := by
  refine ab_C.of (by decide) (Nat.le_of_ble_eq_true rfl) ?_
  intro p e s m args below meth c ad X hZ hr0 hlk
  have P0 : cP [4, 8] u u := cQ.rf h
  obtain ⟨co, hco, eo⟩ := h.row ho
  obtain ⟨cr, hcr, er⟩ := h.row hr
  have l1 := ab_ln8b o
  have l2 := ab_ln8b r
  have loop : ∀ (k j : Nat), k + j = 41 → ab_J p l e (ab_rm 0 0 0) s m args below meth c (MQ below (ab_Q D ca ad ab_nQ s.heap.size (fun u' v => u' = u ∧ ∃ b : Int32, (b = 0 ∨ b = 1) ∧ v = some (ab_I b))) args s 0 0 (ab_A ad ab_nQ s.heap.size)) D ca (ab_A ad ab_nQ s.heap.size) s.heap 3 0 0 ad ab_nQ u 30 [(2, ab_I (nI j)), (0, ab_O 4 r), (1, ab_O 4 o)] [] := by
    intro k
    induction k with
    | zero =>
      intro j hj
      refine ab_iload_n X 0 d_RW_isLesser_30 rfl rfl ?_
      refine ab_aload_n X 1 d_RW_isLesser_31 rfl rfl ?_
      refine ab_gI X fl_RW_9 d_RW_isLesser_32 (by first | assumption | decide | (show _ < 124; omega) | (show _ < 61; omega) | (show _ < 20; omega)) (er) ?_
      refine ab_icmp_ge X 88 d_RW_isLesser_35 rfl (fun _ => ?_) (fun hb => absurd ((nI_le (by omega) (by omega))) hb)
      refine ab_aload_n X 1 d_RW_isLesser_88 rfl rfl ?_
      refine ab_gI X fl_RW_9 d_RW_isLesser_89 (by first | assumption | decide | (show _ < 124; omega) | (show _ < 61; omega) | (show _ < 20; omega)) (rfl) ?_
      refine ab_aload_n X 2 d_RW_isLesser_92 rfl rfl ?_
      refine ab_gI X fl_RW_9 d_RW_isLesser_93 (by first | assumption | decide | (show _ < 124; omega) | (show _ < 61; omega) | (show _ < 20; omega)) (rfl) ?_
      refine ab_icmp_ge X 103 d_RW_isLesser_96 rfl (fun h96 => ?_) (fun h96 => ?_)
      ·
        refine ab_iconst (v := 0) X d_RW_isLesser_103 (by decide) ?_
        exact ab_retz X hr0 hlk (by first | exact Or.inl rfl | exact Or.inr rfl) d_RW_isLesser_104 ⟨rfl, _, by first | exact Or.inl rfl | exact Or.inr rfl, rfl⟩
      ·
        refine ab_iconst (v := 1) X d_RW_isLesser_99 (by decide) ?_
        refine ab_goto X 104 d_RW_isLesser_100 rfl ?_
        exact ab_retz X hr0 hlk (by first | exact Or.inl rfl | exact Or.inr rfl) d_RW_isLesser_104 ⟨rfl, _, by first | exact Or.inl rfl | exact Or.inr rfl, rfl⟩
    | succ k ih =>
      intro j hj
      refine ab_iload_n X 0 d_RW_isLesser_30 rfl rfl ?_
      refine ab_aload_n X 1 d_RW_isLesser_31 rfl rfl ?_
      refine ab_gI X fl_RW_9 d_RW_isLesser_32 (by first | assumption | decide | (show _ < 124; omega) | (show _ < 61; omega) | (show _ < 20; omega)) (er) ?_
      refine ab_icmp_ge X 88 d_RW_isLesser_35 rfl (fun h35 => ?_) (fun h35 => ?_)
      ·
        refine ab_aload_n X 1 d_RW_isLesser_88 rfl rfl ?_
        refine ab_gI X fl_RW_9 d_RW_isLesser_89 (by first | assumption | decide | (show _ < 124; omega) | (show _ < 61; omega) | (show _ < 20; omega)) (rfl) ?_
        refine ab_aload_n X 2 d_RW_isLesser_92 rfl rfl ?_
        refine ab_gI X fl_RW_9 d_RW_isLesser_93 (by first | assumption | decide | (show _ < 124; omega) | (show _ < 61; omega) | (show _ < 20; omega)) (rfl) ?_
        refine ab_icmp_ge X 103 d_RW_isLesser_96 rfl (fun h96 => ?_) (fun h96 => ?_)
        ·
          refine ab_iconst (v := 0) X d_RW_isLesser_103 (by decide) ?_
          exact ab_retz X hr0 hlk (by first | exact Or.inl rfl | exact Or.inr rfl) d_RW_isLesser_104 ⟨rfl, _, by first | exact Or.inl rfl | exact Or.inr rfl, rfl⟩
        ·
          refine ab_iconst (v := 1) X d_RW_isLesser_99 (by decide) ?_
          refine ab_goto X 104 d_RW_isLesser_100 rfl ?_
          exact ab_retz X hr0 hlk (by first | exact Or.inl rfl | exact Or.inr rfl) d_RW_isLesser_104 ⟨rfl, _, by first | exact Or.inl rfl | exact Or.inr rfl, rfl⟩
      ·
        have h1 := nI_lt_of h35 (by omega)
        refine ab_iload_n X 0 d_RW_isLesser_38 rfl rfl ?_
        refine ab_aload_n X 2 d_RW_isLesser_39 rfl rfl ?_
        refine ab_gI X fl_RW_9 d_RW_isLesser_40 (by first | assumption | decide | (show _ < 124; omega) | (show _ < 61; omega) | (show _ < 20; omega)) (eo) ?_
        refine ab_icmp_ge X 88 d_RW_isLesser_43 rfl (fun h43 => ?_) (fun h43 => ?_)
        ·
          refine ab_aload_n X 1 d_RW_isLesser_88 rfl rfl ?_
          refine ab_gI X fl_RW_9 d_RW_isLesser_89 (by first | assumption | decide | (show _ < 124; omega) | (show _ < 61; omega) | (show _ < 20; omega)) (rfl) ?_
          refine ab_aload_n X 2 d_RW_isLesser_92 rfl rfl ?_
          refine ab_gI X fl_RW_9 d_RW_isLesser_93 (by first | assumption | decide | (show _ < 124; omega) | (show _ < 61; omega) | (show _ < 20; omega)) (rfl) ?_
          refine ab_icmp_ge X 103 d_RW_isLesser_96 rfl (fun h96 => ?_) (fun h96 => ?_)
          ·
            refine ab_iconst (v := 0) X d_RW_isLesser_103 (by decide) ?_
            exact ab_retz X hr0 hlk (by first | exact Or.inl rfl | exact Or.inr rfl) d_RW_isLesser_104 ⟨rfl, _, by first | exact Or.inl rfl | exact Or.inr rfl, rfl⟩
          ·
            refine ab_iconst (v := 1) X d_RW_isLesser_99 (by decide) ?_
            refine ab_goto X 104 d_RW_isLesser_100 rfl ?_
            exact ab_retz X hr0 hlk (by first | exact Or.inl rfl | exact Or.inr rfl) d_RW_isLesser_104 ⟨rfl, _, by first | exact Or.inl rfl | exact Or.inr rfl, rfl⟩
        ·
          have h2 := nI_lt_of h43 (by omega)
          refine ab_aload_n X 1 d_RW_isLesser_46 rfl rfl ?_
          refine ab_gR X fl_RW_22 d_RW_isLesser_47 (by first | assumption | decide | (show _ < 124; omega) | (show _ < 61; omega) | (show _ < 20; omega)) (P0.1.rw (by first | assumption | decide | omega)) ?_
          refine ab_iload_n X 0 d_RW_isLesser_50 rfl rfl ?_
          refine ab_iald X (j) ⟨rfl, rfl⟩ d_RW_isLesser_51 (by first | assumption | decide | (show _ < 124; omega) | (show _ < 61; omega) | (show _ < 20; omega)) (rfl) (by omega) (ab_ln_lt _ _) ?_
          refine ab_aload_n X 2 d_RW_isLesser_52 rfl rfl ?_
          refine ab_gR X fl_RW_22 d_RW_isLesser_53 (by first | assumption | decide | (show _ < 124; omega) | (show _ < 61; omega) | (show _ < 20; omega)) (P0.1.rw (by first | assumption | decide | omega)) ?_
          refine ab_iload_n X 0 d_RW_isLesser_56 rfl rfl ?_
          refine ab_iald X (j) ⟨rfl, rfl⟩ d_RW_isLesser_57 (by first | assumption | decide | (show _ < 124; omega) | (show _ < 61; omega) | (show _ < 20; omega)) (rfl) (by omega) (ab_ln_lt _ _) ?_
          refine ab_icmp_eq X 82 d_RW_isLesser_58 rfl (fun h58 => ?_) (fun h58 => ?_)
          ·
            refine ab_iinc2 X 0 1 2 d_RW_isLesser_82 rfl (by decide) rfl rfl rfl rfl ?_
            refine ab_goto X 30 d_RW_isLesser_85 rfl ?_
            rw [show nI j + Int32.ofInt 1 = nI (j + 1) from nI_1 j]
            exact ih (j + 1) (by omega)
          ·
            refine ab_aload_n X 1 d_RW_isLesser_61 rfl rfl ?_
            refine ab_gR X fl_RW_22 d_RW_isLesser_62 (by first | assumption | decide | (show _ < 124; omega) | (show _ < 61; omega) | (show _ < 20; omega)) (P0.1.rw (by first | assumption | decide | omega)) ?_
            refine ab_iload_n X 0 d_RW_isLesser_65 rfl rfl ?_
            refine ab_iald X (j) ⟨rfl, rfl⟩ d_RW_isLesser_66 (by first | assumption | decide | (show _ < 124; omega) | (show _ < 61; omega) | (show _ < 20; omega)) (rfl) (by omega) (ab_ln_lt _ _) ?_
            refine ab_aload_n X 2 d_RW_isLesser_67 rfl rfl ?_
            refine ab_gR X fl_RW_22 d_RW_isLesser_68 (by first | assumption | decide | (show _ < 124; omega) | (show _ < 61; omega) | (show _ < 20; omega)) (P0.1.rw (by first | assumption | decide | omega)) ?_
            refine ab_iload_n X 0 d_RW_isLesser_71 rfl rfl ?_
            refine ab_iald X (j) ⟨rfl, rfl⟩ d_RW_isLesser_72 (by first | assumption | decide | (show _ < 124; omega) | (show _ < 61; omega) | (show _ < 20; omega)) (rfl) (by omega) (ab_ln_lt _ _) ?_
            refine ab_icmp_ge X 80 d_RW_isLesser_73 rfl (fun h73 => ?_) (fun h73 => ?_)
            ·
              refine ab_iconst (v := 0) X d_RW_isLesser_80 (by decide) ?_
              exact ab_retz X hr0 hlk (by first | exact Or.inl rfl | exact Or.inr rfl) d_RW_isLesser_81 ⟨rfl, _, by first | exact Or.inl rfl | exact Or.inr rfl, rfl⟩
            ·
              refine ab_iconst (v := 1) X d_RW_isLesser_76 (by decide) ?_
              refine ab_goto X 81 d_RW_isLesser_77 rfl ?_
              exact ab_retz X hr0 hlk (by first | exact Or.inl rfl | exact Or.inr rfl) d_RW_isLesser_81 ⟨rfl, _, by first | exact Or.inl rfl | exact Or.inr rfl, rfl⟩
  refine ab_aload_n X 0 d_RW_isLesser_0 rfl rfl ?_
  refine ab_gI X fl_RW_15 d_RW_isLesser_1 (by first | assumption | decide | (show _ < 124; omega) | (show _ < 61; omega) | (show _ < 20; omega)) (rfl) ?_
  refine ab_aload_n X 1 d_RW_isLesser_4 rfl rfl ?_
  refine ab_gI X fl_RW_15 d_RW_isLesser_5 (by first | assumption | decide | (show _ < 124; omega) | (show _ < 61; omega) | (show _ < 20; omega)) (rfl) ?_
  refine ab_icmp_eq X 28 d_RW_isLesser_8 rfl (fun h8 => ?_) (fun h8 => ?_)
  ·
    refine ab_iconst (v := 0) X d_RW_isLesser_28 (by decide) ?_
    refine ab_istore_n2 X 0 1 d_RW_isLesser_29 rfl (by decide) rfl rfl rfl rfl ?_
    exact loop 41 0 rfl
  ·
    refine ab_aload_n X 0 d_RW_isLesser_11 rfl rfl ?_
    refine ab_gI X fl_RW_15 d_RW_isLesser_12 (by first | assumption | decide | (show _ < 124; omega) | (show _ < 61; omega) | (show _ < 20; omega)) (rfl) ?_
    refine ab_aload_n X 1 d_RW_isLesser_15 rfl rfl ?_
    refine ab_gI X fl_RW_15 d_RW_isLesser_16 (by first | assumption | decide | (show _ < 124; omega) | (show _ < 61; omega) | (show _ < 20; omega)) (rfl) ?_
    refine ab_icmp_ge X 26 d_RW_isLesser_19 rfl (fun h19 => ?_) (fun h19 => ?_)
    ·
      refine ab_iconst (v := 0) X d_RW_isLesser_26 (by decide) ?_
      exact ab_retz X hr0 hlk (by first | exact Or.inl rfl | exact Or.inr rfl) d_RW_isLesser_27 ⟨rfl, _, by first | exact Or.inl rfl | exact Or.inr rfl, rfl⟩
    ·
      refine ab_iconst (v := 1) X d_RW_isLesser_22 (by decide) ?_
      refine ab_goto X 27 d_RW_isLesser_23 rfl ?_
      exact ab_retz X hr0 hlk (by first | exact Or.inl rfl | exact Or.inr rfl) d_RW_isLesser_27 ⟨rfl, _, by first | exact Or.inl rfl | exact Or.inr rfl, rfl⟩
abbrev b_RW_becomeIfLesser : ByteArray := prog_7_method_6_code
def y_RW_becomeIfLesser : MethodName := ⟨"PolicyForge$Row", "becomeIfLesser", "(LPolicyForge$Row;)V"⟩
theorem d_RW_becomeIfLesser_0 : decode b_RW_becomeIfLesser 0 = .ok (.aload_n 1, 1) := by decide +kernel
theorem d_RW_becomeIfLesser_1 : decode b_RW_becomeIfLesser 1 = .ok (.getfield 18, 3) := by decide +kernel
theorem d_RW_becomeIfLesser_4 : decode b_RW_becomeIfLesser 4 = .ok (.ifCond .eq 23, 3) := by decide +kernel
theorem d_RW_becomeIfLesser_7 : decode b_RW_becomeIfLesser 7 = .ok (.aload_n 0, 1) := by decide +kernel
theorem d_RW_becomeIfLesser_8 : decode b_RW_becomeIfLesser 8 = .ok (.getfield 18, 3) := by decide +kernel
theorem d_RW_becomeIfLesser_11 : decode b_RW_becomeIfLesser 11 = .ok (.ifCond .eq 11, 3) := by decide +kernel
theorem d_RW_becomeIfLesser_14 : decode b_RW_becomeIfLesser 14 = .ok (.aload_n 1, 1) := by decide +kernel
theorem d_RW_becomeIfLesser_15 : decode b_RW_becomeIfLesser 15 = .ok (.aload_n 0, 1) := by decide +kernel
theorem d_RW_becomeIfLesser_16 : decode b_RW_becomeIfLesser 16 = .ok (.invokevirtual 37, 3) := by decide +kernel
theorem d_RW_becomeIfLesser_19 : decode b_RW_becomeIfLesser 19 = .ok (.ifCond .eq 8, 3) := by decide +kernel
theorem d_RW_becomeIfLesser_22 : decode b_RW_becomeIfLesser 22 = .ok (.aload_n 0, 1) := by decide +kernel
theorem d_RW_becomeIfLesser_23 : decode b_RW_becomeIfLesser 23 = .ok (.aload_n 1, 1) := by decide +kernel
theorem d_RW_becomeIfLesser_24 : decode b_RW_becomeIfLesser 24 = .ok (.invokevirtual 41, 3) := by decide +kernel
theorem d_RW_becomeIfLesser_27 : decode b_RW_becomeIfLesser 27 = .ok (.return_, 1) := by decide +kernel
theorem lk_RW_37 : ab_lk "PolicyForge$Row" 37 y_RW_isLesser b_RW_isLesser 3 (some FieldType.boolean) 1 4 := ⟨⟨rfl, T_RW, 4, rfl⟩, List.forall_mem_cons.mpr ⟨(ab_in 803 (by decide +kernel) (by decide +kernel)), List.forall_mem_cons.mpr ⟨(ab_in 805 (by decide +kernel) (by decide +kernel)), List.forall_mem_cons.mpr ⟨(ab_in 30 (by decide +kernel) (by decide +kernel)), List.forall_mem_cons.mpr ⟨(ab_in 96 (by decide +kernel) (by decide +kernel)), List.forall_mem_cons.mpr ⟨(ab_in 806 (by decide +kernel) (by decide +kernel)), fun _ h => absurd h List.not_mem_nil⟩⟩⟩⟩⟩, ⟨by decide +kernel, by decide +kernel, by decide +kernel⟩, by decide⟩
theorem lk_RW_41 : ab_lk "PolicyForge$Row" 41 y_RW_become b_RW_become 2 none 1 4 := ⟨⟨rfl, T_RW, 4, rfl⟩, List.forall_mem_cons.mpr ⟨(ab_in 807 (by decide +kernel) (by decide +kernel)), List.forall_mem_cons.mpr ⟨(ab_in 808 (by decide +kernel) (by decide +kernel)), List.forall_mem_cons.mpr ⟨(ab_in 809 (by decide +kernel) (by decide +kernel)), List.forall_mem_cons.mpr ⟨(ab_in 96 (by decide +kernel) (by decide +kernel)), List.forall_mem_cons.mpr ⟨(ab_in 810 (by decide +kernel) (by decide +kernel)), fun _ h => absurd h List.not_mem_nil⟩⟩⟩⟩⟩, ⟨by decide +kernel, by decide +kernel, by decide +kernel⟩, by decide⟩
set_option maxRecDepth 100000 in
set_option maxHeartbeats 1000000 in
theorem s_RW_becomeIfLesser (u : ab_S) (r o : Nat) (h : CI u) (hr : r < 124) (ho : o < 124) : ab_C false l D ca y_RW_becomeIfLesser b_RW_becomeIfLesser 2 none 3 ab_nQ u [ab_O 4 r, ab_O 4 o] (fun u' v => cP [4, 8] u u' ∧ v = none) := by
  refine ab_C.of (by decide) (Nat.le_of_ble_eq_true rfl) ?_
  intro p e s m args below meth c ad X hZ hr0 hlk
  have P0 : cP [4, 8] u u := cQ.rf h
  refine ab_aload_n X 1 d_RW_becomeIfLesser_0 rfl rfl ?_
  refine ab_gI X fl_RW_18 d_RW_becomeIfLesser_1 (by first | assumption | decide | (show _ < 124; omega) | (show _ < 61; omega) | (show _ < 20; omega)) (rfl) ?_
  refine ab_if_eq X 27 d_RW_becomeIfLesser_4 rfl (fun h4 => ?_) (fun h4 => ?_)
  ·
    exact ab_retv X hr0 hlk d_RW_becomeIfLesser_27 ⟨P0, rfl⟩
  ·
    refine ab_aload_n X 0 d_RW_becomeIfLesser_7 rfl rfl ?_
    refine ab_gI X fl_RW_18 d_RW_becomeIfLesser_8 (by first | assumption | decide | (show _ < 124; omega) | (show _ < 61; omega) | (show _ < 20; omega)) (rfl) ?_
    refine ab_if_eq X 22 d_RW_becomeIfLesser_11 rfl (fun h11 => ?_) (fun h11 => ?_)
    ·
      refine ab_aload_n X 0 d_RW_becomeIfLesser_22 rfl rfl ?_
      refine ab_aload_n X 1 d_RW_becomeIfLesser_23 rfl rfl ?_
      refine ab_callV (as := [ab_O 4 o]) X (fun h => by cases h) (s_RW_become u r o h hr ho) lk_RW_41 d_RW_becomeIfLesser_24 rfl rfl (by first | assumption | decide | (show _ < 124; omega) | (show _ < 61; omega) | (show _ < 20; omega)) ⟨by first | exact Nat.le_of_ble_eq_true rfl | (simp only [ab_rm]; omega), by first | exact Nat.le_of_ble_eq_true rfl | (simp only [ab_rm]; omega)⟩ ⟨by first | exact Nat.le_of_ble_eq_true rfl | (simp only [ab_rm]; omega), by first | exact Nat.le_of_ble_eq_true rfl | (simp only [ab_rm]; omega)⟩ (Nat.le_of_ble_eq_true rfl) (fun u24 r24 h24 => ?_)
      obtain ⟨q24, rfl⟩ := h24
      have P24 := P0.trans q24 (by decide)
      exact ab_retv X hr0 hlk d_RW_becomeIfLesser_27 ⟨P24, rfl⟩
    ·
      refine ab_aload_n X 1 d_RW_becomeIfLesser_14 rfl rfl ?_
      refine ab_aload_n X 0 d_RW_becomeIfLesser_15 rfl rfl ?_
      refine ab_callV (as := [ab_O 4 r]) X (fun h => by cases h) (t_RW_isLesser u o r h ho hr) lk_RW_37 d_RW_becomeIfLesser_16 rfl rfl (by first | assumption | decide | (show _ < 124; omega) | (show _ < 61; omega) | (show _ < 20; omega)) ⟨by first | exact Nat.le_of_ble_eq_true rfl | (simp only [ab_rm]; omega), by first | exact Nat.le_of_ble_eq_true rfl | (simp only [ab_rm]; omega)⟩ ⟨by first | exact Nat.le_of_ble_eq_true rfl | (simp only [ab_rm]; omega), by first | exact Nat.le_of_ble_eq_true rfl | (simp only [ab_rm]; omega)⟩ (Nat.le_of_ble_eq_true rfl) (fun u16 r16 h16 => ?_)
      obtain ⟨e16, b, hb, rfl⟩ := h16
      subst u16
      refine ab_if_eq X 27 d_RW_becomeIfLesser_19 rfl (fun h19 => ?_) (fun h19 => ?_)
      ·
        exact ab_retv X hr0 hlk d_RW_becomeIfLesser_27 ⟨P0, rfl⟩
      ·
        refine ab_aload_n X 0 d_RW_becomeIfLesser_22 rfl rfl ?_
        refine ab_aload_n X 1 d_RW_becomeIfLesser_23 rfl rfl ?_
        refine ab_callV (as := [ab_O 4 o]) X (fun h => by cases h) (s_RW_become u r o h hr ho) lk_RW_41 d_RW_becomeIfLesser_24 rfl rfl (by first | assumption | decide | (show _ < 124; omega) | (show _ < 61; omega) | (show _ < 20; omega)) ⟨by first | exact Nat.le_of_ble_eq_true rfl | (simp only [ab_rm]; omega), by first | exact Nat.le_of_ble_eq_true rfl | (simp only [ab_rm]; omega)⟩ ⟨by first | exact Nat.le_of_ble_eq_true rfl | (simp only [ab_rm]; omega), by first | exact Nat.le_of_ble_eq_true rfl | (simp only [ab_rm]; omega)⟩ (Nat.le_of_ble_eq_true rfl) (fun u24 r24 h24 => ?_)
        obtain ⟨q24, rfl⟩ := h24
        have P24 := P0.trans q24 (by decide)
        exact ab_retv X hr0 hlk d_RW_becomeIfLesser_27 ⟨P24, rfl⟩
end SaRow

