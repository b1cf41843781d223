/-! The class's reader: kinds, and parts. -/
theorem chr_ne : ∀ g, g < 7 → ∀ j, j < 6 → ab_chr g j ≠ -1 := by decide +kernel
section SaKindF
variable {l : Launch} {D : va_G} {ca : Nat → ClassId}
set_option maxRecDepth 100000 in
set_option maxHeartbeats 1000000 in
theorem t_RD_cnt (u : ab_S) (g a : Nat) (T : Nat → Int32) (t : Nat) (ht : t ≤ 100) (eL : u.1 1 0 3 = nI t) (hT : ∀ k, k < t → u.1 11 0 k = T k) (h : CI u) (hg : g < 7) (ha : a ≤ 100) (ea : u.1 1 0 4 = nI a) : ab_C true l D ca y_RD_countSame b_RD_countSame 3 (some FieldType.int) 4 ab_nQ u [ab_O 1 0, ab_O 22 g] (fun u' v => u' = u ∧ ∃ k, a + k ≤ 100 ∧ ((k = ab_sl.getD g 0 ∧ mtb T t a g = true ∧ a + k ≤ t) ∨ (k < ab_sl.getD g 0 ∧ ¬ mtb T t a g = true)) ∧ v = some (ab_I (nI k))) := by
  refine ab_C.of (by decide) (Nat.le_of_ble_eq_true rfl) ?_
  intro p e s m args below meth c ad X hZ hr0 hlk
  have P0 : cP [1, 2, 10] u u := cQ.rf h
  have l6 := ab_sl6 hg
  have l3 := ab_sl3 hg
  have loop : ∀ (k j : Nat), k + j = 7 → a + j ≤ 100 → j ≤ ab_sl.getD g 0 → (∀ i, i < j → ta T t (a + i) = ab_chr g i) → (j = 0 ∨ a + j ≤ t) → ab_J p l e (ab_rm 4 0 0) s m args below meth c (MQ below (ab_Q D ca ad ab_nQ s.heap.size (fun u' v => u' = u ∧ ∃ k, a + k ≤ 100 ∧ ((k = ab_sl.getD g 0 ∧ mtb T t a g = true ∧ a + k ≤ t) ∨ (k < ab_sl.getD g 0 ∧ ¬ mtb T t a g = true)) ∧ v = some (ab_I (nI k)))) args s 0 0 (ab_A ad ab_nQ s.heap.size)) D ca (ab_A ad ab_nQ s.heap.size) s.heap 3 0 0 ad ab_nQ u 2 [(2, ab_I (nI j)), (0, ab_O 1 0), (1, ab_O 22 g)] [] := by
    intro k
    induction k with
    | zero => intro j hj _ hl; exact absurd hj (by omega)
    | succ k ih =>
      intro j hj ha2 hl hm ht2
      refine ab_iload_n X 0 d_RD_countSame_2 rfl rfl ?_
      refine ab_aload_n X 2 d_RD_countSame_3 rfl rfl ?_
      refine ab_callVQ (as := []) X (fun _ => hZ rfl) (c_JS_length u g hg) lq_RD_83 d_RD_countSame_4 rfl rfl (ab_srcv (hZ rfl) hg) ⟨by first | exact Nat.le_of_ble_eq_true rfl | (simp only [ab_rm]; omega), by first | exact Nat.le_of_ble_eq_true rfl | (simp only [ab_rm]; omega)⟩ ⟨by first | exact Nat.le_of_ble_eq_true rfl | (simp only [ab_rm]; omega), by first | exact Nat.le_of_ble_eq_true rfl | (simp only [ab_rm]; omega)⟩ (Nat.le_of_ble_eq_true rfl) (fun u4 r4 h4 => ?_)
      obtain ⟨e4, rfl⟩ := h4
      subst u4
      refine ab_icmp_ge X 48 d_RD_countSame_7 rfl (fun h7 => ?_) (fun h7 => ?_)
      ·
        have hjs := nI_le_of h7 (by omega)
        have hres : (j = ab_sl.getD g 0 ∧ mtb T t a g = true ∧ a + j ≤ t) ∨ (j < ab_sl.getD g 0 ∧ ¬ mtb T t a g = true) := Or.inl ⟨by omega, mtb_iff.mpr (fun i hi => hm i (by omega)), by omega⟩
        refine ab_iload_n X 0 d_RD_countSame_48 rfl rfl ?_
        exact ab_reti X hr0 hlk d_RD_countSame_49 ⟨rfl, j, ha2, hres, rfl⟩
      ·
        have hjs := nI_lt_of h7 (by omega)
        refine ab_aload_n X 1 d_RD_countSame_10 rfl rfl ?_
        refine ab_gI X fl_RD_30 d_RD_countSame_11 (by first | assumption | decide | (show _ < 124; omega) | (show _ < 61; omega) | (show _ < 20; omega)) (ea) ?_
        refine ab_iload_n X 0 d_RD_countSame_14 rfl rfl ?_
        refine ab_iadd X d_RD_countSame_15 ?_
        refine ab_top (nI_add a j) ?_
        refine ab_aload_n X 1 d_RD_countSame_16 rfl rfl ?_
        refine ab_gI X fl_RD_26 d_RD_countSame_17 (by first | assumption | decide | (show _ < 124; omega) | (show _ < 61; omega) | (show _ < 20; omega)) (eL) ?_
        refine ab_icmp_ge X 48 d_RD_countSame_20 rfl (fun h20 => ?_) (fun h20 => ?_)
        ·
          have haj := nI_le_of h20 (by omega)
          have hres : (j = ab_sl.getD g 0 ∧ mtb T t a g = true ∧ a + j ≤ t) ∨ (j < ab_sl.getD g 0 ∧ ¬ mtb T t a g = true) := Or.inr ⟨hjs, fun z => absurd ((mtb_iff.mp z j hjs).symm.trans (ta_out haj)) (chr_ne g hg j (by omega))⟩
          refine ab_iload_n X 0 d_RD_countSame_48 rfl rfl ?_
          exact ab_reti X hr0 hlk d_RD_countSame_49 ⟨rfl, j, ha2, hres, rfl⟩
        ·
          have haj := nI_lt_of h20 (by omega)
          refine ab_aload_n X 1 d_RD_countSame_23 rfl rfl ?_
          refine ab_gR X fl_RD_9 d_RD_countSame_24 (by first | assumption | decide | (show _ < 124; omega) | (show _ < 61; omega) | (show _ < 20; omega)) (P0.1.rd0) ?_
          refine ab_aload_n X 1 d_RD_countSame_27 rfl rfl ?_
          refine ab_gI X fl_RD_30 d_RD_countSame_28 (by first | assumption | decide | (show _ < 124; omega) | (show _ < 61; omega) | (show _ < 20; omega)) (ea) ?_
          refine ab_iload_n X 0 d_RD_countSame_31 rfl rfl ?_
          refine ab_iadd X d_RD_countSame_32 ?_
          refine ab_top (nI_add a j) ?_
          refine ab_iald X (a + j) ⟨rfl, rfl⟩ d_RD_countSame_33 (by first | assumption | decide | (show _ < 124; omega) | (show _ < 61; omega) | (show _ < 20; omega)) (rfl) (show a + j < 120 by omega) (ab_ln_lt _ _) ?_
          refine ab_top (hT _ haj) ?_
          refine ab_aload_n X 2 d_RD_countSame_34 rfl rfl ?_
          refine ab_iload_n X 0 d_RD_countSame_35 rfl rfl ?_
          refine ab_callVQ (as := [ab_I (nI j)]) X (fun _ => hZ rfl) (c_JS_charAt u g j hg hjs) lq_RD_107 d_RD_countSame_36 rfl rfl (ab_srcv (hZ rfl) hg) ⟨by first | exact Nat.le_of_ble_eq_true rfl | (simp only [ab_rm]; omega), by first | exact Nat.le_of_ble_eq_true rfl | (simp only [ab_rm]; omega)⟩ ⟨by first | exact Nat.le_of_ble_eq_true rfl | (simp only [ab_rm]; omega), by first | exact Nat.le_of_ble_eq_true rfl | (simp only [ab_rm]; omega)⟩ (Nat.le_of_ble_eq_true rfl) (fun u36 r36 h36 => ?_)
          obtain ⟨e36, rfl⟩ := h36
          subst u36
          refine ab_icmp_ne X 48 d_RD_countSame_39 rfl (fun h39 => ?_) (fun h39 => ?_)
          ·
            have hres : (j = ab_sl.getD g 0 ∧ mtb T t a g = true ∧ a + j ≤ t) ∨ (j < ab_sl.getD g 0 ∧ ¬ mtb T t a g = true) := Or.inr ⟨hjs, fun z => h39 ((ta_in haj).symm.trans (mtb_iff.mp z j hjs))⟩
            refine ab_iload_n X 0 d_RD_countSame_48 rfl rfl ?_
            exact ab_reti X hr0 hlk d_RD_countSame_49 ⟨rfl, j, ha2, hres, rfl⟩
          ·
            refine ab_iinc2 X 0 1 2 d_RD_countSame_42 rfl (by decide) rfl rfl rfl rfl ?_
            refine ab_goto X 2 d_RD_countSame_45 rfl ?_
            rw [show nI j + Int32.ofInt 1 = nI (j + 1) from nI_1 j]
            refine ih (j + 1) (by omega) (by omega) (by omega) (fun i hi => ?_) (Or.inr (by omega))
            by_cases z : i = j
            · subst z; exact (ta_in haj).trans h39
            · exact hm i (by omega)
  refine ab_iconst (v := 0) X d_RD_countSame_0 (by decide) ?_
  refine ab_istore_n2 X 0 1 d_RD_countSame_1 rfl (by decide) rfl rfl rfl rfl ?_
  exact loop 7 0 rfl ha (Nat.zero_le _) (fun i hi => absurd hi (Nat.not_lt_zero i)) (Or.inl rfl)
set_option maxRecDepth 100000 in
set_option maxHeartbeats 1000000 in
theorem f_RD_kindHere (u : ab_S) (q : Nat) (T : Nat → Int32) (t : Nat) (ht : t ≤ 100) (eL : u.1 1 0 3 = nI t) (hT : ∀ k, k < t → u.1 11 0 k = T k) (h : CI u) (hq : q ≤ 100) (ea : u.1 1 0 4 = nI q) : ab_C true l D ca y_RD_kindHere b_RD_kindHere 8 (some FieldType.int) 5 ab_nQ u [ab_O 1 0] (fun u' v => (∃ j, j < 7 ∧ kA T t q = j + 1 ∧ q + ab_sl.getD j 0 ≤ t ∧ u' = ab_ui u 1 0 4 (nI (q + ab_sl.getD j 0)) ∧ cP [1, 2, 10] u u' ∧ v = some (ab_I (ab_kinds j))) ∨ (kA T t q = 0 ∧ cP [1, 2, 10] u u' ∧ v = some (ab_I 0))) := by
  refine ab_C.of (by decide) (Nat.le_of_ble_eq_true rfl) ?_
  intro p e s m args below meth c ad X hZ hr0 hlk
  have P0 : cP [1, 2, 10] u u := cQ.rf h
  have loop : ∀ (n j : Nat) (y : Int32), j + n = 7 → (∀ i, i < j → ¬ mtb T t q i = true) → ab_J p l e (ab_rm 5 0 0) s m args below meth c (MQ below (ab_Q D ca ad ab_nQ s.heap.size (fun u' v => (∃ j, j < 7 ∧ kA T t q = j + 1 ∧ q + ab_sl.getD j 0 ≤ t ∧ u' = ab_ui u 1 0 4 (nI (q + ab_sl.getD j 0)) ∧ cP [1, 2, 10] u u' ∧ v = some (ab_I (ab_kinds j))) ∨ (kA T t q = 0 ∧ cP [1, 2, 10] u u' ∧ v = some (ab_I 0)))) args s 0 0 (ab_A ad ab_nQ s.heap.size)) D ca (ab_A ad ab_nQ s.heap.size) s.heap 8 0 0 ad ab_nQ u 12 [(4, ab_I (nI j)), (3, ab_I 7), (2, ab_O 21 0), (1, ab_I y), (0, ab_O 1 0)] [] := by
    intro n
    induction n with
    | zero =>
      intro j y hj hm
      obtain rfl : j = 7 := by omega
      refine ab_iload X 0 d_RD_kindHere_12 rfl ?_
      refine ab_iload_n X 1 d_RD_kindHere_14 rfl rfl ?_
      refine ab_icmp_ge X 76 d_RD_kindHere_15 rfl (fun _ => ?_) (fun hb => absurd ((by decide)) hb)
      refine ab_aload_n X 4 d_RD_kindHere_76 rfl rfl ?_
      refine ab_aload_n X 4 d_RD_kindHere_77 rfl rfl ?_
      refine ab_gI X fl_RD_30 d_RD_kindHere_78 (by first | assumption | decide | (show _ < 124; omega) | (show _ < 61; omega) | (show _ < 20; omega)) (rfl) ?_
      refine ab_iload_n X 3 d_RD_kindHere_81 rfl rfl ?_
      refine ab_iadd X d_RD_kindHere_82 ?_
      refine ab_callV (as := [ab_I _]) X (fun h => by cases h) (f_RD_refuse u _ h) lk_RD_46 d_RD_kindHere_83 rfl rfl (by first | assumption | decide | (show _ < 124; omega) | (show _ < 61; omega) | (show _ < 20; omega)) ⟨by first | exact Nat.le_of_ble_eq_true rfl | (simp only [ab_rm]; omega), by first | exact Nat.le_of_ble_eq_true rfl | (simp only [ab_rm]; omega)⟩ ⟨by first | exact Nat.le_of_ble_eq_true rfl | (simp only [ab_rm]; omega), by first | exact Nat.le_of_ble_eq_true rfl | (simp only [ab_rm]; omega)⟩ (Nat.le_of_ble_eq_true rfl) (fun u83 r83 h83 => ?_)
      obtain ⟨q83, rfl⟩ := h83
      have P83 := P0.trans q83 (by decide)
      refine ab_pop X d_RD_kindHere_86 rfl ?_
      refine ab_iconst (v := 0) X d_RD_kindHere_87 (by decide) ?_
      exact ab_reti X hr0 hlk d_RD_kindHere_88 (Or.inr ⟨kA_no hm, P83, rfl⟩)
    | succ n ih =>
      intro j y hj hm
      have hj7 : j < 7 := by omega
      have l6 := ab_sl6 hj7
      refine ab_iload X 0 d_RD_kindHere_12 rfl ?_
      refine ab_iload_n X 1 d_RD_kindHere_14 rfl rfl ?_
      refine ab_icmp_ge X 76 d_RD_kindHere_15 rfl (fun hb => absurd hb ((nI_ge (b := 7) hj7 (by decide)))) (fun _ => ?_)
      refine ab_aload_n X 2 d_RD_kindHere_18 rfl rfl ?_
      refine ab_iload X 0 d_RD_kindHere_19 rfl ?_
      refine ab_kld X (hZ rfl) rfl j d_RD_kindHere_21 rfl hj7 ?_
      refine ab_istore5 X 0 1 2 3 4 d_RD_kindHere_22 (by decide) rfl rfl rfl rfl rfl rfl rfl rfl rfl rfl ?_
      refine ab_iload X 0 d_RD_kindHere_24 rfl ?_
      refine ab_callS (as := [ab_I (ab_kinds j)]) X (fun _ => hZ rfl) (c_RD_nameOf u j hj7) ls_RD_75 d_RD_kindHere_26 rfl rfl ⟨by first | exact Nat.le_of_ble_eq_true rfl | (simp only [ab_rm]; omega), by first | exact Nat.le_of_ble_eq_true rfl | (simp only [ab_rm]; omega)⟩ ⟨by first | exact Nat.le_of_ble_eq_true rfl | (simp only [ab_rm]; omega), by first | exact Nat.le_of_ble_eq_true rfl | (simp only [ab_rm]; omega)⟩ (Nat.le_of_ble_eq_true rfl) (fun u26 r26 h26 => ?_)
      obtain ⟨e26, rfl⟩ := h26
      subst u26
      refine ab_astore6 X 0 1 2 3 4 5 d_RD_kindHere_29 (by decide) rfl rfl rfl rfl rfl rfl rfl rfl rfl rfl rfl rfl ?_
      refine ab_aload_n X 6 d_RD_kindHere_31 rfl rfl ?_
      refine ab_aload X 0 d_RD_kindHere_32 rfl ?_
      refine ab_callV (as := [ab_O 22 j]) X (fun _ => hZ rfl) (t_RD_cnt u j q T t ht eL hT h hj7 hq ea) lk_RD_79 d_RD_kindHere_34 rfl rfl (by first | assumption | decide | (show _ < 124; omega) | (show _ < 61; omega) | (show _ < 20; omega)) ⟨by first | exact Nat.le_of_ble_eq_true rfl | (simp only [ab_rm]; omega), by first | exact Nat.le_of_ble_eq_true rfl | (simp only [ab_rm]; omega)⟩ ⟨by first | exact Nat.le_of_ble_eq_true rfl | (simp only [ab_rm]; omega), by first | exact Nat.le_of_ble_eq_true rfl | (simp only [ab_rm]; omega)⟩ (Nat.le_of_ble_eq_true rfl) (fun u34 r34 h34 => ?_)
      obtain ⟨e34, k34, hk34, hr34, rfl⟩ := h34
      subst u34
      refine ab_istore7 X 0 1 2 3 4 5 6 d_RD_kindHere_37 (by decide) rfl rfl rfl rfl rfl rfl rfl rfl rfl rfl rfl rfl rfl rfl ?_
      refine ab_iload X 0 d_RD_kindHere_39 rfl ?_
      refine ab_aload X 1 d_RD_kindHere_41 rfl ?_
      refine ab_callVQ (as := []) X (fun _ => hZ rfl) (c_JS_length u j hj7) lq_RD_83 d_RD_kindHere_43 rfl rfl (ab_srcv (hZ rfl) hj7) ⟨by first | exact Nat.le_of_ble_eq_true rfl | (simp only [ab_rm]; omega), by first | exact Nat.le_of_ble_eq_true rfl | (simp only [ab_rm]; omega)⟩ ⟨by first | exact Nat.le_of_ble_eq_true rfl | (simp only [ab_rm]; omega), by first | exact Nat.le_of_ble_eq_true rfl | (simp only [ab_rm]; omega)⟩ (Nat.le_of_ble_eq_true rfl) (fun u43 r43 h43 => ?_)
      obtain ⟨e43, rfl⟩ := h43
      subst u43
      refine ab_icmp_ne X 63 d_RD_kindHere_46 rfl (fun h46 => ?_) (fun h46 => ?_)
      ·
        have hno : ¬ mtb T t q j = true := (hr34.resolve_left (fun z => h46 (by rw [z.1]))).2
        refine ab_iload_n X 6 d_RD_kindHere_63 rfl rfl ?_
        refine ab_iload X 0 d_RD_kindHere_64 rfl ?_
        refine ab_mmax X mm_RD_87 ⟨Nat.le_of_ble_eq_true rfl, Nat.le_of_ble_eq_true rfl⟩ ⟨Nat.le_of_ble_eq_true rfl, Nat.le_of_ble_eq_true rfl⟩ (Nat.le_of_ble_eq_true rfl) d_RD_kindHere_66 ?_
        refine ab_istore_n7 X 0 1 2 3 4 5 7 d_RD_kindHere_69 rfl (by decide) rfl rfl rfl rfl rfl rfl rfl rfl rfl rfl rfl rfl rfl rfl ?_
        refine ab_iinc7 X 4 0 1 2 3 5 6 7 d_RD_kindHere_70 rfl (by decide) rfl rfl rfl rfl rfl rfl rfl rfl rfl rfl rfl rfl rfl rfl ?_
        refine ab_goto X 12 d_RD_kindHere_73 rfl ?_
        refine ab_lv (List.forall_mem_cons.mpr ⟨List.mem_of_getElem? (i := 0) rfl, List.forall_mem_cons.mpr ⟨List.mem_of_getElem? (i := 5) rfl, List.forall_mem_cons.mpr ⟨List.mem_of_getElem? (i := 6) rfl, List.forall_mem_cons.mpr ⟨List.mem_of_getElem? (i := 1) rfl, List.forall_mem_cons.mpr ⟨List.mem_of_getElem? (i := 7) rfl, fun _ h => absurd h List.not_mem_nil⟩⟩⟩⟩⟩) ?_
        rw [show nI j + Int32.ofInt 1 = nI (j + 1) from nI_1 j]
        refine ih (j + 1) _ (by omega) (fun i hi => ?_)
        by_cases z : i = j
        · subst z; exact hno
        · exact hm i (by omega)
      ·
        have hk : k34 = ab_sl.getD j 0 := (nI_eq (by omega) (by omega)).mp h46
        have hm1 := (hr34.resolve_right (fun z => absurd z.1 (by omega))).2
        refine ab_aload_n X 7 d_RD_kindHere_49 rfl rfl ?_
        refine ab_dup X d_RD_kindHere_50 rfl ?_
        refine ab_gI X fl_RD_30 d_RD_kindHere_51 (by first | assumption | decide | (show _ < 124; omega) | (show _ < 61; omega) | (show _ < 20; omega)) (ea) ?_
        refine ab_iload X 0 d_RD_kindHere_54 rfl ?_
        refine ab_iadd X d_RD_kindHere_56 ?_
        refine ab_top (nI_add q k34) ?_
        refine ab_putI X fp_RD_30 d_RD_kindHere_57 (by first | assumption | decide | (show _ < 124; omega) | (show _ < 61; omega) | (show _ < 20; omega)) rfl rfl ?_
        refine ab_gen (fun u57 e57 => ?_)
        have P57 : cP [1, 2, 10] u u57 := by rw [e57]; exact P0.at (by decide) hk34
        refine ab_iload X 2 d_RD_kindHere_60 rfl ?_
        exact ab_reti X hr0 hlk d_RD_kindHere_62 (Or.inl ⟨j, hj7, kA_of hj7 hm1.1, by rw [← hk]; exact hm1.2, by rw [← hk]; exact e57, P57, rfl⟩)
  refine ab_iconst (v := 0) X d_RD_kindHere_0 (by decide) ?_
  refine ab_istore_n1 X 0 d_RD_kindHere_1 rfl (by decide) rfl rfl ?_
  refine ab_kget (host := "PolicyForge") X (hZ rfl) rfl (List.mem_filter.mpr ⟨List.mem_of_getElem? (i := 428) (by decide +kernel), by decide +kernel⟩) d_RD_kindHere_2 ?_
  refine ab_astore_n2 X 0 1 d_RD_kindHere_5 rfl (by decide) rfl rfl rfl rfl ?_
  refine ab_aload_n X 0 d_RD_kindHere_6 rfl rfl ?_
  refine ab_klen X (hZ rfl) rfl d_RD_kindHere_7 ?_
  refine ab_istore_n3 X 0 1 2 d_RD_kindHere_8 rfl (by decide) rfl rfl rfl rfl rfl rfl ?_
  refine ab_iconst (v := 0) X d_RD_kindHere_9 (by decide) ?_
  refine ab_istore4 X 0 1 2 3 d_RD_kindHere_10 (by decide) rfl rfl rfl rfl rfl rfl rfl rfl ?_
  exact loop 7 0 _ rfl (fun i hi => absurd hi (Nat.not_lt_zero i))
theorem kd_ne : ∀ j, j < 7 → ab_kinds j ≠ 0 := by decide +kernel
set_option maxRecDepth 100000 in
set_option maxHeartbeats 1000000 in
theorem t_PF_leafk (u : ab_S) (j : Nat) (h : CI u) (hj : j < 7) : ab_C false l D ca y_PF_isLeaf b_PF_isLeaf 1 (some FieldType.boolean) 0 ab_nQ u [ab_I (ab_kinds j)] (fun u' v => u' = u ∧ v = some (ab_I (if j < 4 then 1 else 0))) := by
  refine ab_C.of (by decide) (Nat.le_of_ble_eq_true rfl) ?_
  intro p e s m args below meth c ad X hZ hr0 hlk
  have P0 : cP [1, 2, 10] u u := cQ.rf h
  have h' : j = 0 ∨ j = 1 ∨ j = 2 ∨ j = 3 ∨ j = 4 ∨ j = 5 ∨ j = 6 := by omega
  refine ab_iload_n X 0 d_PF_isLeaf_0 rfl rfl ?_
  refine ab_iconst (v := 1) X d_PF_isLeaf_1 (by decide) ?_
  refine ab_icmp_lt X 14 d_PF_isLeaf_2 rfl (fun h2 => ?_) (fun h2 => ?_)
  ·
    refine ab_iconst (v := 0) X d_PF_isLeaf_14 (by decide) ?_
    exact ab_retz X hr0 hlk (by first | exact Or.inl rfl | exact Or.inr rfl) d_PF_isLeaf_15 ⟨rfl, by rcases h' with rfl | rfl | rfl | rfl | rfl | rfl | rfl <;> first | rfl | exact absurd h2 (by decide) | exact absurd h7 (by decide)⟩
  ·
    refine ab_iload_n X 0 d_PF_isLeaf_5 rfl rfl ?_
    refine ab_iconst (v := 4) X d_PF_isLeaf_6 (by decide) ?_
    refine ab_icmp_gt X 14 d_PF_isLeaf_7 rfl (fun h7 => ?_) (fun h7 => ?_)
    ·
      refine ab_iconst (v := 0) X d_PF_isLeaf_14 (by decide) ?_
      exact ab_retz X hr0 hlk (by first | exact Or.inl rfl | exact Or.inr rfl) d_PF_isLeaf_15 ⟨rfl, by rcases h' with rfl | rfl | rfl | rfl | rfl | rfl | rfl <;> first | rfl | exact absurd h2 (by decide) | exact absurd h7 (by decide)⟩
    ·
      refine ab_iconst (v := 1) X d_PF_isLeaf_10 (by decide) ?_
      refine ab_goto X 15 d_PF_isLeaf_11 rfl ?_
      exact ab_retz X hr0 hlk (by first | exact Or.inl rfl | exact Or.inr rfl) d_PF_isLeaf_15 ⟨rfl, by rcases h' with rfl | rfl | rfl | rfl | rfl | rfl | rfl <;> first | rfl | exact absurd h2 (by decide) | exact absurd h7 (by decide)⟩
/-- a part as it begins -/
def pS (u u' : ab_S) (p1 : Nat) (a : Int32) : Prop := u'.1 2 p1 4 = a ∧ u'.1 2 p1 5 = nI 0 ∧ u'.1 2 p1 6 = nI 0 ∧ (∀ c i k, ¬ (c = 2 ∧ i = p1 ∧ (k = 4 ∨ k = 5 ∨ k = 6)) → u'.1 c i k = u.1 c i k) ∧ u'.2.1 = u.2.1
set_option maxRecDepth 100000 in
set_option maxHeartbeats 1000000 in
theorem f_PT_start (u : ab_S) (p1 : Nat) (a : Int32) (h : CI u) (hp : p1 < 20) : ab_C false l D ca y_PT_start b_PT_start 2 none 0 ab_nQ u [ab_O 2 p1, ab_I a] (fun u' v => cP [2, 10] u u' ∧ pS u u' p1 a ∧ v = none) := by
  refine ab_C.of (by decide) (Nat.le_of_ble_eq_true rfl) ?_
  intro p e s m args below meth c ad X hZ hr0 hlk
  have P0 : cP [2, 10] u u := cQ.rf h
  refine ab_aload_n X 0 d_PT_start_0 rfl rfl ?_
  refine ab_iload_n X 1 d_PT_start_1 rfl rfl ?_
  refine ab_putI X fp_PT_30 d_PT_start_2 (by first | assumption | decide | (show _ < 124; omega) | (show _ < 61; omega) | (show _ < 20; omega)) rfl rfl ?_
  refine ab_gen (fun u2 e2 => ?_)
  have P2 : cP [2, 10] u u2 := by rw [e2]; exact P0.ui rfl (by decide)
  refine ab_aload_n X 0 d_PT_start_5 rfl rfl ?_
  refine ab_iconst (v := 0) X d_PT_start_6 (by decide) ?_
  refine ab_putI X fp_PT_34 d_PT_start_7 (by first | assumption | decide | (show _ < 124; omega) | (show _ < 61; omega) | (show _ < 20; omega)) rfl rfl ?_
  refine ab_gen (fun u7 e7 => ?_)
  have P7 : cP [2, 10] u u7 := by rw [e7]; exact P2.ui rfl (by decide)
  refine ab_aload_n X 0 d_PT_start_10 rfl rfl ?_
  refine ab_iconst (v := 0) X d_PT_start_11 (by decide) ?_
  refine ab_putI X fp_PT_37 d_PT_start_12 (by first | assumption | decide | (show _ < 124; omega) | (show _ < 61; omega) | (show _ < 20; omega)) rfl rfl ?_
  refine ab_gen (fun u12 e12 => ?_)
  have P12 : cP [2, 10] u u12 := by rw [e12]; exact P7.pc (by decide) (n := 0) (by omega) (fun j hj => absurd hj (by omega))
  exact ab_retv X hr0 hlk d_PT_start_15 ⟨P12, ⟨by rw [e12, e7, e2]; simp [ab_up], by rw [e12, e7]; simp [ab_up]; rfl, by rw [e12]; simp [ab_up]; rfl, fun c i k z => by rw [e12, e7, e2]; exact (ui_n _ (by omega)).trans ((ui_n _ (by omega)).trans (ui_n _ (by omega))), by rw [e12, e7, e2]⟩, rfl⟩
/-- a part joined -/
def pJ (u u' : ab_S) (p1 q1 n : Nat) : Prop := u'.1 2 p1 6 = nI (n + 1) ∧ u'.2.1 10 p1 n = some (2, q1) ∧ (∀ c i k, ¬ (c = 2 ∧ i = p1 ∧ k = 6) → u'.1 c i k = u.1 c i k) ∧ ∀ c i k, ¬ (c = 10 ∧ i = p1 ∧ k = n) → u'.2.1 c i k = u.2.1 c i k
set_option maxRecDepth 100000 in
set_option maxHeartbeats 1000000 in
theorem f_PT_join (u : ab_S) (p1 q1 n : Nat) (h : CI u) (hp : p1 < 20) (hq : q1 < 20) (en : u.1 2 p1 6 = nI n) (hn : n < 4) : ab_C false l D ca y_PT_join b_PT_join 2 none 0 ab_nQ u [ab_O 2 p1, ab_O 2 q1] (fun u' v => cP [2, 10] u u' ∧ pJ u u' p1 q1 n ∧ v = none) := by
  refine ab_C.of (by decide) (Nat.le_of_ble_eq_true rfl) ?_
  intro p e s m args below meth c ad X hZ hr0 hlk
  have P0 : cP [2, 10] u u := cQ.rf h
  obtain ⟨k, hk, ek, he⟩ := h.part hp
  obtain rfl : k = n := (nI_eq (by omega) (by omega)).mp (ek.symm.trans en)
  refine ab_aload_n X 0 d_PT_join_0 rfl rfl ?_
  refine ab_gI X fl_PT_37 d_PT_join_1 (by first | assumption | decide | (show _ < 124; omega) | (show _ < 61; omega) | (show _ < 20; omega)) (ek) ?_
  refine ab_iconst (v := 4) X d_PT_join_4 (by decide) ?_
  refine ab_icmp_ge X 28 d_PT_join_5 rfl (fun hb => absurd hb ((nI_ge (b := 4) hn (by decide)))) (fun _ => ?_)
  refine ab_aload_n X 0 d_PT_join_8 rfl rfl ?_
  refine ab_gR X fl_PT_11 d_PT_join_9 (by first | assumption | decide | (show _ < 124; omega) | (show _ < 61; omega) | (show _ < 20; omega)) (P0.1.pt0 (by first | assumption | decide | omega)) ?_
  refine ab_aload_n X 0 d_PT_join_12 rfl rfl ?_
  refine ab_gI X fl_PT_37 d_PT_join_13 (by first | assumption | decide | (show _ < 124; omega) | (show _ < 61; omega) | (show _ < 20; omega)) (ek) ?_
  refine ab_aload_n X 1 d_PT_join_16 rfl rfl ?_
  refine ab_aast X (k) ⟨rfl, rfl, _, rfl, fun _ => rfl⟩ d_PT_join_17 (by first | assumption | decide | (show _ < 124; omega) | (show _ < 61; omega) | (show _ < 20; omega)) (by first | assumption | decide | (show _ < 124; omega) | (show _ < 61; omega) | (show _ < 20; omega)) (rfl) (hn) (ab_ln_lt _ _) ?_
  refine ab_gen (fun u17 e17 => ?_)
  have P17 : cP [2, 10] u u17 := by rw [e17]; exact P0.pa (by decide) hq
  refine ab_aload_n X 0 d_PT_join_18 rfl rfl ?_
  refine ab_dup X d_PT_join_19 rfl ?_
  refine ab_gI X fl_PT_37 d_PT_join_20 (by first | assumption | decide | (show _ < 124; omega) | (show _ < 61; omega) | (show _ < 20; omega)) ((show _ = nI k by rw [e17]; exact ek)) ?_
  refine ab_iconst (v := 1) X d_PT_join_23 (by decide) ?_
  refine ab_iadd X d_PT_join_24 ?_
  refine ab_top (nI_1 _) ?_
  refine ab_putI X fp_PT_37 d_PT_join_25 (by first | assumption | decide | (show _ < 124; omega) | (show _ < 61; omega) | (show _ < 20; omega)) rfl rfl ?_
  refine ab_gen (fun u25 e25 => ?_)
  have P25 : cP [2, 10] u u25 := by rw [e25]; exact P17.pc (by decide) (by omega) (fun j hj => by
      by_cases q : j = k
      · subst q; rw [e17]; exact ⟨q1, hq, ab_up_s _ _ _ _ _⟩
      · obtain ⟨g', g1, g2⟩ := he j (by omega)
        refine ⟨g', g1, ?_⟩
        rw [e17]
        exact (ab_up_n _ _ (by omega)).trans g2)
  exact ab_retv X hr0 hlk d_PT_join_28 ⟨P25, ⟨gv e25, by rw [e25, e17]; exact ab_up_s _ _ _ _ _, fun c i z y => by rw [e25, e17]; exact ui_n _ (by omega), fun c i z y => by rw [e25, e17]; exact ab_up_n _ _ (by omega)⟩, rfl⟩
def mn (M : Nat) : Nat := if M < 19 then M else 19
def np (M : Nat) : Nat := if M < 19 then M + 1 else 0
theorem np_lt (M : Nat) : np M < 20 := by unfold np; split <;> omega
theorem mn_le (M : Nat) : mn M ≤ 19 := by unfold mn; split <;> omega
theorem np_in {M : Nat} (h : M < 19) : np M = M + 1 := if_pos h
def nP (u u' : ab_S) (M : Nat) (x : Int32) : Prop := u'.1 1 0 7 = nI (mn (M + 1)) ∧ u'.1 2 (np M) 4 = x ∧ u'.1 2 (np M) 5 = nI 0 ∧ u'.1 2 (np M) 6 = nI 0 ∧ (∀ c i k, ¬ (c = 1 ∧ k = 7) → ¬ (c = 2 ∧ i = np M ∧ (k = 4 ∨ k = 5 ∨ k = 6)) → u'.1 c i k = u.1 c i k) ∧ u'.2.1 = u.2.1
set_option maxRecDepth 100000 in
set_option maxHeartbeats 1000000 in
theorem f_RD_newPart (u : ab_S) (M : Nat) (x : Int32) (h : CI u) (eu : u.1 1 0 7 = nI (mn M)) : ab_C false l D ca y_RD_newPart b_RD_newPart 3 (some (FieldType.object "PolicyForge$Part")) 1 ab_nQ u [ab_O 1 0, ab_I x] (fun u' v => cP [1, 2, 10] u u' ∧ nP u u' M x ∧ v = some (ab_O 2 (np M))) := by
  refine ab_C.of (by decide) (Nat.le_of_ble_eq_true rfl) ?_
  intro p e s m args below meth c ad X hZ hr0 hlk
  have P0 : cP [1, 2, 10] u u := cQ.rf h
  by_cases hM : M < 19
  · have e1 : mn M = M := if_pos hM
    have e2 : np M = M + 1 := if_pos hM
    have e3 : mn (M + 1) = M + 1 := by unfold mn; split <;> omega
    rw [e1] at eu
    unfold nP
    rw [e2, e3]
    refine ab_aload_n X 0 d_RD_newPart_0 rfl rfl ?_
    refine ab_gR X fl_RD_22 d_RD_newPart_1 (by first | assumption | decide | (show _ < 124; omega) | (show _ < 61; omega) | (show _ < 20; omega)) (P0.1.rd2) ?_
    refine ab_astore_n2 X 0 1 d_RD_newPart_4 rfl (by decide) rfl rfl rfl rfl ?_
    refine ab_aload_n X 1 d_RD_newPart_5 rfl rfl ?_
    refine ab_gI X fl_RD_39 d_RD_newPart_6 (by first | assumption | decide | (show _ < 124; omega) | (show _ < 61; omega) | (show _ < 20; omega)) (eu) ?_
    refine ab_bipush (v := 19) X d_RD_newPart_9 (by decide) ?_
    refine ab_icmp_ge X 34 d_RD_newPart_11 rfl (fun hb => absurd hb ((nI_ge (b := 19) hM (by decide)))) (fun _ => ?_)
    refine ab_aload_n X 1 d_RD_newPart_14 rfl rfl ?_
    refine ab_gR X fl_RD_17 d_RD_newPart_15 (by first | assumption | decide | (show _ < 124; omega) | (show _ < 61; omega) | (show _ < 20; omega)) (P0.1.rd1) ?_
    refine ab_aload_n X 1 d_RD_newPart_18 rfl rfl ?_
    refine ab_gI X fl_RD_39 d_RD_newPart_19 (by first | assumption | decide | (show _ < 124; omega) | (show _ < 61; omega) | (show _ < 20; omega)) (eu) ?_
    refine ab_aalv X (M) ⟨rfl, _, fun _ => rfl⟩ d_RD_newPart_22 (by first | assumption | decide | (show _ < 124; omega) | (show _ < 61; omega) | (show _ < 20; omega)) (rfl) (hM) (ab_ln_lt _ _) (h.rp hM) ?_
    refine ab_astore_n2 X 1 2 d_RD_newPart_23 rfl (by decide) rfl rfl rfl rfl ?_
    refine ab_aload_n X 1 d_RD_newPart_24 rfl rfl ?_
    refine ab_dup X d_RD_newPart_25 rfl ?_
    refine ab_gI X fl_RD_39 d_RD_newPart_26 (by first | assumption | decide | (show _ < 124; omega) | (show _ < 61; omega) | (show _ < 20; omega)) (eu) ?_
    refine ab_iconst (v := 1) X d_RD_newPart_29 (by decide) ?_
    refine ab_iadd X d_RD_newPart_30 ?_
    refine ab_top (nI_1 _) ?_
    refine ab_putI X fp_RD_39 d_RD_newPart_31 (by first | assumption | decide | (show _ < 124; omega) | (show _ < 61; omega) | (show _ < 20; omega)) rfl rfl ?_
    refine ab_gen (fun u31 e31 => ?_)
    have P31 : cP [1, 2, 10] u u31 := by rw [e31]; exact P0.used (by decide) (by omega)
    refine ab_aload_n X 0 d_RD_newPart_34 rfl rfl ?_
    refine ab_iload_n X 2 d_RD_newPart_35 rfl rfl ?_
    refine ab_callV (as := [ab_I x]) X (fun h => by cases h) (f_PT_start u31 (M + 1) x P31.1 (by omega)) lk_RD_68 d_RD_newPart_36 rfl rfl (by first | assumption | decide | (show _ < 124; omega) | (show _ < 61; omega) | (show _ < 20; omega)) ⟨by first | exact Nat.le_of_ble_eq_true rfl | (simp only [ab_rm]; omega), by first | exact Nat.le_of_ble_eq_true rfl | (simp only [ab_rm]; omega)⟩ ⟨by first | exact Nat.le_of_ble_eq_true rfl | (simp only [ab_rm]; omega), by first | exact Nat.le_of_ble_eq_true rfl | (simp only [ab_rm]; omega)⟩ (Nat.le_of_ble_eq_true rfl) (fun u36 r36 h36 => ?_)
    obtain ⟨q36, S36, rfl⟩ := h36
    have P36 := P31.trans q36 (by decide)
    refine ab_aload_n X 0 d_RD_newPart_39 rfl rfl ?_
    exact ab_retr X hr0 hlk d_RD_newPart_40 ⟨P36, ⟨(S36.2.2.2.1 1 0 7 (by omega)).trans (gv e31), S36.1, S36.2.1, S36.2.2.1, fun c i k a b => (S36.2.2.2.1 c i k (by omega)).trans (by rw [e31]; exact ui_n _ (by omega)), S36.2.2.2.2.trans (by rw [e31])⟩, rfl⟩
  · have e1 : mn M = 19 := if_neg hM
    have e2 : np M = 0 := if_neg hM
    have e3 : mn (M + 1) = 19 := by unfold mn; split <;> omega
    rw [e1] at eu
    unfold nP
    rw [e2, e3]
    refine ab_aload_n X 0 d_RD_newPart_0 rfl rfl ?_
    refine ab_gR X fl_RD_22 d_RD_newPart_1 (by first | assumption | decide | (show _ < 124; omega) | (show _ < 61; omega) | (show _ < 20; omega)) (P0.1.rd2) ?_
    refine ab_astore_n2 X 0 1 d_RD_newPart_4 rfl (by decide) rfl rfl rfl rfl ?_
    refine ab_aload_n X 1 d_RD_newPart_5 rfl rfl ?_
    refine ab_gI X fl_RD_39 d_RD_newPart_6 (by first | assumption | decide | (show _ < 124; omega) | (show _ < 61; omega) | (show _ < 20; omega)) (eu) ?_
    refine ab_bipush (v := 19) X d_RD_newPart_9 (by decide) ?_
    refine ab_icmp_ge X 34 d_RD_newPart_11 rfl (fun _ => ?_) (fun hb => absurd ((by decide)) hb)
    refine ab_aload_n X 0 d_RD_newPart_34 rfl rfl ?_
    refine ab_iload_n X 2 d_RD_newPart_35 rfl rfl ?_
    refine ab_callV (as := [ab_I x]) X (fun h => by cases h) (f_PT_start u 0 x P0.1 (by omega)) lk_RD_68 d_RD_newPart_36 rfl rfl (by first | assumption | decide | (show _ < 124; omega) | (show _ < 61; omega) | (show _ < 20; omega)) ⟨by first | exact Nat.le_of_ble_eq_true rfl | (simp only [ab_rm]; omega), by first | exact Nat.le_of_ble_eq_true rfl | (simp only [ab_rm]; omega)⟩ ⟨by first | exact Nat.le_of_ble_eq_true rfl | (simp only [ab_rm]; omega), by first | exact Nat.le_of_ble_eq_true rfl | (simp only [ab_rm]; omega)⟩ (Nat.le_of_ble_eq_true rfl) (fun u36 r36 h36 => ?_)
    obtain ⟨q36, S36, rfl⟩ := h36
    have P36 := P0.trans q36 (by decide)
    refine ab_aload_n X 0 d_RD_newPart_39 rfl rfl ?_
    exact ab_retr X hr0 hlk d_RD_newPart_40 ⟨P36, ⟨(S36.2.2.2.1 1 0 7 (by omega)).trans eu, S36.1, S36.2.1, S36.2.2.1, fun c i k a b => S36.2.2.2.1 c i k (by omega), S36.2.2.2.2⟩, rfl⟩
end SaKindF

