/-! A form's lightest row, out of those of the forms in it. -/
theorem ln_2f {f : Nat} (h : f < 61) : ab_ln 8 (2 * f) = 40 := by
  unfold ab_ln
  rw [if_pos rfl, if_neg (by omega)]
theorem ln_122 : ab_ln 8 122 = 40 := by decide
section SaSLight
variable {l : Launch} {D : va_G} {ca : Nat → ClassId}
set_option maxRecDepth 100000 in
set_option maxHeartbeats 1000000 in
theorem x_FM_lightenLeaf (u : ab_S) (f k a : Nat) (a1 a2 a3 a4 : Int32) (f1 : u.1 6 0 0 = a1) (f2 : u.1 6 0 1 = a2) (f3 : u.1 6 0 2 = a3) (f4 : u.1 6 0 3 = a4) (em : u.1 3 f 5 = nI (1000 * k + a)) (ha : a < 1000) (hk : k < 8) (z0 : u.1 4 (2 * f) 3 = 0) (h : CI u) (hf : f < 61) : ab_C false l D ca y_FM_lightenLeaf b_FM_lightenLeaf 4 none 2 ab_nQ u [ab_O 3 f, ab_O 6 0] (fun u' v => (cP [4, 8] u u' ∧ rO (fun i => i = 2 * f ∨ i = 122) u u' ∧ Ro u' (2 * f) (if hl (nI k) (nI a) a1 a2 a3 a4 = 0 then none else some (lit k a))) ∧ v = none) := by
  refine ab_C.of (by decide) (Nat.le_of_ble_eq_true rfl) ?_
  intro p e s m args below meth c ad X hZ hr0 hlk
  have P0 : cP [4, 8] u u := cQ.rf h
  have e1 : nI (1000 * k + a) / 1000 = nI k := (pk_div (d := 1000) (by omega) (by decide) (by decide)).trans (by rw [show (1000 * k + a) / 1000 = k by omega])
  have e2 : nI (1000 * k + a) - nI (1000 * k + a) / 1000 * 1000 = nI a := (pk_rem (d := 1000) (by omega) (by decide) (by decide)).trans (by rw [show (1000 * k + a) % 1000 = a by omega])
  have ln := ln_2f hf
  have wk : ∀ {u1 : ab_S}, rO (fun i => i = 2 * f) u u1 → rO (fun i => i = 2 * f ∨ i = 122) u u1 := fun o => o.wk (fun i z => Or.inl z)
  by_cases hh : hl (nI k) (nI a) a1 a2 a3 a4 = 0
  ·
    refine ab_aload_n X 0 d_FM_lightenLeaf_0 rfl rfl ?_
    refine ab_gI X fl_FM_28 d_FM_lightenLeaf_1 (by first | assumption | decide | (show _ < 124; omega) | (show _ < 61; omega) | (show _ < 20; omega)) (em) ?_
    refine ab_sipush (v := 1000) X d_FM_lightenLeaf_4 (by decide) ?_
    refine ab_idiv X d_FM_lightenLeaf_7 (by decide) ?_
    refine ab_top e1 ?_
    refine ab_istore_n2 X 0 1 d_FM_lightenLeaf_8 rfl (by decide) rfl rfl rfl rfl ?_
    refine ab_aload_n X 1 d_FM_lightenLeaf_9 rfl rfl ?_
    refine ab_gI X fl_FM_28 d_FM_lightenLeaf_10 (by first | assumption | decide | (show _ < 124; omega) | (show _ < 61; omega) | (show _ < 20; omega)) (em) ?_
    refine ab_sipush (v := 1000) X d_FM_lightenLeaf_13 (by decide) ?_
    refine ab_irem X d_FM_lightenLeaf_16 (by decide) ?_
    refine ab_top e2 ?_
    refine ab_istore_n3 X 0 1 2 d_FM_lightenLeaf_17 rfl (by decide) rfl rfl rfl rfl rfl rfl ?_
    refine ab_aload_n X 3 d_FM_lightenLeaf_18 rfl rfl ?_
    refine ab_iload_n X 1 d_FM_lightenLeaf_19 rfl rfl ?_
    refine ab_iload_n X 0 d_FM_lightenLeaf_20 rfl rfl ?_
    refine ab_callV (as := [ab_I (nI k), ab_I (nI a)]) X (fun h => by cases h) (t_FA_meetF u (nI k) (nI a) a1 a2 a3 a4 h f1 f2 f3 f4) lk_FM_116 d_FM_lightenLeaf_21 rfl rfl (by first | assumption | decide | (show _ < 124; omega) | (show _ < 61; omega) | (show _ < 20; omega)) ⟨by first | exact Nat.le_of_ble_eq_true rfl | (simp only [ab_rm]; omega), by first | exact Nat.le_of_ble_eq_true rfl | (simp only [ab_rm]; omega)⟩ ⟨by first | exact Nat.le_of_ble_eq_true rfl | (simp only [ab_rm]; omega), by first | exact Nat.le_of_ble_eq_true rfl | (simp only [ab_rm]; omega)⟩ (Nat.le_of_ble_eq_true rfl) (fun u21 r21 h21 => ?_)
    obtain ⟨e21, rfl⟩ := h21
    subst u21
    refine ab_top hh ?_
    refine ab_if_ne X 28 d_FM_lightenLeaf_24 rfl (fun hb => absurd ((by decide)) hb) (fun _ => ?_)
    exact ab_retv X hr0 hlk d_FM_lightenLeaf_27 ⟨⟨P0, rO.rf, by rw [if_pos hh]; exact z0⟩, rfl⟩
  · have h1 : hl (nI k) (nI a) a1 a2 a3 a4 = 1 := hl_b.resolve_left hh
    by_cases k1 : k = 1
    · subst k1
      refine ab_aload_n X 0 d_FM_lightenLeaf_0 rfl rfl ?_
      refine ab_gI X fl_FM_28 d_FM_lightenLeaf_1 (by first | assumption | decide | (show _ < 124; omega) | (show _ < 61; omega) | (show _ < 20; omega)) (em) ?_
      refine ab_sipush (v := 1000) X d_FM_lightenLeaf_4 (by decide) ?_
      refine ab_idiv X d_FM_lightenLeaf_7 (by decide) ?_
      refine ab_top e1 ?_
      refine ab_istore_n2 X 0 1 d_FM_lightenLeaf_8 rfl (by decide) rfl rfl rfl rfl ?_
      refine ab_aload_n X 1 d_FM_lightenLeaf_9 rfl rfl ?_
      refine ab_gI X fl_FM_28 d_FM_lightenLeaf_10 (by first | assumption | decide | (show _ < 124; omega) | (show _ < 61; omega) | (show _ < 20; omega)) (em) ?_
      refine ab_sipush (v := 1000) X d_FM_lightenLeaf_13 (by decide) ?_
      refine ab_irem X d_FM_lightenLeaf_16 (by decide) ?_
      refine ab_top e2 ?_
      refine ab_istore_n3 X 0 1 2 d_FM_lightenLeaf_17 rfl (by decide) rfl rfl rfl rfl rfl rfl ?_
      refine ab_aload_n X 3 d_FM_lightenLeaf_18 rfl rfl ?_
      refine ab_iload_n X 1 d_FM_lightenLeaf_19 rfl rfl ?_
      refine ab_iload_n X 0 d_FM_lightenLeaf_20 rfl rfl ?_
      refine ab_callV (as := [ab_I (nI 1), ab_I (nI a)]) X (fun h => by cases h) (t_FA_meetF u (nI 1) (nI a) a1 a2 a3 a4 h f1 f2 f3 f4) lk_FM_116 d_FM_lightenLeaf_21 rfl rfl (by first | assumption | decide | (show _ < 124; omega) | (show _ < 61; omega) | (show _ < 20; omega)) ⟨by first | exact Nat.le_of_ble_eq_true rfl | (simp only [ab_rm]; omega), by first | exact Nat.le_of_ble_eq_true rfl | (simp only [ab_rm]; omega)⟩ ⟨by first | exact Nat.le_of_ble_eq_true rfl | (simp only [ab_rm]; omega), by first | exact Nat.le_of_ble_eq_true rfl | (simp only [ab_rm]; omega)⟩ (Nat.le_of_ble_eq_true rfl) (fun u21 r21 h21 => ?_)
      obtain ⟨e21, rfl⟩ := h21
      subst u21
      refine ab_top h1 ?_
      refine ab_if_ne X 28 d_FM_lightenLeaf_24 rfl (fun _ => ?_) (fun hb => absurd hb ((by decide)))
      refine ab_aload_n X 2 d_FM_lightenLeaf_28 rfl rfl ?_
      refine ab_gR X fl_FM_20 d_FM_lightenLeaf_29 (by first | assumption | decide | (show _ < 124; omega) | (show _ < 61; omega) | (show _ < 20; omega)) (P0.1.fm3 (by first | assumption | decide | omega)) ?_
      refine ab_callV (as := []) X (fun h => by cases h) (x_RW_start u (2 * f) h (by omega)) lk_FM_87 d_FM_lightenLeaf_32 rfl rfl (by first | assumption | decide | (show _ < 124; omega) | (show _ < 61; omega) | (show _ < 20; omega)) ⟨by first | exact Nat.le_of_ble_eq_true rfl | (simp only [ab_rm]; omega), by first | exact Nat.le_of_ble_eq_true rfl | (simp only [ab_rm]; omega)⟩ ⟨by first | exact Nat.le_of_ble_eq_true rfl | (simp only [ab_rm]; omega), by first | exact Nat.le_of_ble_eq_true rfl | (simp only [ab_rm]; omega)⟩ (Nat.le_of_ble_eq_true rfl) (fun u32 r32 h32 => ?_)
      obtain ⟨⟨q32, o32, r32⟩, rfl⟩ := h32
      have P32 := P0.trans q32 (by decide)
      refine ab_iload_n X 1 d_FM_lightenLeaf_35 rfl rfl ?_
      refine ab_iconst (v := 1) X d_FM_lightenLeaf_36 (by decide) ?_
      refine ab_icmp_ne X 54 d_FM_lightenLeaf_37 rfl (fun hb => absurd ((by decide)) hb) (fun _ => ?_)
      refine ab_aload_n X 2 d_FM_lightenLeaf_40 rfl rfl ?_
      refine ab_gR X fl_FM_20 d_FM_lightenLeaf_41 (by first | assumption | decide | (show _ < 124; omega) | (show _ < 61; omega) | (show _ < 20; omega)) (P32.1.fm3 (by first | assumption | decide | omega)) ?_
      refine ab_bipush (v := 10) X d_FM_lightenLeaf_44 (by decide) ?_
      refine ab_iload_n X 0 d_FM_lightenLeaf_46 rfl rfl ?_
      refine ab_iadd X d_FM_lightenLeaf_47 ?_
      refine ab_top (nI_add 10 a) ?_
      refine ab_callV (as := [ab_I (nI (10 + a))]) X (fun h => by cases h) (x_RW_add2 u32 (2 * f) (10 + a) [] r32 (by omega) (by rw [ln]; decide) P32.1 (by omega)) lk_FM_89 d_FM_lightenLeaf_48 rfl rfl (by first | assumption | decide | (show _ < 124; omega) | (show _ < 61; omega) | (show _ < 20; omega)) ⟨by first | exact Nat.le_of_ble_eq_true rfl | (simp only [ab_rm]; omega), by first | exact Nat.le_of_ble_eq_true rfl | (simp only [ab_rm]; omega)⟩ ⟨by first | exact Nat.le_of_ble_eq_true rfl | (simp only [ab_rm]; omega), by first | exact Nat.le_of_ble_eq_true rfl | (simp only [ab_rm]; omega)⟩ (Nat.le_of_ble_eq_true rfl) (fun u48 r48 h48 => ?_)
      obtain ⟨⟨q48, o48, r48⟩, rfl⟩ := h48
      have P48 := P32.trans q48 (by decide)
      refine ab_goto X 70 d_FM_lightenLeaf_51 rfl ?_
      exact ab_retv X hr0 hlk d_FM_lightenLeaf_70 ⟨⟨P48, wk (o32.trans o48), by rw [if_neg hh]; exact r48⟩, rfl⟩
    · by_cases k2 : k = 2
      · subst k2
        refine ab_aload_n X 0 d_FM_lightenLeaf_0 rfl rfl ?_
        refine ab_gI X fl_FM_28 d_FM_lightenLeaf_1 (by first | assumption | decide | (show _ < 124; omega) | (show _ < 61; omega) | (show _ < 20; omega)) (em) ?_
        refine ab_sipush (v := 1000) X d_FM_lightenLeaf_4 (by decide) ?_
        refine ab_idiv X d_FM_lightenLeaf_7 (by decide) ?_
        refine ab_top e1 ?_
        refine ab_istore_n2 X 0 1 d_FM_lightenLeaf_8 rfl (by decide) rfl rfl rfl rfl ?_
        refine ab_aload_n X 1 d_FM_lightenLeaf_9 rfl rfl ?_
        refine ab_gI X fl_FM_28 d_FM_lightenLeaf_10 (by first | assumption | decide | (show _ < 124; omega) | (show _ < 61; omega) | (show _ < 20; omega)) (em) ?_
        refine ab_sipush (v := 1000) X d_FM_lightenLeaf_13 (by decide) ?_
        refine ab_irem X d_FM_lightenLeaf_16 (by decide) ?_
        refine ab_top e2 ?_
        refine ab_istore_n3 X 0 1 2 d_FM_lightenLeaf_17 rfl (by decide) rfl rfl rfl rfl rfl rfl ?_
        refine ab_aload_n X 3 d_FM_lightenLeaf_18 rfl rfl ?_
        refine ab_iload_n X 1 d_FM_lightenLeaf_19 rfl rfl ?_
        refine ab_iload_n X 0 d_FM_lightenLeaf_20 rfl rfl ?_
        refine ab_callV (as := [ab_I (nI 2), ab_I (nI a)]) X (fun h => by cases h) (t_FA_meetF u (nI 2) (nI a) a1 a2 a3 a4 h f1 f2 f3 f4) lk_FM_116 d_FM_lightenLeaf_21 rfl rfl (by first | assumption | decide | (show _ < 124; omega) | (show _ < 61; omega) | (show _ < 20; omega)) ⟨by first | exact Nat.le_of_ble_eq_true rfl | (simp only [ab_rm]; omega), by first | exact Nat.le_of_ble_eq_true rfl | (simp only [ab_rm]; omega)⟩ ⟨by first | exact Nat.le_of_ble_eq_true rfl | (simp only [ab_rm]; omega), by first | exact Nat.le_of_ble_eq_true rfl | (simp only [ab_rm]; omega)⟩ (Nat.le_of_ble_eq_true rfl) (fun u21 r21 h21 => ?_)
        obtain ⟨e21, rfl⟩ := h21
        subst u21
        refine ab_top h1 ?_
        refine ab_if_ne X 28 d_FM_lightenLeaf_24 rfl (fun _ => ?_) (fun hb => absurd hb ((by decide)))
        refine ab_aload_n X 2 d_FM_lightenLeaf_28 rfl rfl ?_
        refine ab_gR X fl_FM_20 d_FM_lightenLeaf_29 (by first | assumption | decide | (show _ < 124; omega) | (show _ < 61; omega) | (show _ < 20; omega)) (P0.1.fm3 (by first | assumption | decide | omega)) ?_
        refine ab_callV (as := []) X (fun h => by cases h) (x_RW_start u (2 * f) h (by omega)) lk_FM_87 d_FM_lightenLeaf_32 rfl rfl (by first | assumption | decide | (show _ < 124; omega) | (show _ < 61; omega) | (show _ < 20; omega)) ⟨by first | exact Nat.le_of_ble_eq_true rfl | (simp only [ab_rm]; omega), by first | exact Nat.le_of_ble_eq_true rfl | (simp only [ab_rm]; omega)⟩ ⟨by first | exact Nat.le_of_ble_eq_true rfl | (simp only [ab_rm]; omega), by first | exact Nat.le_of_ble_eq_true rfl | (simp only [ab_rm]; omega)⟩ (Nat.le_of_ble_eq_true rfl) (fun u32 r32 h32 => ?_)
        obtain ⟨⟨q32, o32, r32⟩, rfl⟩ := h32
        have P32 := P0.trans q32 (by decide)
        refine ab_iload_n X 1 d_FM_lightenLeaf_35 rfl rfl ?_
        refine ab_iconst (v := 1) X d_FM_lightenLeaf_36 (by decide) ?_
        refine ab_icmp_ne X 54 d_FM_lightenLeaf_37 rfl (fun _ => ?_) (fun hb => absurd hb ((by decide)))
        refine ab_iload_n X 1 d_FM_lightenLeaf_54 rfl rfl ?_
        refine ab_iconst (v := 2) X d_FM_lightenLeaf_55 (by decide) ?_
        refine ab_icmp_ne X 70 d_FM_lightenLeaf_56 rfl (fun hb => absurd ((by decide)) hb) (fun _ => ?_)
        refine ab_aload_n X 2 d_FM_lightenLeaf_59 rfl rfl ?_
        refine ab_gR X fl_FM_20 d_FM_lightenLeaf_60 (by first | assumption | decide | (show _ < 124; omega) | (show _ < 61; omega) | (show _ < 20; omega)) (P32.1.fm3 (by first | assumption | decide | omega)) ?_
        refine ab_bipush (v := 20) X d_FM_lightenLeaf_63 (by decide) ?_
        refine ab_iload_n X 0 d_FM_lightenLeaf_65 rfl rfl ?_
        refine ab_iadd X d_FM_lightenLeaf_66 ?_
        refine ab_top (nI_add 20 a) ?_
        refine ab_callV (as := [ab_I (nI (20 + a))]) X (fun h => by cases h) (x_RW_add2 u32 (2 * f) (20 + a) [] r32 (by omega) (by rw [ln]; decide) P32.1 (by omega)) lk_FM_89 d_FM_lightenLeaf_67 rfl rfl (by first | assumption | decide | (show _ < 124; omega) | (show _ < 61; omega) | (show _ < 20; omega)) ⟨by first | exact Nat.le_of_ble_eq_true rfl | (simp only [ab_rm]; omega), by first | exact Nat.le_of_ble_eq_true rfl | (simp only [ab_rm]; omega)⟩ ⟨by first | exact Nat.le_of_ble_eq_true rfl | (simp only [ab_rm]; omega), by first | exact Nat.le_of_ble_eq_true rfl | (simp only [ab_rm]; omega)⟩ (Nat.le_of_ble_eq_true rfl) (fun u67 r67 h67 => ?_)
        obtain ⟨⟨q67, o67, r67⟩, rfl⟩ := h67
        have P67 := P32.trans q67 (by decide)
        exact ab_retv X hr0 hlk d_FM_lightenLeaf_70 ⟨⟨P67, wk (o32.trans o67), by rw [if_neg hh]; exact r67⟩, rfl⟩
      · have n1 : ¬ nI k = 1 := fun z => k1 ((nI_eq (b := 1) (by omega) (by decide)).mp z)
        have n2 : ¬ nI k = 2 := fun z => k2 ((nI_eq (b := 2) (by omega) (by decide)).mp z)
        have el : lit k a = [] := (if_neg k1).trans (if_neg k2)
        refine ab_aload_n X 0 d_FM_lightenLeaf_0 rfl rfl ?_
        refine ab_gI X fl_FM_28 d_FM_lightenLeaf_1 (by first | assumption | decide | (show _ < 124; omega) | (show _ < 61; omega) | (show _ < 20; omega)) (em) ?_
        refine ab_sipush (v := 1000) X d_FM_lightenLeaf_4 (by decide) ?_
        refine ab_idiv X d_FM_lightenLeaf_7 (by decide) ?_
        refine ab_top e1 ?_
        refine ab_istore_n2 X 0 1 d_FM_lightenLeaf_8 rfl (by decide) rfl rfl rfl rfl ?_
        refine ab_aload_n X 1 d_FM_lightenLeaf_9 rfl rfl ?_
        refine ab_gI X fl_FM_28 d_FM_lightenLeaf_10 (by first | assumption | decide | (show _ < 124; omega) | (show _ < 61; omega) | (show _ < 20; omega)) (em) ?_
        refine ab_sipush (v := 1000) X d_FM_lightenLeaf_13 (by decide) ?_
        refine ab_irem X d_FM_lightenLeaf_16 (by decide) ?_
        refine ab_top e2 ?_
        refine ab_istore_n3 X 0 1 2 d_FM_lightenLeaf_17 rfl (by decide) rfl rfl rfl rfl rfl rfl ?_
        refine ab_aload_n X 3 d_FM_lightenLeaf_18 rfl rfl ?_
        refine ab_iload_n X 1 d_FM_lightenLeaf_19 rfl rfl ?_
        refine ab_iload_n X 0 d_FM_lightenLeaf_20 rfl rfl ?_
        refine ab_callV (as := [ab_I (nI k), ab_I (nI a)]) X (fun h => by cases h) (t_FA_meetF u (nI k) (nI a) a1 a2 a3 a4 h f1 f2 f3 f4) lk_FM_116 d_FM_lightenLeaf_21 rfl rfl (by first | assumption | decide | (show _ < 124; omega) | (show _ < 61; omega) | (show _ < 20; omega)) ⟨by first | exact Nat.le_of_ble_eq_true rfl | (simp only [ab_rm]; omega), by first | exact Nat.le_of_ble_eq_true rfl | (simp only [ab_rm]; omega)⟩ ⟨by first | exact Nat.le_of_ble_eq_true rfl | (simp only [ab_rm]; omega), by first | exact Nat.le_of_ble_eq_true rfl | (simp only [ab_rm]; omega)⟩ (Nat.le_of_ble_eq_true rfl) (fun u21 r21 h21 => ?_)
        obtain ⟨e21, rfl⟩ := h21
        subst u21
        refine ab_top h1 ?_
        refine ab_if_ne X 28 d_FM_lightenLeaf_24 rfl (fun _ => ?_) (fun hb => absurd hb ((by decide)))
        refine ab_aload_n X 2 d_FM_lightenLeaf_28 rfl rfl ?_
        refine ab_gR X fl_FM_20 d_FM_lightenLeaf_29 (by first | assumption | decide | (show _ < 124; omega) | (show _ < 61; omega) | (show _ < 20; omega)) (P0.1.fm3 (by first | assumption | decide | omega)) ?_
        refine ab_callV (as := []) X (fun h => by cases h) (x_RW_start u (2 * f) h (by omega)) lk_FM_87 d_FM_lightenLeaf_32 rfl rfl (by first | assumption | decide | (show _ < 124; omega) | (show _ < 61; omega) | (show _ < 20; omega)) ⟨by first | exact Nat.le_of_ble_eq_true rfl | (simp only [ab_rm]; omega), by first | exact Nat.le_of_ble_eq_true rfl | (simp only [ab_rm]; omega)⟩ ⟨by first | exact Nat.le_of_ble_eq_true rfl | (simp only [ab_rm]; omega), by first | exact Nat.le_of_ble_eq_true rfl | (simp only [ab_rm]; omega)⟩ (Nat.le_of_ble_eq_true rfl) (fun u32 r32 h32 => ?_)
        obtain ⟨⟨q32, o32, r32⟩, rfl⟩ := h32
        have P32 := P0.trans q32 (by decide)
        refine ab_iload_n X 1 d_FM_lightenLeaf_35 rfl rfl ?_
        refine ab_iconst (v := 1) X d_FM_lightenLeaf_36 (by decide) ?_
        refine ab_icmp_ne X 54 d_FM_lightenLeaf_37 rfl (fun _ => ?_) (fun hb => absurd hb (n1))
        refine ab_iload_n X 1 d_FM_lightenLeaf_54 rfl rfl ?_
        refine ab_iconst (v := 2) X d_FM_lightenLeaf_55 (by decide) ?_
        refine ab_icmp_ne X 70 d_FM_lightenLeaf_56 rfl (fun _ => ?_) (fun hb => absurd hb (n2))
        exact ab_retv X hr0 hlk d_FM_lightenLeaf_70 ⟨⟨P32, wk o32, by rw [if_neg hh, el]; exact r32⟩, rfl⟩
set_option maxRecDepth 100000 in
set_option maxHeartbeats 1000000 in
theorem x_FM_tryBranch (u : ab_S) (f g x : Nat) (o a : Option (List Nat)) (A : Ro u (2 * f) o) (B : Ro u (2 * g) a) (bo : oB 40 o) (ba : oB 39 a) (hx : x < 2) (h : CI u) (hf : f < 61) (hg : g < 61) : ab_C false l D ca y_FM_tryBranch b_FM_tryBranch 4 none 4 ab_nQ u [ab_O 3 f, ab_O 4 122, ab_I (nI x), ab_O 3 g] (fun u' v => (cP [4, 8] u u' ∧ rO (fun i => i = 2 * f ∨ i = 122) u u' ∧ Ro u' (2 * f) (bet o (jn (some [x]) a))) ∧ v = none) := by
  refine ab_C.of (by decide) (Nat.le_of_ble_eq_true rfl) ?_
  intro p e s m args below meth c ad X hZ hr0 hlk
  have P0 : cP [4, 8] u u := cQ.rf h
  have b1 : oB 40 (jn (some [x]) a) := oB.jnB (m := 1) (n := 39) (oB.some (Nat.le_refl _) (fun y hy => by rw [List.mem_singleton] at hy; exact Or.inl (by omega))) ba
  have ng : ¬ 2 * g = 122 := by omega
  have nf : ¬ 2 * f = 122 := by omega
  refine ab_aload_n X 1 d_FM_tryBranch_0 rfl rfl ?_
  refine ab_callV (as := []) X (fun h => by cases h) (x_RW_start u 122 h (by decide)) lk_FM_87 d_FM_tryBranch_1 rfl rfl (by first | assumption | decide | (show _ < 124; omega) | (show _ < 61; omega) | (show _ < 20; omega)) ⟨by first | exact Nat.le_of_ble_eq_true rfl | (simp only [ab_rm]; omega), by first | exact Nat.le_of_ble_eq_true rfl | (simp only [ab_rm]; omega)⟩ ⟨by first | exact Nat.le_of_ble_eq_true rfl | (simp only [ab_rm]; omega), by first | exact Nat.le_of_ble_eq_true rfl | (simp only [ab_rm]; omega)⟩ (Nat.le_of_ble_eq_true rfl) (fun u1 r1 h1 => ?_)
  obtain ⟨⟨q1, o1, r1⟩, rfl⟩ := h1
  have P1 := P0.trans q1 (by decide)
  refine ab_aload_n X 1 d_FM_tryBranch_4 rfl rfl ?_
  refine ab_iload_n X 2 d_FM_tryBranch_5 rfl rfl ?_
  refine ab_callV (as := [ab_I (nI x)]) X (fun h => by cases h) (x_RW_add u1 122 x [] r1 (by omega) (by decide) P1.1 (by decide)) lk_FM_89 d_FM_tryBranch_6 rfl rfl (by first | assumption | decide | (show _ < 124; omega) | (show _ < 61; omega) | (show _ < 20; omega)) ⟨by first | exact Nat.le_of_ble_eq_true rfl | (simp only [ab_rm]; omega), by first | exact Nat.le_of_ble_eq_true rfl | (simp only [ab_rm]; omega)⟩ ⟨by first | exact Nat.le_of_ble_eq_true rfl | (simp only [ab_rm]; omega), by first | exact Nat.le_of_ble_eq_true rfl | (simp only [ab_rm]; omega)⟩ (Nat.le_of_ble_eq_true rfl) (fun u6 r6 h6 => ?_)
  obtain ⟨⟨q6, o6, r6⟩, rfl⟩ := h6
  have P6 := P1.trans q6 (by decide)
  refine ab_aload_n X 1 d_FM_tryBranch_9 rfl rfl ?_
  refine ab_aload_n X 3 d_FM_tryBranch_10 rfl rfl ?_
  refine ab_gR X fl_FM_20 d_FM_tryBranch_11 (by first | assumption | decide | (show _ < 124; omega) | (show _ < 61; omega) | (show _ < 20; omega)) (P6.1.fm3 (by first | assumption | decide | omega)) ?_
  refine ab_callV (as := [ab_O 4 (2 * g)]) X (fun h => by cases h) (x_RW_joinO u6 122 (2 * g) (some [x]) a r6 ((B.fr o1 ng).fr o6 ng) (fun z => ng z.symm) (fun xs ys ex ey => by cases ex; rw [ln_122]; have := (ba ys ey).1; show 1 + ys.length ≤ 40; omega) P6.1 (by decide) (by omega)) lk_FM_92 d_FM_tryBranch_14 rfl rfl (by first | assumption | decide | (show _ < 124; omega) | (show _ < 61; omega) | (show _ < 20; omega)) ⟨by first | exact Nat.le_of_ble_eq_true rfl | (simp only [ab_rm]; omega), by first | exact Nat.le_of_ble_eq_true rfl | (simp only [ab_rm]; omega)⟩ ⟨by first | exact Nat.le_of_ble_eq_true rfl | (simp only [ab_rm]; omega), by first | exact Nat.le_of_ble_eq_true rfl | (simp only [ab_rm]; omega)⟩ (Nat.le_of_ble_eq_true rfl) (fun u14 r14 h14 => ?_)
  obtain ⟨⟨q14, o14, r14⟩, rfl⟩ := h14
  have P14 := P6.trans q14 (by decide)
  refine ab_aload_n X 0 d_FM_tryBranch_17 rfl rfl ?_
  refine ab_gR X fl_FM_20 d_FM_tryBranch_18 (by first | assumption | decide | (show _ < 124; omega) | (show _ < 61; omega) | (show _ < 20; omega)) (P14.1.fm3 (by first | assumption | decide | omega)) ?_
  refine ab_aload_n X 1 d_FM_tryBranch_21 rfl rfl ?_
  refine ab_callV (as := [ab_O 4 122]) X (fun h => by cases h) (x_RW_bil u14 (2 * f) 122 o (jn (some [x]) a) (((A.fr o1 nf).fr o6 nf).fr o14 nf) r14 bo b1 (ln_2f hf) nf P14.1 (by omega) (by decide)) lk_FM_107 d_FM_tryBranch_22 rfl rfl (by first | assumption | decide | (show _ < 124; omega) | (show _ < 61; omega) | (show _ < 20; omega)) ⟨by first | exact Nat.le_of_ble_eq_true rfl | (simp only [ab_rm]; omega), by first | exact Nat.le_of_ble_eq_true rfl | (simp only [ab_rm]; omega)⟩ ⟨by first | exact Nat.le_of_ble_eq_true rfl | (simp only [ab_rm]; omega), by first | exact Nat.le_of_ble_eq_true rfl | (simp only [ab_rm]; omega)⟩ (Nat.le_of_ble_eq_true rfl) (fun u22 r22 h22 => ?_)
  obtain ⟨⟨q22, o22, r22⟩, rfl⟩ := h22
  have P22 := P14.trans q22 (by decide)
  exact ab_retv X hr0 hlk d_FM_tryBranch_25 ⟨⟨P22, (((o1.trans o6).trans o14).wk (fun i z => Or.inr z)).trans (o22.wk (fun i z => Or.inl z)), r22⟩, rfl⟩
set_option maxRecDepth 100000 in
set_option maxHeartbeats 1000000 in
theorem x_FM_tryChoice (u : ab_S) (f nc cc : Nat) (g : Nat → Nat) (o : Option (List Nat)) (a b : Nat → Option (List Nat)) (en : u.1 3 f 7 = nI nc) (hnc : nc ≤ 4) (eg : ∀ i, i < nc → u.2.1 9 f i = some (3, g i)) (hg : ∀ i, i < nc → g i < 61) (K : ∀ i, i < nc → cc / 2 ^ i % 2 = 1 → Ro u (2 * g i) (a i)) (K2 : ∀ i, i < nc → ¬ cc / 2 ^ i % 2 = 1 → Ro u (2 * g i + 1) (b i)) (bL : ∀ i, i ≤ nc → oB 40 (jns a b cc i)) (A : Ro u (2 * f) o) (bo : oB 40 o) (hcc : cc < 16) (h : CI u) (hf : f < 61) : ab_C false l D ca y_FM_tryChoice b_FM_tryChoice 5 none 4 ab_nQ u [ab_O 3 f, ab_O 4 122, ab_I (nI cc)] (fun u' v => (cP [4, 8] u u' ∧ rO (fun i => i = 2 * f ∨ i = 122) u u' ∧ Ro u' (2 * f) (bet o (jns a b cc nc))) ∧ v = none) := by
  refine ab_C.of (by decide) (Nat.le_of_ble_eq_true rfl) ?_
  intro p e s m args below meth c ad X hZ hr0 hlk
  have P0 : cP [4, 8] u u := cQ.rf h
  have nf : ¬ 2 * f = 122 := by omega
  have loop : ∀ (k j : Nat) (u1 : ab_S), k + j = nc → cP [4, 8] u u1 → rO (fun i => i = 122) u u1 → Ro u1 122 (jns a b cc j) → ab_J p l e (ab_rm 4 0 0) s m args below meth c (MQ below (ab_Q D ca ad ab_nQ s.heap.size (fun u' v => (cP [4, 8] u u' ∧ rO (fun i => i = 2 * f ∨ i = 122) u u' ∧ Ro u' (2 * f) (bet o (jns a b cc nc))) ∧ v = none)) args s 0 0 (ab_A ad ab_nQ s.heap.size)) D ca (ab_A ad ab_nQ s.heap.size) s.heap 5 0 0 ad ab_nQ u1 6 [(3, ab_I (nI j)), (0, ab_O 3 f), (1, ab_O 4 122), (2, ab_I (nI cc))] [] := by
    intro k
    induction k with
    | zero =>
      intro j u1 hj P1 O1 R1
      obtain rfl : j = nc := by omega
      refine ab_iload_n X 0 d_FM_tryChoice_6 rfl rfl ?_
      refine ab_aload_n X 1 d_FM_tryChoice_7 rfl rfl ?_
      refine ab_gI X fl_FM_34 d_FM_tryChoice_8 (by first | assumption | decide | (show _ < 124; omega) | (show _ < 61; omega) | (show _ < 20; omega)) (P1.ii (by decide) en) ?_
      refine ab_icmp_ge X 66 d_FM_tryChoice_11 rfl (fun _ => ?_) (fun hb => absurd ((nI_le (by omega) (by omega))) hb)
      refine ab_aload_n X 1 d_FM_tryChoice_66 rfl rfl ?_
      refine ab_gR X fl_FM_20 d_FM_tryChoice_67 (by first | assumption | decide | (show _ < 124; omega) | (show _ < 61; omega) | (show _ < 20; omega)) (P1.1.fm3 (by first | assumption | decide | omega)) ?_
      refine ab_aload_n X 2 d_FM_tryChoice_70 rfl rfl ?_
      refine ab_callV (as := [ab_O 4 122]) X (fun h => by cases h) (x_RW_bil u1 (2 * f) 122 o (jns a b cc j) (A.fr O1 nf) R1 bo (bL j (Nat.le_refl _)) (ln_2f hf) nf P1.1 (by omega) (by decide)) lk_FM_107 d_FM_tryChoice_71 rfl rfl (by first | assumption | decide | (show _ < 124; omega) | (show _ < 61; omega) | (show _ < 20; omega)) ⟨by first | exact Nat.le_of_ble_eq_true rfl | (simp only [ab_rm]; omega), by first | exact Nat.le_of_ble_eq_true rfl | (simp only [ab_rm]; omega)⟩ ⟨by first | exact Nat.le_of_ble_eq_true rfl | (simp only [ab_rm]; omega), by first | exact Nat.le_of_ble_eq_true rfl | (simp only [ab_rm]; omega)⟩ (Nat.le_of_ble_eq_true rfl) (fun u71 r71 h71 => ?_)
      obtain ⟨⟨q71, o71, r71⟩, rfl⟩ := h71
      have P71 := P1.trans q71 (by decide)
      exact ab_retv X hr0 hlk d_FM_tryChoice_74 ⟨⟨P71, (O1.wk (fun i z => Or.inr z)).trans (o71.wk (fun i z => Or.inl z)), r71⟩, rfl⟩
    | succ k ih =>
      intro j u1 hj P1 O1 R1
      have hj1 : j < nc := by omega
      have gj := hg j hj1
      have n1 : ¬ 2 * g j = 122 := by omega
      have n2 : ¬ 2 * g j + 1 = 122 := by omega
      have ln : ∀ (c : Option (List Nat)), jns a b cc (j + 1) = jn (jns a b cc j) c → ∀ xs ys, jns a b cc j = some xs → c = some ys → xs.length + ys.length ≤ ab_ln 8 122 := fun c e xs ys ex ey => by
        rw [ln_122, ← List.length_append]
        refine ((bL (j + 1) (by omega)) (xs ++ ys) ?_).1
        rw [e, ex, ey]; rfl
      by_cases bt1 : cc / 2 ^ j % 2 = 1
      · have st : jns a b cc (j + 1) = jn (jns a b cc j) (a j) := by show jn _ (if _ then _ else _) = _; rw [if_pos bt1]
        have eb : nI (cc / 2 ^ j % 2) = 1 := by rw [bt1]; rfl
        refine ab_iload_n X 0 d_FM_tryChoice_6 rfl rfl ?_
        refine ab_aload_n X 1 d_FM_tryChoice_7 rfl rfl ?_
        refine ab_gI X fl_FM_34 d_FM_tryChoice_8 (by first | assumption | decide | (show _ < 124; omega) | (show _ < 61; omega) | (show _ < 20; omega)) (P1.ii (by decide) en) ?_
        refine ab_icmp_ge X 66 d_FM_tryChoice_11 rfl (fun hb => absurd hb ((nI_ge (by omega) (by omega)))) (fun _ => ?_)
        refine ab_iload_n X 3 d_FM_tryChoice_14 rfl rfl ?_
        refine ab_iload_n X 0 d_FM_tryChoice_15 rfl rfl ?_
        refine ab_ishr X d_FM_tryChoice_16 ?_
        refine ab_iconst (v := 1) X d_FM_tryChoice_17 (by decide) ?_
        refine ab_iand X d_FM_tryChoice_18 ?_
        refine ab_top ((th_bit cc hcc j (by omega)).trans eb) ?_
        refine ab_iconst (v := 1) X d_FM_tryChoice_19 (by decide) ?_
        refine ab_icmp_ne X 27 d_FM_tryChoice_20 rfl (fun hb => absurd ((by decide)) hb) (fun _ => ?_)
        refine ab_iconst (v := 1) X d_FM_tryChoice_23 (by decide) ?_
        refine ab_goto X 28 d_FM_tryChoice_24 rfl ?_
        refine ab_istore4 X 0 1 2 3 d_FM_tryChoice_28 (by decide) rfl rfl rfl rfl rfl rfl rfl rfl ?_
        refine ab_aload_n X 3 d_FM_tryChoice_30 rfl rfl ?_
        refine ab_iload X 0 d_FM_tryChoice_31 rfl ?_
        refine ab_if_eq X 48 d_FM_tryChoice_33 rfl (fun hb => absurd hb ((by decide))) (fun _ => ?_)
        refine ab_aload_n X 2 d_FM_tryChoice_36 rfl rfl ?_
        refine ab_gR X fl_FM_11 d_FM_tryChoice_37 (by first | assumption | decide | (show _ < 124; omega) | (show _ < 61; omega) | (show _ < 20; omega)) (P1.1.fm0 (by first | assumption | decide | omega)) ?_
        refine ab_iload_n X 1 d_FM_tryChoice_40 rfl rfl ?_
        refine ab_aalv X (j) ⟨rfl, _, fun _ => rfl⟩ d_FM_tryChoice_41 (by first | assumption | decide | (show _ < 124; omega) | (show _ < 61; omega) | (show _ < 20; omega)) (rfl) (show j < 4 by omega) (ab_ln_lt _ _) (P1.rr (by decide) (eg j hj1)) ?_
        refine ab_gR X fl_FM_20 d_FM_tryChoice_42 (by first | assumption | decide | (show _ < 124; omega) | (show _ < 61; omega) | (show _ < 20; omega)) (P1.1.fm3 (by first | assumption | decide | omega)) ?_
        refine ab_goto X 57 d_FM_tryChoice_45 rfl ?_
        refine ab_callV (as := [ab_O 4 (2 * g j)]) X (fun h => by cases h) (x_RW_joinO u1 122 (2 * g j) (jns a b cc j) (a j) R1 ((K j hj1 bt1).fr O1 n1) (fun z => n1 z.symm) (ln _ st) P1.1 (by decide) (by omega)) lk_FM_92 d_FM_tryChoice_57 rfl rfl (by first | assumption | decide | (show _ < 124; omega) | (show _ < 61; omega) | (show _ < 20; omega)) ⟨by first | exact Nat.le_of_ble_eq_true rfl | (simp only [ab_rm]; omega), by first | exact Nat.le_of_ble_eq_true rfl | (simp only [ab_rm]; omega)⟩ ⟨by first | exact Nat.le_of_ble_eq_true rfl | (simp only [ab_rm]; omega), by first | exact Nat.le_of_ble_eq_true rfl | (simp only [ab_rm]; omega)⟩ (Nat.le_of_ble_eq_true rfl) (fun u57 r57 h57 => ?_)
        obtain ⟨⟨q57, o57, r57⟩, rfl⟩ := h57
        have P57 := P1.trans q57 (by decide)
        refine ab_iinc4 X 1 0 2 3 4 d_FM_tryChoice_60 rfl (by decide) rfl rfl rfl rfl rfl rfl rfl rfl ?_
        refine ab_goto X 6 d_FM_tryChoice_63 rfl ?_
        refine ab_lv (List.forall_mem_cons.mpr ⟨List.mem_of_getElem? (i := 0) rfl, List.forall_mem_cons.mpr ⟨List.mem_of_getElem? (i := 2) rfl, List.forall_mem_cons.mpr ⟨List.mem_of_getElem? (i := 3) rfl, List.forall_mem_cons.mpr ⟨List.mem_of_getElem? (i := 4) rfl, fun _ h => absurd h List.not_mem_nil⟩⟩⟩⟩) ?_
        rw [show nI j + Int32.ofInt 1 = nI (j + 1) from nI_1 j]
        rw [← st] at r57
        exact ih (j + 1) _ (by omega) P57 (O1.trans o57) r57
      · have st : jns a b cc (j + 1) = jn (jns a b cc j) (b j) := by show jn _ (if _ then _ else _) = _; rw [if_neg bt1]
        have eb : nI (cc / 2 ^ j % 2) = 0 := by rw [show cc / 2 ^ j % 2 = 0 by omega]; rfl
        refine ab_iload_n X 0 d_FM_tryChoice_6 rfl rfl ?_
        refine ab_aload_n X 1 d_FM_tryChoice_7 rfl rfl ?_
        refine ab_gI X fl_FM_34 d_FM_tryChoice_8 (by first | assumption | decide | (show _ < 124; omega) | (show _ < 61; omega) | (show _ < 20; omega)) (P1.ii (by decide) en) ?_
        refine ab_icmp_ge X 66 d_FM_tryChoice_11 rfl (fun hb => absurd hb ((nI_ge (by omega) (by omega)))) (fun _ => ?_)
        refine ab_iload_n X 3 d_FM_tryChoice_14 rfl rfl ?_
        refine ab_iload_n X 0 d_FM_tryChoice_15 rfl rfl ?_
        refine ab_ishr X d_FM_tryChoice_16 ?_
        refine ab_iconst (v := 1) X d_FM_tryChoice_17 (by decide) ?_
        refine ab_iand X d_FM_tryChoice_18 ?_
        refine ab_top ((th_bit cc hcc j (by omega)).trans eb) ?_
        refine ab_iconst (v := 1) X d_FM_tryChoice_19 (by decide) ?_
        refine ab_icmp_ne X 27 d_FM_tryChoice_20 rfl (fun _ => ?_) (fun hb => absurd hb ((by decide)))
        refine ab_iconst (v := 0) X d_FM_tryChoice_27 (by decide) ?_
        refine ab_istore4 X 0 1 2 3 d_FM_tryChoice_28 (by decide) rfl rfl rfl rfl rfl rfl rfl rfl ?_
        refine ab_aload_n X 3 d_FM_tryChoice_30 rfl rfl ?_
        refine ab_iload X 0 d_FM_tryChoice_31 rfl ?_
        refine ab_if_eq X 48 d_FM_tryChoice_33 rfl (fun _ => ?_) (fun hb => absurd (rfl) hb)
        refine ab_aload_n X 2 d_FM_tryChoice_48 rfl rfl ?_
        refine ab_gR X fl_FM_11 d_FM_tryChoice_49 (by first | assumption | decide | (show _ < 124; omega) | (show _ < 61; omega) | (show _ < 20; omega)) (P1.1.fm0 (by first | assumption | decide | omega)) ?_
        refine ab_iload_n X 1 d_FM_tryChoice_52 rfl rfl ?_
        refine ab_aalv X (j) ⟨rfl, _, fun _ => rfl⟩ d_FM_tryChoice_53 (by first | assumption | decide | (show _ < 124; omega) | (show _ < 61; omega) | (show _ < 20; omega)) (rfl) (show j < 4 by omega) (ab_ln_lt _ _) (P1.rr (by decide) (eg j hj1)) ?_
        refine ab_gR X fl_FM_47 d_FM_tryChoice_54 (by first | assumption | decide | (show _ < 124; omega) | (show _ < 61; omega) | (show _ < 20; omega)) (P1.1.fm2 (by first | assumption | decide | omega)) ?_
        refine ab_callV (as := [ab_O 4 (2 * g j + 1)]) X (fun h => by cases h) (x_RW_joinO u1 122 (2 * g j + 1) (jns a b cc j) (b j) R1 ((K2 j hj1 bt1).fr O1 n2) (fun z => n2 z.symm) (ln _ st) P1.1 (by decide) (by omega)) lk_FM_92 d_FM_tryChoice_57 rfl rfl (by first | assumption | decide | (show _ < 124; omega) | (show _ < 61; omega) | (show _ < 20; omega)) ⟨by first | exact Nat.le_of_ble_eq_true rfl | (simp only [ab_rm]; omega), by first | exact Nat.le_of_ble_eq_true rfl | (simp only [ab_rm]; omega)⟩ ⟨by first | exact Nat.le_of_ble_eq_true rfl | (simp only [ab_rm]; omega), by first | exact Nat.le_of_ble_eq_true rfl | (simp only [ab_rm]; omega)⟩ (Nat.le_of_ble_eq_true rfl) (fun u57 r57 h57 => ?_)
        obtain ⟨⟨q57, o57, r57⟩, rfl⟩ := h57
        have P57 := P1.trans q57 (by decide)
        refine ab_iinc4 X 1 0 2 3 4 d_FM_tryChoice_60 rfl (by decide) rfl rfl rfl rfl rfl rfl rfl rfl ?_
        refine ab_goto X 6 d_FM_tryChoice_63 rfl ?_
        refine ab_lv (List.forall_mem_cons.mpr ⟨List.mem_of_getElem? (i := 0) rfl, List.forall_mem_cons.mpr ⟨List.mem_of_getElem? (i := 2) rfl, List.forall_mem_cons.mpr ⟨List.mem_of_getElem? (i := 3) rfl, List.forall_mem_cons.mpr ⟨List.mem_of_getElem? (i := 4) rfl, fun _ h => absurd h List.not_mem_nil⟩⟩⟩⟩) ?_
        rw [show nI j + Int32.ofInt 1 = nI (j + 1) from nI_1 j]
        rw [← st] at r57
        exact ih (j + 1) _ (by omega) P57 (O1.trans o57) r57
  refine ab_aload_n X 1 d_FM_tryChoice_0 rfl rfl ?_
  refine ab_callV (as := []) X (fun h => by cases h) (x_RW_start u 122 h (by decide)) lk_FM_87 d_FM_tryChoice_1 rfl rfl (by first | assumption | decide | (show _ < 124; omega) | (show _ < 61; omega) | (show _ < 20; omega)) ⟨by first | exact Nat.le_of_ble_eq_true rfl | (simp only [ab_rm]; omega), by first | exact Nat.le_of_ble_eq_true rfl | (simp only [ab_rm]; omega)⟩ ⟨by first | exact Nat.le_of_ble_eq_true rfl | (simp only [ab_rm]; omega), by first | exact Nat.le_of_ble_eq_true rfl | (simp only [ab_rm]; omega)⟩ (Nat.le_of_ble_eq_true rfl) (fun u1 r1 h1 => ?_)
  obtain ⟨⟨q1, o1, r1⟩, rfl⟩ := h1
  have P1 := P0.trans q1 (by decide)
  refine ab_iconst (v := 0) X d_FM_tryChoice_4 (by decide) ?_
  refine ab_istore_n3 X 0 1 2 d_FM_tryChoice_5 rfl (by decide) rfl rfl rfl rfl rfl rfl ?_
  exact loop nc 0 _ (by omega) P1 o1 r1
theorem pcn_all : ∀ n, n ≤ 4 → ∀ c, c < 2 ^ n → pcn c = n → ∀ i, i < n → c / 2 ^ i % 2 = 1 := by decide +kernel
set_option maxRecDepth 100000 in
set_option maxHeartbeats 1000000 in
theorem x_FM_lightenChoices (u : ab_S) (f nc nd : Nat) (g : Nat → Nat) (a b : Nat → Option (List Nat)) (en : u.1 3 f 7 = nI nc) (e6 : u.1 3 f 6 = nI nd) (hnc : nc ≤ 4) (hnd : nd ≤ 4) (eg : ∀ i, i < nc → u.2.1 9 f i = some (3, g i)) (hg : ∀ i, i < nc → g i < 61 ∧ g i ≠ f) (K : ∀ i, i < nc → Ro u (2 * g i) (a i)) (K2 : nd ≠ nc → ∀ i, i < nc → Ro u (2 * g i + 1) (b i)) (bL : ∀ c i, i ≤ nc → oB 40 (jns a b c i)) (z0 : u.1 4 (2 * f) 3 = 0) (h : CI u) (hf : f < 61) : ab_C false l D ca y_FM_lightenChoices b_FM_lightenChoices 3 none 5 ab_nQ u [ab_O 3 f, ab_O 4 122] (fun u' v => (cP [4, 8] u u' ∧ rO (fun i => i = 2 * f ∨ i = 122) u u' ∧ Ro u' (2 * f) (bts nd nc a b (2 ^ nc))) ∧ v = none) := by
  refine ab_C.of (by decide) (Nat.le_of_ble_eq_true rfl) ?_
  intro p e s m args below meth c ad X hZ hr0 hlk
  have P0 : cP [4, 8] u u := cQ.rf h
  have tw := ci_tw hnc
  have loop : ∀ (k c1 : Nat) (u1 : ab_S), k + c1 = 2 ^ nc → cP [4, 8] u u1 → rO (fun i => i = 2 * f ∨ i = 122) u u1 → Ro u1 (2 * f) (bts nd nc a b c1) → ab_J p l e (ab_rm 5 0 0) s m args below meth c (MQ below (ab_Q D ca ad ab_nQ s.heap.size (fun u' v => (cP [4, 8] u u' ∧ rO (fun i => i = 2 * f ∨ i = 122) u u' ∧ Ro u' (2 * f) (bts nd nc a b (2 ^ nc))) ∧ v = none)) args s 0 0 (ab_A ad ab_nQ s.heap.size)) D ca (ab_A ad ab_nQ s.heap.size) s.heap 3 0 0 ad ab_nQ u1 2 [(2, ab_I (nI c1)), (0, ab_O 3 f), (1, ab_O 4 122)] [] := by
    intro k
    induction k with
    | zero =>
      intro c1 u1 hj P1 O1 R1
      obtain rfl : c1 = 2 ^ nc := by omega
      refine ab_iload_n X 0 d_FM_lightenChoices_2 rfl rfl ?_
      refine ab_iconst (v := 1) X d_FM_lightenChoices_3 (by decide) ?_
      refine ab_aload_n X 1 d_FM_lightenChoices_4 rfl rfl ?_
      refine ab_gI X fl_FM_34 d_FM_lightenChoices_5 (by first | assumption | decide | (show _ < 124; omega) | (show _ < 61; omega) | (show _ < 20; omega)) (P1.ii (by decide) en) ?_
      refine ab_ishl X d_FM_lightenChoices_8 ?_
      refine ab_top tw.1 ?_
      refine ab_icmp_ge X 35 d_FM_lightenChoices_9 rfl (fun _ => ?_) (fun hb => absurd ((nI_le (by omega) (by omega))) hb)
      exact ab_retv X hr0 hlk d_FM_lightenChoices_35 ⟨⟨P1, O1, R1⟩, rfl⟩
    | succ k ih =>
      intro c1 u1 hj P1 O1 R1
      have hc16 : c1 < 16 := by omega
      have p4 := pcn_le c1
      have e6' := P1.ii (by decide) e6
      by_cases pe : pcn c1 = nd
      · have st : bts nd nc a b (c1 + 1) = bet (bts nd nc a b c1) (jns a b c1 nc) := if_pos pe
        refine ab_iload_n X 0 d_FM_lightenChoices_2 rfl rfl ?_
        refine ab_iconst (v := 1) X d_FM_lightenChoices_3 (by decide) ?_
        refine ab_aload_n X 1 d_FM_lightenChoices_4 rfl rfl ?_
        refine ab_gI X fl_FM_34 d_FM_lightenChoices_5 (by first | assumption | decide | (show _ < 124; omega) | (show _ < 61; omega) | (show _ < 20; omega)) (P1.ii (by decide) en) ?_
        refine ab_ishl X d_FM_lightenChoices_8 ?_
        refine ab_top tw.1 ?_
        refine ab_icmp_ge X 35 d_FM_lightenChoices_9 rfl (fun hb => absurd hb ((nI_ge (by omega) (by omega)))) (fun _ => ?_)
        refine ab_iload_n X 0 d_FM_lightenChoices_12 rfl rfl ?_
        refine ab_callS (as := [ab_I (nI c1)]) X (fun h => by cases h) (t_JI_bc u1 c1 hc16) ls_FM_82 d_FM_lightenChoices_13 rfl rfl ⟨by first | exact Nat.le_of_ble_eq_true rfl | (simp only [ab_rm]; omega), by first | exact Nat.le_of_ble_eq_true rfl | (simp only [ab_rm]; omega)⟩ ⟨by first | exact Nat.le_of_ble_eq_true rfl | (simp only [ab_rm]; omega), by first | exact Nat.le_of_ble_eq_true rfl | (simp only [ab_rm]; omega)⟩ (Nat.le_of_ble_eq_true rfl) (fun u13 r13 h13 => ?_)
        obtain ⟨e13, rfl⟩ := h13
        subst u13
        refine ab_aload_n X 1 d_FM_lightenChoices_16 rfl rfl ?_
        refine ab_gI X fl_FM_31 d_FM_lightenChoices_17 (by first | assumption | decide | (show _ < 124; omega) | (show _ < 61; omega) | (show _ < 20; omega)) (e6') ?_
        refine ab_icmp_ne X 29 d_FM_lightenChoices_20 rfl (fun hb => absurd ((by rw [pe])) hb) (fun _ => ?_)
        refine ab_aload_n X 1 d_FM_lightenChoices_23 rfl rfl ?_
        refine ab_aload_n X 2 d_FM_lightenChoices_24 rfl rfl ?_
        refine ab_iload_n X 0 d_FM_lightenChoices_25 rfl rfl ?_
        refine ab_callV (as := [ab_O 4 122, ab_I (nI c1)]) X (fun h => by cases h) (x_FM_tryChoice u1 f nc c1 g (bts nd nc a b c1) a b (P1.ii (by decide) en) hnc (fun i hi => P1.rr (by decide) (eg i hi)) (fun i hi => (hg i hi).1) (fun i hi _ => (K i hi).fr O1 (by have := hg i hi; omega)) (fun i hi hb => (K2 (fun z => hb (pcn_all nc hnc c1 (by omega) (pe.trans z) i hi)) i hi).fr O1 (by have := hg i hi; omega)) (fun i hi => bL c1 i hi) R1 (oB.btsB (fun c => bL c nc (Nat.le_refl _)) _) hc16 P1.1 hf) lk_FM_122 d_FM_lightenChoices_26 rfl rfl (by first | assumption | decide | (show _ < 124; omega) | (show _ < 61; omega) | (show _ < 20; omega)) ⟨by first | exact Nat.le_of_ble_eq_true rfl | (simp only [ab_rm]; omega), by first | exact Nat.le_of_ble_eq_true rfl | (simp only [ab_rm]; omega)⟩ ⟨by first | exact Nat.le_of_ble_eq_true rfl | (simp only [ab_rm]; omega), by first | exact Nat.le_of_ble_eq_true rfl | (simp only [ab_rm]; omega)⟩ (Nat.le_of_ble_eq_true rfl) (fun u26 r26 h26 => ?_)
        obtain ⟨⟨q26, o26, r26⟩, rfl⟩ := h26
        have P26 := P1.trans q26 (by decide)
        refine ab_iinc2 X 0 1 2 d_FM_lightenChoices_29 rfl (by decide) rfl rfl rfl rfl ?_
        refine ab_goto X 2 d_FM_lightenChoices_32 rfl ?_
        rw [show nI c1 + Int32.ofInt 1 = nI (c1 + 1) from nI_1 c1]
        rw [← st] at r26
        exact ih (c1 + 1) _ (by omega) P26 (O1.trans o26) r26
      · have st : bts nd nc a b (c1 + 1) = bts nd nc a b c1 := if_neg pe
        refine ab_iload_n X 0 d_FM_lightenChoices_2 rfl rfl ?_
        refine ab_iconst (v := 1) X d_FM_lightenChoices_3 (by decide) ?_
        refine ab_aload_n X 1 d_FM_lightenChoices_4 rfl rfl ?_
        refine ab_gI X fl_FM_34 d_FM_lightenChoices_5 (by first | assumption | decide | (show _ < 124; omega) | (show _ < 61; omega) | (show _ < 20; omega)) (P1.ii (by decide) en) ?_
        refine ab_ishl X d_FM_lightenChoices_8 ?_
        refine ab_top tw.1 ?_
        refine ab_icmp_ge X 35 d_FM_lightenChoices_9 rfl (fun hb => absurd hb ((nI_ge (by omega) (by omega)))) (fun _ => ?_)
        refine ab_iload_n X 0 d_FM_lightenChoices_12 rfl rfl ?_
        refine ab_callS (as := [ab_I (nI c1)]) X (fun h => by cases h) (t_JI_bc u1 c1 hc16) ls_FM_82 d_FM_lightenChoices_13 rfl rfl ⟨by first | exact Nat.le_of_ble_eq_true rfl | (simp only [ab_rm]; omega), by first | exact Nat.le_of_ble_eq_true rfl | (simp only [ab_rm]; omega)⟩ ⟨by first | exact Nat.le_of_ble_eq_true rfl | (simp only [ab_rm]; omega), by first | exact Nat.le_of_ble_eq_true rfl | (simp only [ab_rm]; omega)⟩ (Nat.le_of_ble_eq_true rfl) (fun u13 r13 h13 => ?_)
        obtain ⟨e13, rfl⟩ := h13
        subst u13
        refine ab_aload_n X 1 d_FM_lightenChoices_16 rfl rfl ?_
        refine ab_gI X fl_FM_31 d_FM_lightenChoices_17 (by first | assumption | decide | (show _ < 124; omega) | (show _ < 61; omega) | (show _ < 20; omega)) (e6') ?_
        refine ab_icmp_ne X 29 d_FM_lightenChoices_20 rfl (fun _ => ?_) (fun hb => absurd hb ((fun z => pe ((nI_eq (by omega) (by omega)).mp z))))
        refine ab_iinc2 X 0 1 2 d_FM_lightenChoices_29 rfl (by decide) rfl rfl rfl rfl ?_
        refine ab_goto X 2 d_FM_lightenChoices_32 rfl ?_
        rw [show nI c1 + Int32.ofInt 1 = nI (c1 + 1) from nI_1 c1]
        exact ih (c1 + 1) _ (by omega) P1 O1 (by rw [st]; exact R1)
  refine ab_iconst (v := 0) X d_FM_lightenChoices_0 (by decide) ?_
  refine ab_istore_n2 X 0 1 d_FM_lightenChoices_1 rfl (by decide) rfl rfl rfl rfl ?_
  exact loop (2 ^ nc) 0 _ (by omega) P0 rO.rf z0
end SaSLight
section SVM
variable {r n nd : Nat} {o : Option (List Nat)} {a b : Nat → Option (List Nat)}
theorem svm_1 (h : r = 1) : svm r n nd o a b = o := if_pos h
theorem svm_5 (h : r = 5) : svm r n nd o a b = bet (jn (some [1]) (a 0)) (jn (some [0]) (a 1)) := (if_neg (by omega)).trans (if_pos h)
theorem svm_6 (h : r = 6) : svm r n nd o a b = jn (some [1]) (a 0) := (if_neg (by omega)).trans ((if_neg (by omega)).trans (if_pos h))
theorem svm_7 (h : r = 7 ∨ r = 8) : svm r n nd o a b = bet (a 0) (jn (b 0) (a 1)) := (if_neg (by omega)).trans ((if_neg (by omega)).trans ((if_neg (by omega)).trans (if_pos h)))
theorem svm_c (h : r = 2 ∨ r = 3 ∨ r = 4) : svm r n nd o a b = bts nd n a b (2 ^ n) := (if_neg (by omega)).trans ((if_neg (by omega)).trans ((if_neg (by omega)).trans (if_neg (by omega))))
end SVM
section SaSLight2
variable {l : Launch} {D : va_G} {ca : Nat → ClassId}
set_option maxRecDepth 100000 in
set_option maxHeartbeats 1000000 in
theorem x_FM_lighten (u : ab_S) (f rl nc nd : Nat) (mk : Int32) (g : Nat → Nat) (o : Option (List Nat)) (a b : Nat → Option (List Nat)) (a1 a2 a3 a4 : Int32) (f1 : u.1 6 0 0 = a1) (f2 : u.1 6 0 1 = a2) (f3 : u.1 6 0 2 = a3) (f4 : u.1 6 0 3 = a4) (F : FD u f rl mk (nI nd) nc g) (hrl : 1 ≤ rl ∧ rl ≤ 8) (sh : shx rl nc) (hnc : nc ≤ 4) (hnd : nd ≤ 4) (h1 : rl = 1 → ∃ k a, mk = nI (1000 * k + a) ∧ a < 1000 ∧ k < 8 ∧ o = if hl (nI k) (nI a) a1 a2 a3 a4 = 0 then none else some (lit k a)) (hg : ∀ i, i < nc → g i < 61 ∧ g i ≠ f) (K : ∀ i, i < nc → Ro u (2 * g i) (a i)) (K2 : rl = 7 ∨ rl = 8 → Ro u (2 * g 0 + 1) (b 0) ∧ oB 40 (b 0) ∧ oB 40 (jn (b 0) (a 1))) (K3 : rl = 2 ∨ rl = 3 ∨ rl = 4 → nd ≠ nc → ∀ i, i < nc → Ro u (2 * g i + 1) (b i)) (bL : ∀ c i, i ≤ nc → oB 40 (jns a b c i)) (bA : ∀ i, i < nc → oB 39 (a i)) (h : CI u) (hf : f < 61) : ab_C false l D ca y_FM_lighten b_FM_lighten 3 none 6 ab_nQ u [ab_O 3 f, ab_O 6 0, ab_O 4 122] (fun u' v => (cP [4, 8] u u' ∧ rO (fun i => i = 2 * f ∨ i = 122) u u' ∧ Ro u' (2 * f) (svm rl nc nd o a b)) ∧ v = none) := by
  refine ab_C.of (by decide) (Nat.le_of_ble_eq_true rfl) ?_
  intro p e s m args below meth c ad X hZ hr0 hlk
  have P0 : cP [4, 8] u u := cQ.rf h
  obtain ⟨F1, F2, F3, en, F5⟩ := F
  obtain ⟨r1, r8⟩ := hrl
  obtain ⟨s1, s3, s4, s5⟩ := sh
  have ln := ln_2f hf
  have rr : ∀ {j : Nat}, nI rl = nI j → j ≤ 8 → rl = j := fun z hj => (nI_eq (by omega) (by omega)).mp z
  have fr1 : ∀ {u1 : ab_S}, rO (fun i => i = 2 * f ∨ i = 122) u u1 → ∀ i, i < nc → Ro u1 (2 * g i) (a i) := fun o1 i hi => (K i hi).fr o1 (by have := hg i hi; omega)
  have od : ∀ i, i < nc → ¬ (2 * g i + 1 = 2 * f ∨ 2 * g i + 1 = 122) := fun i hi => by omega
  have nf : ¬ 2 * f = 122 := by omega
  have wf : ∀ {u1 u2 : ab_S}, rO (fun i => i = 2 * f) u1 u2 → rO (fun i => i = 2 * f ∨ i = 122) u1 u2 := fun o1 => o1.wk (fun i z => Or.inl z)
  have wt : ∀ {u1 u2 : ab_S}, rO (fun i => i = 122) u1 u2 → rO (fun i => i = 2 * f ∨ i = 122) u1 u2 := fun o1 => o1.wk (fun i z => Or.inr z)
  refine ab_aload_n X 0 d_FM_lighten_0 rfl rfl ?_
  refine ab_gR X fl_FM_20 d_FM_lighten_1 (by first | assumption | decide | (show _ < 124; omega) | (show _ < 61; omega) | (show _ < 20; omega)) (P0.1.fm3 (by first | assumption | decide | omega)) ?_
  refine ab_iconst (v := 0) X d_FM_lighten_4 (by decide) ?_
  refine ab_putI X fp_FM_96 d_FM_lighten_5 (by first | assumption | decide | (show _ < 124; omega) | (show _ < 61; omega) | (show _ < 20; omega)) rfl rfl ?_
  refine ab_gen (fun u5 e5 => ?_)
  have P5 : cP [4, 8] u u5 := by rw [e5]; exact P0.ui rfl (by decide)
  have o5 : rO (fun i => i = 2 * f ∨ i = 122) u u5 := ⟨fun c i k z => by rw [e5]; exact ui_n _ (by omega), by rw [e5]⟩
  have z5 : u5.1 4 (2 * f) 3 = 0 := by rw [e5]; exact ui_s _
  refine ab_aload_n X 0 d_FM_lighten_8 rfl rfl ?_
  refine ab_gI X fl_FM_24 d_FM_lighten_9 (by first | assumption | decide | (show _ < 124; omega) | (show _ < 61; omega) | (show _ < 20; omega)) (P5.ii (by decide) F1) ?_
  refine ab_tsw X [(1, 60), (5, 68), (6, 95), (7, 110), (8, 110)] 163 d_FM_lighten_12 (by decide +kernel) rfl (List.forall_mem_cons.mpr ⟨fun h12_1 => ?_, List.forall_mem_cons.mpr ⟨fun h12_5 => ?_, List.forall_mem_cons.mpr ⟨fun h12_6 => ?_, List.forall_mem_cons.mpr ⟨fun h12_7 => ?_, List.forall_mem_cons.mpr ⟨fun h12_8 => ?_, fun _ h => absurd h List.not_mem_nil⟩⟩⟩⟩⟩) (fun h12 => ?_)
  ·
    obtain ⟨k, aa, e5k, haa, hk, ho⟩ := h1 (rr h12_1 (by decide))
    have re := rr h12_1 (by decide)
    refine ab_aload_n X 0 d_FM_lighten_60 rfl rfl ?_
    refine ab_aload_n X 1 d_FM_lighten_61 rfl rfl ?_
    refine ab_callV (as := [ab_O 6 0]) X (fun h => by cases h) (x_FM_lightenLeaf u5 f k aa a1 a2 a3 a4 (P5.ii (by decide) f1) (P5.ii (by decide) f2) (P5.ii (by decide) f3) (P5.ii (by decide) f4) ((P5.ii (by decide) F2).trans e5k) haa hk z5 P5.1 hf) lk_FM_99 d_FM_lighten_62 rfl rfl (by first | assumption | decide | (show _ < 124; omega) | (show _ < 61; omega) | (show _ < 20; omega)) ⟨by first | exact Nat.le_of_ble_eq_true rfl | (simp only [ab_rm]; omega), by first | exact Nat.le_of_ble_eq_true rfl | (simp only [ab_rm]; omega)⟩ ⟨by first | exact Nat.le_of_ble_eq_true rfl | (simp only [ab_rm]; omega), by first | exact Nat.le_of_ble_eq_true rfl | (simp only [ab_rm]; omega)⟩ (Nat.le_of_ble_eq_true rfl) (fun u62 r62 h62 => ?_)
    obtain ⟨⟨q62, o62, r62⟩, rfl⟩ := h62
    have P62 := P5.trans q62 (by decide)
    refine ab_goto X 168 d_FM_lighten_65 rfl ?_
    first | exact ab_retv X hr0 hlk d_FM_lighten_168 ⟨⟨P62, o5.trans o62, by rw [svm_1 re, ho]; exact r62⟩, rfl⟩ | exact ab_retv X hr0 hlk d_FM_lighten_168 ⟨⟨P62, (o5.trans o77).trans o89, by rw [svm_5 re]; exact r89⟩, rfl⟩ | exact ab_retv X hr0 hlk d_FM_lighten_168 ⟨⟨P62, o5.trans o104, by rw [svm_6 re]; exact r104⟩, rfl⟩ | exact ab_retv X hr0 hlk d_FM_lighten_168 ⟨⟨P62, t149.trans (wf o157), by rw [svm_7 re]; exact r157⟩, rfl⟩ | exact ab_retv X hr0 hlk d_FM_lighten_168 ⟨⟨P62, o5.trans o165, by rw [svm_c re]; exact r165⟩, rfl⟩
  ·
    have re := rr h12_5 (by decide)
    have n2 := s5 (Or.inl re)
    have g0 := hg 0 (by omega)
    have g1 := hg 1 (by omega)
    refine ab_aload_n X 0 d_FM_lighten_68 rfl rfl ?_
    refine ab_aload_n X 2 d_FM_lighten_69 rfl rfl ?_
    refine ab_iconst (v := 1) X d_FM_lighten_70 (by decide) ?_
    refine ab_aload_n X 0 d_FM_lighten_71 rfl rfl ?_
    refine ab_gR X fl_FM_11 d_FM_lighten_72 (by first | assumption | decide | (show _ < 124; omega) | (show _ < 61; omega) | (show _ < 20; omega)) (P5.1.fm0 (by first | assumption | decide | omega)) ?_
    refine ab_iconst (v := 0) X d_FM_lighten_75 (by decide) ?_
    refine ab_aalv X (0) ⟨rfl, _, fun _ => rfl⟩ d_FM_lighten_76 (by first | assumption | decide | (show _ < 124; omega) | (show _ < 61; omega) | (show _ < 20; omega)) (rfl) (show 0 < 4 by decide) (ab_ln_lt _ _) (P5.rr (by decide) (F5 0 (by omega))) ?_
    refine ab_callV (as := [ab_O 4 122, ab_I (nI 1), ab_O 3 (g 0)]) X (fun h => by cases h) (x_FM_tryBranch u5 f (g 0) 1 none (a 0) z5 (fr1 o5 0 (by omega)) oB.none (bA 0 (by omega)) (by decide) P5.1 hf g0.1) lk_FM_103 d_FM_lighten_77 rfl rfl (by first | assumption | decide | (show _ < 124; omega) | (show _ < 61; omega) | (show _ < 20; omega)) ⟨by first | exact Nat.le_of_ble_eq_true rfl | (simp only [ab_rm]; omega), by first | exact Nat.le_of_ble_eq_true rfl | (simp only [ab_rm]; omega)⟩ ⟨by first | exact Nat.le_of_ble_eq_true rfl | (simp only [ab_rm]; omega), by first | exact Nat.le_of_ble_eq_true rfl | (simp only [ab_rm]; omega)⟩ (Nat.le_of_ble_eq_true rfl) (fun u77 r77 h77 => ?_)
    obtain ⟨⟨q77, o77, r77⟩, rfl⟩ := h77
    have P77 := P5.trans q77 (by decide)
    rw [bet_none] at r77
    refine ab_aload_n X 0 d_FM_lighten_80 rfl rfl ?_
    refine ab_aload_n X 2 d_FM_lighten_81 rfl rfl ?_
    refine ab_iconst (v := 0) X d_FM_lighten_82 (by decide) ?_
    refine ab_aload_n X 0 d_FM_lighten_83 rfl rfl ?_
    refine ab_gR X fl_FM_11 d_FM_lighten_84 (by first | assumption | decide | (show _ < 124; omega) | (show _ < 61; omega) | (show _ < 20; omega)) (P77.1.fm0 (by first | assumption | decide | omega)) ?_
    refine ab_iconst (v := 1) X d_FM_lighten_87 (by decide) ?_
    refine ab_aalv X (1) ⟨rfl, _, fun _ => rfl⟩ d_FM_lighten_88 (by first | assumption | decide | (show _ < 124; omega) | (show _ < 61; omega) | (show _ < 20; omega)) (rfl) (show 1 < 4 by decide) (ab_ln_lt _ _) (P77.rr (by decide) (F5 1 (by omega))) ?_
    refine ab_callV (as := [ab_O 4 122, ab_I (nI 0), ab_O 3 (g 1)]) X (fun h => by cases h) (x_FM_tryBranch u77 f (g 1) 0 (jn (some [1]) (a 0)) (a 1) r77 (fr1 (o5.trans o77) 1 (by omega)) (oB.jnB (m := 1) (n := 39) (oB.some (Nat.le_refl _) (fun y hy => by rw [List.mem_singleton] at hy; exact Or.inl (by omega))) (bA 0 (by omega))) (bA 1 (by omega)) (by decide) P77.1 hf g1.1) lk_FM_103 d_FM_lighten_89 rfl rfl (by first | assumption | decide | (show _ < 124; omega) | (show _ < 61; omega) | (show _ < 20; omega)) ⟨by first | exact Nat.le_of_ble_eq_true rfl | (simp only [ab_rm]; omega), by first | exact Nat.le_of_ble_eq_true rfl | (simp only [ab_rm]; omega)⟩ ⟨by first | exact Nat.le_of_ble_eq_true rfl | (simp only [ab_rm]; omega), by first | exact Nat.le_of_ble_eq_true rfl | (simp only [ab_rm]; omega)⟩ (Nat.le_of_ble_eq_true rfl) (fun u89 r89 h89 => ?_)
    obtain ⟨⟨q89, o89, r89⟩, rfl⟩ := h89
    have P89 := P77.trans q89 (by decide)
    refine ab_goto X 168 d_FM_lighten_92 rfl ?_
    first | exact ab_retv X hr0 hlk d_FM_lighten_168 ⟨⟨P89, o5.trans o62, by rw [svm_1 re, ho]; exact r62⟩, rfl⟩ | exact ab_retv X hr0 hlk d_FM_lighten_168 ⟨⟨P89, (o5.trans o77).trans o89, by rw [svm_5 re]; exact r89⟩, rfl⟩ | exact ab_retv X hr0 hlk d_FM_lighten_168 ⟨⟨P89, o5.trans o104, by rw [svm_6 re]; exact r104⟩, rfl⟩ | exact ab_retv X hr0 hlk d_FM_lighten_168 ⟨⟨P89, t149.trans (wf o157), by rw [svm_7 re]; exact r157⟩, rfl⟩ | exact ab_retv X hr0 hlk d_FM_lighten_168 ⟨⟨P89, o5.trans o165, by rw [svm_c re]; exact r165⟩, rfl⟩
  ·
    have re := rr h12_6 (by decide)
    have n2 := s3 (Or.inr re)
    have g0 := hg 0 (by omega)
    refine ab_aload_n X 0 d_FM_lighten_95 rfl rfl ?_
    refine ab_aload_n X 2 d_FM_lighten_96 rfl rfl ?_
    refine ab_iconst (v := 1) X d_FM_lighten_97 (by decide) ?_
    refine ab_aload_n X 0 d_FM_lighten_98 rfl rfl ?_
    refine ab_gR X fl_FM_11 d_FM_lighten_99 (by first | assumption | decide | (show _ < 124; omega) | (show _ < 61; omega) | (show _ < 20; omega)) (P5.1.fm0 (by first | assumption | decide | omega)) ?_
    refine ab_iconst (v := 0) X d_FM_lighten_102 (by decide) ?_
    refine ab_aalv X (0) ⟨rfl, _, fun _ => rfl⟩ d_FM_lighten_103 (by first | assumption | decide | (show _ < 124; omega) | (show _ < 61; omega) | (show _ < 20; omega)) (rfl) (show 0 < 4 by decide) (ab_ln_lt _ _) (P5.rr (by decide) (F5 0 (by omega))) ?_
    refine ab_callV (as := [ab_O 4 122, ab_I (nI 1), ab_O 3 (g 0)]) X (fun h => by cases h) (x_FM_tryBranch u5 f (g 0) 1 none (a 0) z5 (fr1 o5 0 (by omega)) oB.none (bA 0 (by omega)) (by decide) P5.1 hf g0.1) lk_FM_103 d_FM_lighten_104 rfl rfl (by first | assumption | decide | (show _ < 124; omega) | (show _ < 61; omega) | (show _ < 20; omega)) ⟨by first | exact Nat.le_of_ble_eq_true rfl | (simp only [ab_rm]; omega), by first | exact Nat.le_of_ble_eq_true rfl | (simp only [ab_rm]; omega)⟩ ⟨by first | exact Nat.le_of_ble_eq_true rfl | (simp only [ab_rm]; omega), by first | exact Nat.le_of_ble_eq_true rfl | (simp only [ab_rm]; omega)⟩ (Nat.le_of_ble_eq_true rfl) (fun u104 r104 h104 => ?_)
    obtain ⟨⟨q104, o104, r104⟩, rfl⟩ := h104
    have P104 := P5.trans q104 (by decide)
    rw [bet_none] at r104
    refine ab_goto X 168 d_FM_lighten_107 rfl ?_
    first | exact ab_retv X hr0 hlk d_FM_lighten_168 ⟨⟨P104, o5.trans o62, by rw [svm_1 re, ho]; exact r62⟩, rfl⟩ | exact ab_retv X hr0 hlk d_FM_lighten_168 ⟨⟨P104, (o5.trans o77).trans o89, by rw [svm_5 re]; exact r89⟩, rfl⟩ | exact ab_retv X hr0 hlk d_FM_lighten_168 ⟨⟨P104, o5.trans o104, by rw [svm_6 re]; exact r104⟩, rfl⟩ | exact ab_retv X hr0 hlk d_FM_lighten_168 ⟨⟨P104, t149.trans (wf o157), by rw [svm_7 re]; exact r157⟩, rfl⟩ | exact ab_retv X hr0 hlk d_FM_lighten_168 ⟨⟨P104, o5.trans o165, by rw [svm_c re]; exact r165⟩, rfl⟩
  ·
    have re : rl = 7 ∨ rl = 8 := Or.inl (rr h12_7 (by decide))
    have n2 := s5 (Or.inr re)
    have g0 := hg 0 (by omega)
    have g1 := hg 1 (by omega)
    obtain ⟨kb, bb, bj⟩ := K2 re
    refine ab_aload_n X 0 d_FM_lighten_110 rfl rfl ?_
    refine ab_gR X fl_FM_20 d_FM_lighten_111 (by first | assumption | decide | (show _ < 124; omega) | (show _ < 61; omega) | (show _ < 20; omega)) (P5.1.fm3 (by first | assumption | decide | omega)) ?_
    refine ab_aload_n X 0 d_FM_lighten_114 rfl rfl ?_
    refine ab_gR X fl_FM_11 d_FM_lighten_115 (by first | assumption | decide | (show _ < 124; omega) | (show _ < 61; omega) | (show _ < 20; omega)) (P5.1.fm0 (by first | assumption | decide | omega)) ?_
    refine ab_iconst (v := 0) X d_FM_lighten_118 (by decide) ?_
    refine ab_aalv X (0) ⟨rfl, _, fun _ => rfl⟩ d_FM_lighten_119 (by first | assumption | decide | (show _ < 124; omega) | (show _ < 61; omega) | (show _ < 20; omega)) (rfl) (show 0 < 4 by decide) (ab_ln_lt _ _) (P5.rr (by decide) (F5 0 (by omega))) ?_
    refine ab_gR X fl_FM_20 d_FM_lighten_120 (by first | assumption | decide | (show _ < 124; omega) | (show _ < 61; omega) | (show _ < 20; omega)) (P5.1.fm3 (by first | assumption | decide | omega)) ?_
    refine ab_callV (as := [ab_O 4 (2 * g 0)]) X (fun h => by cases h) (x_RW_bil u5 (2 * f) (2 * g 0) none (a 0) z5 (fr1 o5 0 (by omega)) oB.none ((bA 0 (by omega)).wk (by decide)) ln (by omega) P5.1 (by omega) (by omega)) lk_FM_107 d_FM_lighten_123 rfl rfl (by first | assumption | decide | (show _ < 124; omega) | (show _ < 61; omega) | (show _ < 20; omega)) ⟨by first | exact Nat.le_of_ble_eq_true rfl | (simp only [ab_rm]; omega), by first | exact Nat.le_of_ble_eq_true rfl | (simp only [ab_rm]; omega)⟩ ⟨by first | exact Nat.le_of_ble_eq_true rfl | (simp only [ab_rm]; omega), by first | exact Nat.le_of_ble_eq_true rfl | (simp only [ab_rm]; omega)⟩ (Nat.le_of_ble_eq_true rfl) (fun u123 r123 h123 => ?_)
    obtain ⟨⟨q123, o123, r123⟩, rfl⟩ := h123
    have P123 := P5.trans q123 (by decide)
    rw [bet_none] at r123
    have t123 := o5.trans (wf o123)
    refine ab_aload_n X 2 d_FM_lighten_126 rfl rfl ?_
    refine ab_aload_n X 0 d_FM_lighten_127 rfl rfl ?_
    refine ab_gR X fl_FM_11 d_FM_lighten_128 (by first | assumption | decide | (show _ < 124; omega) | (show _ < 61; omega) | (show _ < 20; omega)) (P123.1.fm0 (by first | assumption | decide | omega)) ?_
    refine ab_iconst (v := 0) X d_FM_lighten_131 (by decide) ?_
    refine ab_aalv X (0) ⟨rfl, _, fun _ => rfl⟩ d_FM_lighten_132 (by first | assumption | decide | (show _ < 124; omega) | (show _ < 61; omega) | (show _ < 20; omega)) (rfl) (show 0 < 4 by decide) (ab_ln_lt _ _) (P123.rr (by decide) (F5 0 (by omega))) ?_
    refine ab_gR X fl_FM_47 d_FM_lighten_133 (by first | assumption | decide | (show _ < 124; omega) | (show _ < 61; omega) | (show _ < 20; omega)) (P123.1.fm2 (by first | assumption | decide | omega)) ?_
    refine ab_callV (as := [ab_O 4 (2 * g 0 + 1)]) X (fun h => by cases h) (x_RW_become u123 122 (2 * g 0 + 1) (b 0) (kb.fr t123 (od 0 (by omega))) (by omega) (fun ys e => by rw [ln_122]; exact (bb ys e).1) P123.1 (by decide) (by omega)) lk_FM_110 d_FM_lighten_136 rfl rfl (by first | assumption | decide | (show _ < 124; omega) | (show _ < 61; omega) | (show _ < 20; omega)) ⟨by first | exact Nat.le_of_ble_eq_true rfl | (simp only [ab_rm]; omega), by first | exact Nat.le_of_ble_eq_true rfl | (simp only [ab_rm]; omega)⟩ ⟨by first | exact Nat.le_of_ble_eq_true rfl | (simp only [ab_rm]; omega), by first | exact Nat.le_of_ble_eq_true rfl | (simp only [ab_rm]; omega)⟩ (Nat.le_of_ble_eq_true rfl) (fun u136 r136 h136 => ?_)
    obtain ⟨⟨q136, o136, r136⟩, rfl⟩ := h136
    have P136 := P123.trans q136 (by decide)
    have t136 := t123.trans (wt o136)
    refine ab_aload_n X 2 d_FM_lighten_139 rfl rfl ?_
    refine ab_aload_n X 0 d_FM_lighten_140 rfl rfl ?_
    refine ab_gR X fl_FM_11 d_FM_lighten_141 (by first | assumption | decide | (show _ < 124; omega) | (show _ < 61; omega) | (show _ < 20; omega)) (P136.1.fm0 (by first | assumption | decide | omega)) ?_
    refine ab_iconst (v := 1) X d_FM_lighten_144 (by decide) ?_
    refine ab_aalv X (1) ⟨rfl, _, fun _ => rfl⟩ d_FM_lighten_145 (by first | assumption | decide | (show _ < 124; omega) | (show _ < 61; omega) | (show _ < 20; omega)) (rfl) (show 1 < 4 by decide) (ab_ln_lt _ _) (P136.rr (by decide) (F5 1 (by omega))) ?_
    refine ab_gR X fl_FM_20 d_FM_lighten_146 (by first | assumption | decide | (show _ < 124; omega) | (show _ < 61; omega) | (show _ < 20; omega)) (P136.1.fm3 (by first | assumption | decide | omega)) ?_
    refine ab_callV (as := [ab_O 4 (2 * g 1)]) X (fun h => by cases h) (x_RW_joinO u136 122 (2 * g 1) (b 0) (a 1) r136 (fr1 t136 1 (by omega)) (by omega) (fun xs ys ex ey => by rw [ln_122, ← List.length_append]; exact (bj (xs ++ ys) (by rw [ex, ey]; rfl)).1) P136.1 (by decide) (by omega)) lk_FM_92 d_FM_lighten_149 rfl rfl (by first | assumption | decide | (show _ < 124; omega) | (show _ < 61; omega) | (show _ < 20; omega)) ⟨by first | exact Nat.le_of_ble_eq_true rfl | (simp only [ab_rm]; omega), by first | exact Nat.le_of_ble_eq_true rfl | (simp only [ab_rm]; omega)⟩ ⟨by first | exact Nat.le_of_ble_eq_true rfl | (simp only [ab_rm]; omega), by first | exact Nat.le_of_ble_eq_true rfl | (simp only [ab_rm]; omega)⟩ (Nat.le_of_ble_eq_true rfl) (fun u149 r149 h149 => ?_)
    obtain ⟨⟨q149, o149, r149⟩, rfl⟩ := h149
    have P149 := P136.trans q149 (by decide)
    have t149 := t136.trans (wt o149)
    refine ab_aload_n X 0 d_FM_lighten_152 rfl rfl ?_
    refine ab_gR X fl_FM_20 d_FM_lighten_153 (by first | assumption | decide | (show _ < 124; omega) | (show _ < 61; omega) | (show _ < 20; omega)) (P149.1.fm3 (by first | assumption | decide | omega)) ?_
    refine ab_aload_n X 2 d_FM_lighten_156 rfl rfl ?_
    refine ab_callV (as := [ab_O 4 122]) X (fun h => by cases h) (x_RW_bil u149 (2 * f) 122 (a 0) (jn (b 0) (a 1)) ((r123.fr o136 nf).fr o149 nf) r149 ((bA 0 (by omega)).wk (by decide)) bj ln nf P149.1 (by omega) (by decide)) lk_FM_107 d_FM_lighten_157 rfl rfl (by first | assumption | decide | (show _ < 124; omega) | (show _ < 61; omega) | (show _ < 20; omega)) ⟨by first | exact Nat.le_of_ble_eq_true rfl | (simp only [ab_rm]; omega), by first | exact Nat.le_of_ble_eq_true rfl | (simp only [ab_rm]; omega)⟩ ⟨by first | exact Nat.le_of_ble_eq_true rfl | (simp only [ab_rm]; omega), by first | exact Nat.le_of_ble_eq_true rfl | (simp only [ab_rm]; omega)⟩ (Nat.le_of_ble_eq_true rfl) (fun u157 r157 h157 => ?_)
    obtain ⟨⟨q157, o157, r157⟩, rfl⟩ := h157
    have P157 := P149.trans q157 (by decide)
    refine ab_goto X 168 d_FM_lighten_160 rfl ?_
    first | exact ab_retv X hr0 hlk d_FM_lighten_168 ⟨⟨P157, o5.trans o62, by rw [svm_1 re, ho]; exact r62⟩, rfl⟩ | exact ab_retv X hr0 hlk d_FM_lighten_168 ⟨⟨P157, (o5.trans o77).trans o89, by rw [svm_5 re]; exact r89⟩, rfl⟩ | exact ab_retv X hr0 hlk d_FM_lighten_168 ⟨⟨P157, o5.trans o104, by rw [svm_6 re]; exact r104⟩, rfl⟩ | exact ab_retv X hr0 hlk d_FM_lighten_168 ⟨⟨P157, t149.trans (wf o157), by rw [svm_7 re]; exact r157⟩, rfl⟩ | exact ab_retv X hr0 hlk d_FM_lighten_168 ⟨⟨P157, o5.trans o165, by rw [svm_c re]; exact r165⟩, rfl⟩
  ·
    have re : rl = 7 ∨ rl = 8 := Or.inr (rr h12_8 (by decide))
    have n2 := s5 (Or.inr re)
    have g0 := hg 0 (by omega)
    have g1 := hg 1 (by omega)
    obtain ⟨kb, bb, bj⟩ := K2 re
    refine ab_aload_n X 0 d_FM_lighten_110 rfl rfl ?_
    refine ab_gR X fl_FM_20 d_FM_lighten_111 (by first | assumption | decide | (show _ < 124; omega) | (show _ < 61; omega) | (show _ < 20; omega)) (P5.1.fm3 (by first | assumption | decide | omega)) ?_
    refine ab_aload_n X 0 d_FM_lighten_114 rfl rfl ?_
    refine ab_gR X fl_FM_11 d_FM_lighten_115 (by first | assumption | decide | (show _ < 124; omega) | (show _ < 61; omega) | (show _ < 20; omega)) (P5.1.fm0 (by first | assumption | decide | omega)) ?_
    refine ab_iconst (v := 0) X d_FM_lighten_118 (by decide) ?_
    refine ab_aalv X (0) ⟨rfl, _, fun _ => rfl⟩ d_FM_lighten_119 (by first | assumption | decide | (show _ < 124; omega) | (show _ < 61; omega) | (show _ < 20; omega)) (rfl) (show 0 < 4 by decide) (ab_ln_lt _ _) (P5.rr (by decide) (F5 0 (by omega))) ?_
    refine ab_gR X fl_FM_20 d_FM_lighten_120 (by first | assumption | decide | (show _ < 124; omega) | (show _ < 61; omega) | (show _ < 20; omega)) (P5.1.fm3 (by first | assumption | decide | omega)) ?_
    refine ab_callV (as := [ab_O 4 (2 * g 0)]) X (fun h => by cases h) (x_RW_bil u5 (2 * f) (2 * g 0) none (a 0) z5 (fr1 o5 0 (by omega)) oB.none ((bA 0 (by omega)).wk (by decide)) ln (by omega) P5.1 (by omega) (by omega)) lk_FM_107 d_FM_lighten_123 rfl rfl (by first | assumption | decide | (show _ < 124; omega) | (show _ < 61; omega) | (show _ < 20; omega)) ⟨by first | exact Nat.le_of_ble_eq_true rfl | (simp only [ab_rm]; omega), by first | exact Nat.le_of_ble_eq_true rfl | (simp only [ab_rm]; omega)⟩ ⟨by first | exact Nat.le_of_ble_eq_true rfl | (simp only [ab_rm]; omega), by first | exact Nat.le_of_ble_eq_true rfl | (simp only [ab_rm]; omega)⟩ (Nat.le_of_ble_eq_true rfl) (fun u123 r123 h123 => ?_)
    obtain ⟨⟨q123, o123, r123⟩, rfl⟩ := h123
    have P123 := P5.trans q123 (by decide)
    rw [bet_none] at r123
    have t123 := o5.trans (wf o123)
    refine ab_aload_n X 2 d_FM_lighten_126 rfl rfl ?_
    refine ab_aload_n X 0 d_FM_lighten_127 rfl rfl ?_
    refine ab_gR X fl_FM_11 d_FM_lighten_128 (by first | assumption | decide | (show _ < 124; omega) | (show _ < 61; omega) | (show _ < 20; omega)) (P123.1.fm0 (by first | assumption | decide | omega)) ?_
    refine ab_iconst (v := 0) X d_FM_lighten_131 (by decide) ?_
    refine ab_aalv X (0) ⟨rfl, _, fun _ => rfl⟩ d_FM_lighten_132 (by first | assumption | decide | (show _ < 124; omega) | (show _ < 61; omega) | (show _ < 20; omega)) (rfl) (show 0 < 4 by decide) (ab_ln_lt _ _) (P123.rr (by decide) (F5 0 (by omega))) ?_
    refine ab_gR X fl_FM_47 d_FM_lighten_133 (by first | assumption | decide | (show _ < 124; omega) | (show _ < 61; omega) | (show _ < 20; omega)) (P123.1.fm2 (by first | assumption | decide | omega)) ?_
    refine ab_callV (as := [ab_O 4 (2 * g 0 + 1)]) X (fun h => by cases h) (x_RW_become u123 122 (2 * g 0 + 1) (b 0) (kb.fr t123 (od 0 (by omega))) (by omega) (fun ys e => by rw [ln_122]; exact (bb ys e).1) P123.1 (by decide) (by omega)) lk_FM_110 d_FM_lighten_136 rfl rfl (by first | assumption | decide | (show _ < 124; omega) | (show _ < 61; omega) | (show _ < 20; omega)) ⟨by first | exact Nat.le_of_ble_eq_true rfl | (simp only [ab_rm]; omega), by first | exact Nat.le_of_ble_eq_true rfl | (simp only [ab_rm]; omega)⟩ ⟨by first | exact Nat.le_of_ble_eq_true rfl | (simp only [ab_rm]; omega), by first | exact Nat.le_of_ble_eq_true rfl | (simp only [ab_rm]; omega)⟩ (Nat.le_of_ble_eq_true rfl) (fun u136 r136 h136 => ?_)
    obtain ⟨⟨q136, o136, r136⟩, rfl⟩ := h136
    have P136 := P123.trans q136 (by decide)
    have t136 := t123.trans (wt o136)
    refine ab_aload_n X 2 d_FM_lighten_139 rfl rfl ?_
    refine ab_aload_n X 0 d_FM_lighten_140 rfl rfl ?_
    refine ab_gR X fl_FM_11 d_FM_lighten_141 (by first | assumption | decide | (show _ < 124; omega) | (show _ < 61; omega) | (show _ < 20; omega)) (P136.1.fm0 (by first | assumption | decide | omega)) ?_
    refine ab_iconst (v := 1) X d_FM_lighten_144 (by decide) ?_
    refine ab_aalv X (1) ⟨rfl, _, fun _ => rfl⟩ d_FM_lighten_145 (by first | assumption | decide | (show _ < 124; omega) | (show _ < 61; omega) | (show _ < 20; omega)) (rfl) (show 1 < 4 by decide) (ab_ln_lt _ _) (P136.rr (by decide) (F5 1 (by omega))) ?_
    refine ab_gR X fl_FM_20 d_FM_lighten_146 (by first | assumption | decide | (show _ < 124; omega) | (show _ < 61; omega) | (show _ < 20; omega)) (P136.1.fm3 (by first | assumption | decide | omega)) ?_
    refine ab_callV (as := [ab_O 4 (2 * g 1)]) X (fun h => by cases h) (x_RW_joinO u136 122 (2 * g 1) (b 0) (a 1) r136 (fr1 t136 1 (by omega)) (by omega) (fun xs ys ex ey => by rw [ln_122, ← List.length_append]; exact (bj (xs ++ ys) (by rw [ex, ey]; rfl)).1) P136.1 (by decide) (by omega)) lk_FM_92 d_FM_lighten_149 rfl rfl (by first | assumption | decide | (show _ < 124; omega) | (show _ < 61; omega) | (show _ < 20; omega)) ⟨by first | exact Nat.le_of_ble_eq_true rfl | (simp only [ab_rm]; omega), by first | exact Nat.le_of_ble_eq_true rfl | (simp only [ab_rm]; omega)⟩ ⟨by first | exact Nat.le_of_ble_eq_true rfl | (simp only [ab_rm]; omega), by first | exact Nat.le_of_ble_eq_true rfl | (simp only [ab_rm]; omega)⟩ (Nat.le_of_ble_eq_true rfl) (fun u149 r149 h149 => ?_)
    obtain ⟨⟨q149, o149, r149⟩, rfl⟩ := h149
    have P149 := P136.trans q149 (by decide)
    have t149 := t136.trans (wt o149)
    refine ab_aload_n X 0 d_FM_lighten_152 rfl rfl ?_
    refine ab_gR X fl_FM_20 d_FM_lighten_153 (by first | assumption | decide | (show _ < 124; omega) | (show _ < 61; omega) | (show _ < 20; omega)) (P149.1.fm3 (by first | assumption | decide | omega)) ?_
    refine ab_aload_n X 2 d_FM_lighten_156 rfl rfl ?_
    refine ab_callV (as := [ab_O 4 122]) X (fun h => by cases h) (x_RW_bil u149 (2 * f) 122 (a 0) (jn (b 0) (a 1)) ((r123.fr o136 nf).fr o149 nf) r149 ((bA 0 (by omega)).wk (by decide)) bj ln nf P149.1 (by omega) (by decide)) lk_FM_107 d_FM_lighten_157 rfl rfl (by first | assumption | decide | (show _ < 124; omega) | (show _ < 61; omega) | (show _ < 20; omega)) ⟨by first | exact Nat.le_of_ble_eq_true rfl | (simp only [ab_rm]; omega), by first | exact Nat.le_of_ble_eq_true rfl | (simp only [ab_rm]; omega)⟩ ⟨by first | exact Nat.le_of_ble_eq_true rfl | (simp only [ab_rm]; omega), by first | exact Nat.le_of_ble_eq_true rfl | (simp only [ab_rm]; omega)⟩ (Nat.le_of_ble_eq_true rfl) (fun u157 r157 h157 => ?_)
    obtain ⟨⟨q157, o157, r157⟩, rfl⟩ := h157
    have P157 := P149.trans q157 (by decide)
    refine ab_goto X 168 d_FM_lighten_160 rfl ?_
    first | exact ab_retv X hr0 hlk d_FM_lighten_168 ⟨⟨P157, o5.trans o62, by rw [svm_1 re, ho]; exact r62⟩, rfl⟩ | exact ab_retv X hr0 hlk d_FM_lighten_168 ⟨⟨P157, (o5.trans o77).trans o89, by rw [svm_5 re]; exact r89⟩, rfl⟩ | exact ab_retv X hr0 hlk d_FM_lighten_168 ⟨⟨P157, o5.trans o104, by rw [svm_6 re]; exact r104⟩, rfl⟩ | exact ab_retv X hr0 hlk d_FM_lighten_168 ⟨⟨P157, t149.trans (wf o157), by rw [svm_7 re]; exact r157⟩, rfl⟩ | exact ab_retv X hr0 hlk d_FM_lighten_168 ⟨⟨P157, o5.trans o165, by rw [svm_c re]; exact r165⟩, rfl⟩
  ·
    have re : rl = 2 ∨ rl = 3 ∨ rl = 4 := by
      have q : ∀ (a : Nat) (pc : Nat), (nI a, pc) ∈ [((1 : Int32), 60), (5, 68), (6, 95), (7, 110), (8, 110)] → ¬ rl = a := fun a pc hm e => h12 _ hm (by rw [e])
      have q1 := q 1 60 (by decide)
      have q5 := q 5 68 (by decide)
      have q6 := q 6 95 (by decide)
      have q7 := q 7 110 (by decide)
      have q8 := q 8 110 (by decide)
      omega
    refine ab_aload_n X 0 d_FM_lighten_163 rfl rfl ?_
    refine ab_aload_n X 2 d_FM_lighten_164 rfl rfl ?_
    refine ab_callV (as := [ab_O 4 122]) X (fun h => by cases h) (x_FM_lightenChoices u5 f nc nd g a b (P5.ii (by decide) en) (P5.ii (by decide) F3) hnc hnd (fun i hi => P5.rr (by decide) (F5 i hi)) hg (fr1 o5) (fun z i hi => (K3 re z i hi).fr o5 (od i hi)) bL z5 P5.1 hf) lk_FM_113 d_FM_lighten_165 rfl rfl (by first | assumption | decide | (show _ < 124; omega) | (show _ < 61; omega) | (show _ < 20; omega)) ⟨by first | exact Nat.le_of_ble_eq_true rfl | (simp only [ab_rm]; omega), by first | exact Nat.le_of_ble_eq_true rfl | (simp only [ab_rm]; omega)⟩ ⟨by first | exact Nat.le_of_ble_eq_true rfl | (simp only [ab_rm]; omega), by first | exact Nat.le_of_ble_eq_true rfl | (simp only [ab_rm]; omega)⟩ (Nat.le_of_ble_eq_true rfl) (fun u165 r165 h165 => ?_)
    obtain ⟨⟨q165, o165, r165⟩, rfl⟩ := h165
    have P165 := P5.trans q165 (by decide)
    first | exact ab_retv X hr0 hlk d_FM_lighten_168 ⟨⟨P165, o5.trans o62, by rw [svm_1 re, ho]; exact r62⟩, rfl⟩ | exact ab_retv X hr0 hlk d_FM_lighten_168 ⟨⟨P165, (o5.trans o77).trans o89, by rw [svm_5 re]; exact r89⟩, rfl⟩ | exact ab_retv X hr0 hlk d_FM_lighten_168 ⟨⟨P165, o5.trans o104, by rw [svm_6 re]; exact r104⟩, rfl⟩ | exact ab_retv X hr0 hlk d_FM_lighten_168 ⟨⟨P165, t149.trans (wf o157), by rw [svm_7 re]; exact r157⟩, rfl⟩ | exact ab_retv X hr0 hlk d_FM_lighten_168 ⟨⟨P165, o5.trans o165, by rw [svm_c re]; exact r165⟩, rfl⟩
end SaSLight2

