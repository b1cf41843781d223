/-! The reference's read: what it leaves. -/
section SaMRead2
variable {l : Launch} {D : va_G} {ca : Nat → ClassId}
set_option maxRecDepth 100000 in
set_option maxHeartbeats 4000000 in
theorem f_MO_read (u : ab_S) (T : Nat → Int32) (t : Nat) (ht : t ≤ 100) (et : u.1 17 0 2 = nI t) (hT : ∀ k, k < t → u.1 18 0 k = T k) (h : MI u) : ab_C false l D ca y_MO_read b_MO_read 2 (some FieldType.int) 6 ab_nQ u [ab_O 17 0] (fun u' v => (MI u' ∧ gP [0, 2, 3, 4, 5, 6, 16, 17, 18, 19, 39, 101, 102, 103, 104, 105, 106, 107, 108, 109, 120] u u' ∧ u'.1 17 0 2 = nI 0) ∧ ((parse T t = none ∧ u'.1 17 0 4 = 0) ∨ ∃ (q M O : Nat) (kd ar cn op lf : Nat → Nat) (ch : Nat → Nat → Nat), parse T t = some (q, M, O, kd, ar, cn, op, ch) ∧ u'.1 17 0 4 = 1 ∧ tW M kd ar cn lf ch ∧ tR M kd ar cn ch u' ∧ fV M kd lf 0 u' ∧ u'.1 17 0 6 = nI (lcn kd M)) ∧ ∃ x : Int32, v = some (ab_I x)) := by
  refine ab_C.of (by decide) (Nat.le_of_ble_eq_true rfl) ?_
  intro p e s m args below meth c ad X hZ hr0 hlk
  obtain ⟨hm, -, ⟨ni, hi, ei⟩, -⟩ := h
  have P0 : gP [0, 2, 3, 4, 5, 6, 16, 17, 18, 19, 39, 101, 102, 103, 104, 105, 106, 107, 108, 109, 120] u u := gP.rf hm
  have loop : ∀ (q M O : Nat) (kd ar cn op lf : Nat → Nat) (ch : Nat → Nat → Nat), parse T t = some (q, M, O, kd, ar, cn, op, ch) → tW M kd ar cn lf ch → ∀ (j : Nat) (u1 : ab_S), j ≤ M → gP [0, 2, 3, 4, 5, 6, 16, 17, 18, 19, 39, 101, 102, 103, 104, 105, 106, 107, 108, 109, 120] u u1 → tR M kd ar cn ch u1 → fV M kd lf j u1 → u1.1 17 0 4 = 1 → u1.1 17 0 2 = nI 0 → u1.1 17 0 6 = nI (lcn kd M) → ab_J p l e (ab_rm 6 0 0) s m args below meth c (MQ below (ab_Q D ca ad ab_nQ s.heap.size (fun u' v => (MI u' ∧ gP [0, 2, 3, 4, 5, 6, 16, 17, 18, 19, 39, 101, 102, 103, 104, 105, 106, 107, 108, 109, 120] u u' ∧ u'.1 17 0 2 = nI 0) ∧ ((parse T t = none ∧ u'.1 17 0 4 = 0) ∨ ∃ (q M O : Nat) (kd ar cn op lf : Nat → Nat) (ch : Nat → Nat → Nat), parse T t = some (q, M, O, kd, ar, cn, op, ch) ∧ u'.1 17 0 4 = 1 ∧ tW M kd ar cn lf ch ∧ tR M kd ar cn ch u' ∧ fV M kd lf 0 u' ∧ u'.1 17 0 6 = nI (lcn kd M)) ∧ ∃ x : Int32, v = some (ab_I x))) args s 0 0 (ab_A ad ab_nQ s.heap.size)) D ca (ab_A ad ab_nQ s.heap.size) s.heap 2 0 0 ad ab_nQ u1 61 [(1, ab_I (nI j - 1)), (0, ab_O 17 0)] [] := by
    intro q M O kd ar cn op lf ch hpar W j
    have hP19 := W.2.1
    induction j with
    | zero =>
      intro u1 hj P1 T V a4 a2 a6
      refine ab_iload_n X 0 d_MO_read_61 rfl rfl ?_
      refine ab_if_lt X 76 d_MO_read_62 rfl (fun _ => ?_) (fun hb => absurd ((by decide)) hb)
      refine ab_aload_n X 1 d_MO_read_76 rfl rfl ?_
      refine ab_gR X fl_MO_48 d_MO_read_77 (by first | assumption | decide | (show _ < 124; omega) | (show _ < 61; omega) | (show _ < 20; omega)) (P1.1.mo12) ?_
      refine ab_iconst (v := 0) X d_MO_read_80 (by decide) ?_
      refine ab_iald X (0) ⟨rfl, rfl⟩ d_MO_read_81 (by first | assumption | decide | (show _ < 124; omega) | (show _ < 61; omega) | (show _ < 20; omega)) (rfl) (show 0 < 72 by decide) (ab_ln_lt _ _) ?_
      exact ab_reti X hr0 hlk d_MO_read_82 ⟨⟨⟨P1.1, ⟨0, by decide, a2⟩, ⟨ni, hi, P1.fi (by decide) ei⟩, Or.inr ⟨a4, M, kd, ar, cn, lf, ch, W, T, V⟩⟩, P1, a2⟩, Or.inr ⟨q, M, O, kd, ar, cn, op, lf, ch, hpar, a4, W, T, V, a6⟩, _, rfl⟩
    | succ j ih =>
      intro u1 hj P1 T V a4 a2 a6
      rw [nI_m1 (by omega), show j + 1 - 1 = j by omega]
      refine ab_iload_n X 0 d_MO_read_61 rfl rfl ?_
      refine ab_if_lt X 76 d_MO_read_62 rfl (fun hb => absurd hb ((nI_pos (by omega)))) (fun _ => ?_)
      refine ab_aload_n X 1 d_MO_read_65 rfl rfl ?_
      refine ab_iload_n X 0 d_MO_read_66 rfl rfl ?_
      refine ab_callV (as := [ab_I (nI j)]) X (fun h => by cases h) (s_MO_forms u1 M kd ar cn lf ch W T j P1.1 (by omega) V) lk_MO_316 d_MO_read_67 rfl rfl (by first | assumption | decide | (show _ < 124; omega) | (show _ < 61; omega) | (show _ < 20; omega)) ⟨by first | exact Nat.le_of_ble_eq_true rfl | (simp only [ab_rm]; omega), by first | exact Nat.le_of_ble_eq_true rfl | (simp only [ab_rm]; omega)⟩ ⟨by first | exact Nat.le_of_ble_eq_true rfl | (simp only [ab_rm]; omega), by first | exact Nat.le_of_ble_eq_true rfl | (simp only [ab_rm]; omega)⟩ (Nat.le_of_ble_eq_true rfl) (fun u67 r67 h67 => ?_)
      obtain ⟨⟨n67, v67⟩, rfl⟩ := h67
      have q67 := n67.1
      have P67 := P1.trans q67 (by decide)
      refine ab_iinc1 X 0 1 d_MO_read_70 rfl (by decide) rfl rfl ?_
      refine ab_goto X 61 d_MO_read_73 rfl ?_
      rw [show nI j + Int32.ofInt (-1) = nI j - 1 from by rw [Int32.sub_eq_add_neg]; rfl]
      exact ih _ (by omega) P67 (T.fr n67.1 (by decide) (by decide) (by decide) (by decide) (by decide)) v67 (n67.1.fi (by decide) a4) (n67.1.fi (by decide) a2) (n67.1.fi (by decide) a6)
  have K5 : ∀ (u2 : ab_S) (x : Int32), gP [0, 2, 3, 4, 5, 6, 16, 17, 18, 19, 39, 101, 102, 103, 104, 105, 106, 107, 108, 109, 120] u u2 → ((¬ x < 0 ∧ parse T t = none) ∨ (x < 0 ∧ ∃ (q M O : Nat) (kd ar cn op lf : Nat → Nat) (ch : Nat → Nat → Nat), parse T t = some (q, M, O, kd, ar, cn, op, ch) ∧ tW M kd ar cn lf ch ∧ tR M kd ar cn ch u2 ∧ u2.1 17 0 6 = nI (lcn kd M))) → ab_J p l e (ab_rm 6 0 0) s m args below meth c (MQ below (ab_Q D ca ad ab_nQ s.heap.size (fun u' v => (MI u' ∧ gP [0, 2, 3, 4, 5, 6, 16, 17, 18, 19, 39, 101, 102, 103, 104, 105, 106, 107, 108, 109, 120] u u' ∧ u'.1 17 0 2 = nI 0) ∧ ((parse T t = none ∧ u'.1 17 0 4 = 0) ∨ ∃ (q M O : Nat) (kd ar cn op lf : Nat → Nat) (ch : Nat → Nat → Nat), parse T t = some (q, M, O, kd, ar, cn, op, ch) ∧ u'.1 17 0 4 = 1 ∧ tW M kd ar cn lf ch ∧ tR M kd ar cn ch u' ∧ fV M kd lf 0 u' ∧ u'.1 17 0 6 = nI (lcn kd M)) ∧ ∃ x : Int32, v = some (ab_I x))) args s 0 0 (ab_A ad ab_nQ s.heap.size)) D ca (ab_A ad ab_nQ s.heap.size) s.heap 2 0 0 ad ab_nQ u2 5 [(0, ab_O 17 0)] [ab_I x, ab_O 17 0] := by
    intro u2 x P2 hx
    rcases hx with ⟨hn, hpar⟩ | ⟨hn, q, M, O, kd, ar, cn, op, lf, ch, hpar, W, T2, a6⟩
    ·
      refine ab_putI X fp_MO_20 d_MO_read_5 (by first | assumption | decide | (show _ < 124; omega) | (show _ < 61; omega) | (show _ < 20; omega)) rfl rfl ?_
      refine ab_gen (fun u5 e5 => ?_)
      have P5 : gP [0, 2, 3, 4, 5, 6, 16, 17, 18, 19, 39, 101, 102, 103, 104, 105, 106, 107, 108, 109, 120] u u5 := by rw [e5]; exact P2.ui rfl (by decide)
      refine ab_aload_n X 0 d_MO_read_8 rfl rfl ?_
      refine ab_iconst (v := 0) X d_MO_read_9 (by decide) ?_
      refine ab_putI X fp_MO_17 d_MO_read_10 (by first | assumption | decide | (show _ < 124; omega) | (show _ < 61; omega) | (show _ < 20; omega)) rfl rfl ?_
      refine ab_gen (fun u10 e10 => ?_)
      have P10 : gP [0, 2, 3, 4, 5, 6, 16, 17, 18, 19, 39, 101, 102, 103, 104, 105, 106, 107, 108, 109, 120] u u10 := by rw [e10]; exact P5.ui rfl (by decide)
      refine ab_aload_n X 0 d_MO_read_13 rfl rfl ?_
      refine ab_aload_n X 0 d_MO_read_14 rfl rfl ?_
      refine ab_gI X fl_MO_20 d_MO_read_15 (by first | assumption | decide | (show _ < 124; omega) | (show _ < 61; omega) | (show _ < 20; omega)) ((show _ = x by rw [e10, e5]; simp [ab_up])) ?_
      refine ab_if_ge X 25 d_MO_read_18 rfl (fun _ => ?_) (fun hb => absurd ((Int32.not_lt.mp hn)) hb)
      refine ab_iconst (v := 0) X d_MO_read_25 (by decide) ?_
      refine ab_putI X fp_MO_23 d_MO_read_26 (by first | assumption | decide | (show _ < 124; omega) | (show _ < 61; omega) | (show _ < 20; omega)) rfl rfl ?_
      refine ab_gen (fun u26 e26 => ?_)
      have P26 : gP [0, 2, 3, 4, 5, 6, 16, 17, 18, 19, 39, 101, 102, 103, 104, 105, 106, 107, 108, 109, 120] u u26 := by rw [e26]; exact P10.ui rfl (by decide)
      refine ab_aload_n X 0 d_MO_read_29 rfl rfl ?_
      refine ab_aload_n X 0 d_MO_read_30 rfl rfl ?_
      refine ab_gI X fl_MO_23 d_MO_read_31 (by first | assumption | decide | (show _ < 124; omega) | (show _ < 61; omega) | (show _ < 20; omega)) ((show _ = (0 : Int32) by rw [e26]; simp [ab_up])) ?_
      refine ab_if_eq X 41 d_MO_read_34 rfl (fun _ => ?_) (fun hb => absurd (rfl) hb)
      refine ab_iconst (v := 1) X d_MO_read_41 (by decide) ?_
      refine ab_putI X fp_MO_7 d_MO_read_42 (by first | assumption | decide | (show _ < 124; omega) | (show _ < 61; omega) | (show _ < 20; omega)) rfl rfl ?_
      refine ab_gen (fun u42 e42 => ?_)
      have P42 : gP [0, 2, 3, 4, 5, 6, 16, 17, 18, 19, 39, 101, 102, 103, 104, 105, 106, 107, 108, 109, 120] u u42 := by rw [e42]; exact P26.ui rfl (by decide)
      refine ab_aload_n X 0 d_MO_read_45 rfl rfl ?_
      refine ab_gI X fl_MO_23 d_MO_read_46 (by first | assumption | decide | (show _ < 124; omega) | (show _ < 61; omega) | (show _ < 20; omega)) ((show _ = (0 : Int32) by rw [e42, e26]; simp [ab_up])) ?_
      refine ab_if_ne X 54 d_MO_read_49 rfl (fun hb => absurd (rfl) hb) (fun _ => ?_)
      refine ab_iconst (v := 0) X d_MO_read_52 (by decide) ?_
      exact ab_reti X hr0 hlk d_MO_read_53 ⟨⟨⟨P42.1, ⟨0, by decide, by rw [e42, e26, e10]; simp [ab_up]; rfl⟩, ⟨ni, hi, P42.fi (by decide) ei⟩, Or.inl (by rw [e42, e26]; simp [ab_up])⟩, P42, by rw [e42, e26, e10]; simp [ab_up]; rfl⟩, Or.inl ⟨hpar, by rw [e42, e26]; simp [ab_up]⟩, _, rfl⟩
    ·
      refine ab_putI X fp_MO_20 d_MO_read_5 (by first | assumption | decide | (show _ < 124; omega) | (show _ < 61; omega) | (show _ < 20; omega)) rfl rfl ?_
      refine ab_gen (fun u5 e5 => ?_)
      have P5 : gP [0, 2, 3, 4, 5, 6, 16, 17, 18, 19, 39, 101, 102, 103, 104, 105, 106, 107, 108, 109, 120] u u5 := by rw [e5]; exact P2.ui rfl (by decide)
      refine ab_aload_n X 0 d_MO_read_8 rfl rfl ?_
      refine ab_iconst (v := 0) X d_MO_read_9 (by decide) ?_
      refine ab_putI X fp_MO_17 d_MO_read_10 (by first | assumption | decide | (show _ < 124; omega) | (show _ < 61; omega) | (show _ < 20; omega)) rfl rfl ?_
      refine ab_gen (fun u10 e10 => ?_)
      have P10 : gP [0, 2, 3, 4, 5, 6, 16, 17, 18, 19, 39, 101, 102, 103, 104, 105, 106, 107, 108, 109, 120] u u10 := by rw [e10]; exact P5.ui rfl (by decide)
      refine ab_aload_n X 0 d_MO_read_13 rfl rfl ?_
      refine ab_aload_n X 0 d_MO_read_14 rfl rfl ?_
      refine ab_gI X fl_MO_20 d_MO_read_15 (by first | assumption | decide | (show _ < 124; omega) | (show _ < 61; omega) | (show _ < 20; omega)) ((show _ = x by rw [e10, e5]; simp [ab_up])) ?_
      refine ab_if_ge X 25 d_MO_read_18 rfl (fun hb => absurd hb ((Int32.not_le.mpr hn))) (fun _ => ?_)
      refine ab_iconst (v := 1) X d_MO_read_21 (by decide) ?_
      refine ab_goto X 26 d_MO_read_22 rfl ?_
      refine ab_putI X fp_MO_23 d_MO_read_26 (by first | assumption | decide | (show _ < 124; omega) | (show _ < 61; omega) | (show _ < 20; omega)) rfl rfl ?_
      refine ab_gen (fun u26 e26 => ?_)
      have P26 : gP [0, 2, 3, 4, 5, 6, 16, 17, 18, 19, 39, 101, 102, 103, 104, 105, 106, 107, 108, 109, 120] u u26 := by rw [e26]; exact P10.ui rfl (by decide)
      refine ab_aload_n X 0 d_MO_read_29 rfl rfl ?_
      refine ab_aload_n X 0 d_MO_read_30 rfl rfl ?_
      refine ab_gI X fl_MO_23 d_MO_read_31 (by first | assumption | decide | (show _ < 124; omega) | (show _ < 61; omega) | (show _ < 20; omega)) ((show _ = (1 : Int32) by rw [e26]; simp [ab_up])) ?_
      refine ab_if_eq X 41 d_MO_read_34 rfl (fun hb => absurd hb ((by decide))) (fun _ => ?_)
      refine ab_iconst (v := 0) X d_MO_read_37 (by decide) ?_
      refine ab_goto X 42 d_MO_read_38 rfl ?_
      refine ab_putI X fp_MO_7 d_MO_read_42 (by first | assumption | decide | (show _ < 124; omega) | (show _ < 61; omega) | (show _ < 20; omega)) rfl rfl ?_
      refine ab_gen (fun u42 e42 => ?_)
      have P42 : gP [0, 2, 3, 4, 5, 6, 16, 17, 18, 19, 39, 101, 102, 103, 104, 105, 106, 107, 108, 109, 120] u u42 := by rw [e42]; exact P26.ui rfl (by decide)
      have w42 : gP [0, 2, 3, 4] u2 u42 := by rw [e42, e26, e10, e5]; exact ((((gP.rf P2.1 : gP [0, 2, 3, 4] u2 u2).ui rfl trivial).ui rfl trivial).ui rfl trivial).ui rfl trivial
      have T42 := T2.fr w42 (by decide) (by decide) (by decide) (by decide) (by decide)
      refine ab_aload_n X 0 d_MO_read_45 rfl rfl ?_
      refine ab_gI X fl_MO_23 d_MO_read_46 (by first | assumption | decide | (show _ < 124; omega) | (show _ < 61; omega) | (show _ < 20; omega)) ((show _ = (1 : Int32) by rw [e42, e26]; simp [ab_up])) ?_
      refine ab_if_ne X 54 d_MO_read_49 rfl (fun _ => ?_) (fun hb => absurd hb ((by decide)))
      refine ab_aload_n X 0 d_MO_read_54 rfl rfl ?_
      refine ab_gI X fl_MO_27 d_MO_read_55 (by first | assumption | decide | (show _ < 124; omega) | (show _ < 61; omega) | (show _ < 20; omega)) (T42.1) ?_
      refine ab_iconst (v := 1) X d_MO_read_58 (by decide) ?_
      refine ab_isub X d_MO_read_59 ?_
      refine ab_istore_n1 X 0 d_MO_read_60 rfl (by decide) rfl rfl ?_
      exact loop q M O kd ar cn op lf ch hpar W M _ (Nat.le_refl _) P42 T42 (fun p a b => absurd b (by omega)) (by rw [e42, e26]; simp [ab_up]) (by rw [e42, e26, e10]; simp [ab_up]; rfl) (w42.fi (by decide) a6)
  refine ab_aload_n X 0 d_MO_read_0 rfl rfl ?_
  refine ab_aload_n X 0 d_MO_read_1 rfl rfl ?_
  refine ab_callV (as := []) X (fun h => by cases h) (f_MO_readAll u T t ht et hT hm) lk_MO_313 d_MO_read_2 rfl rfl (by first | assumption | decide | (show _ < 124; omega) | (show _ < 61; omega) | (show _ < 20; omega)) ⟨by first | exact Nat.le_of_ble_eq_true rfl | (simp only [ab_rm]; omega), by first | exact Nat.le_of_ble_eq_true rfl | (simp only [ab_rm]; omega)⟩ ⟨by first | exact Nat.le_of_ble_eq_true rfl | (simp only [ab_rm]; omega), by first | exact Nat.le_of_ble_eq_true rfl | (simp only [ab_rm]; omega)⟩ (Nat.le_of_ble_eq_true rfl) (fun u2 r2 h2 => ?_)
  obtain ⟨q2, x2, hx2, rfl⟩ := h2
  have P2 := P0.trans q2 (by decide)
  exact K5 _ _ P2 hx2
end SaMRead2

