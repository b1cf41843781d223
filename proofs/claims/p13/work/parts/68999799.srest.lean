/-! The other calls of the class leave the refusals. -/
/-- the rows that refuse stay -/
def kR (u u' : ab_S) : Prop := ∀ i k, i % 2 = 1 → i < 122 → u'.1 4 i k = u.1 4 i k ∧ u'.1 8 i k = u.1 8 i k
theorem kR.rf {u : ab_S} : kR u u := fun _ _ _ _ => ⟨rfl, rfl⟩
theorem kR.of {K : List Nat} {u u' : ab_S} (g : cP K u u') (h4 : ¬ 4 ∈ K) (h8 : ¬ 8 ∈ K) : kR u u' := fun i k _ _ => ⟨(g.2.2.1 4 i k h4).1, (g.2.2.1 8 i k h8).1⟩
theorem rO.kr {u u' : ab_S} (h : rO (fun i => i = 123) u u') : kR u u' := fun i k _ b => ⟨h.1 _ _ _ (fun z => by have := z.2; omega), h.1 _ _ _ (fun z => by have := z.2; omega)⟩
section SaSRest
variable {l : Launch} {D : va_G} {ca : Nat → ClassId}
set_option maxRecDepth 100000 in
set_option maxHeartbeats 1000000 in
theorem x_RW_addS (u : ab_S) (r : Nat) (x : Int32) (h : CI u) (hr : r < 124) : ab_C false l D ca y_RW_add b_RW_add 2 none 1 ab_nQ u [ab_O 4 r, ab_I x] (fun u' v => (cP [4, 8] u u' ∧ rO (fun i => i = r) u u') ∧ v = none) := by
  refine ab_C.of (by decide) (Nat.le_of_ble_eq_true rfl) ?_
  intro p e s m args below meth c ad X hZ hr0 hlk
  have P0 : cP [4, 8] u u := cQ.rf h
  obtain ⟨n, hn, en⟩ := h.row hr
  have l2 := ab_ln8b r
  refine ab_aload_n X 0 d_RW_add_0 rfl rfl ?_
  refine ab_gI X fl_RW_9 d_RW_add_1 (by first | assumption | decide | (show _ < 124; omega) | (show _ < 61; omega) | (show _ < 20; omega)) (en) ?_
  refine ab_aload_n X 0 d_RW_add_4 rfl rfl ?_
  refine ab_gR X fl_RW_22 d_RW_add_5 (by first | assumption | decide | (show _ < 124; omega) | (show _ < 61; omega) | (show _ < 20; omega)) (P0.1.rw (by first | assumption | decide | omega)) ?_
  refine ab_alen X ⟨by decide, _, fun _ => rfl⟩ d_RW_add_8 (by first | assumption | decide | (show _ < 124; omega) | (show _ < 61; omega) | (show _ < 20; omega)) (rfl) ?_
  refine ab_icmp_ge X 45 d_RW_add_9 rfl (fun h9 => ?_) (fun h9 => ?_)
  ·
    first | exact ab_retv X hr0 hlk d_RW_add_45 ⟨⟨P0, ⟨fun c i k z => by rw [e42, e29, e21]; exact (ui_n _ (by omega)).trans ((ui_n _ (by omega)).trans (ui_n _ (by omega))), by rw [e42, e29, e21]⟩⟩, rfl⟩ | exact ab_retv X hr0 hlk d_RW_add_45 ⟨⟨P0, rO.rf⟩, rfl⟩
  ·
    have hc := nI_lt_of h9 (by omega)
    refine ab_aload_n X 0 d_RW_add_12 rfl rfl ?_
    refine ab_gR X fl_RW_22 d_RW_add_13 (by first | assumption | decide | (show _ < 124; omega) | (show _ < 61; omega) | (show _ < 20; omega)) (P0.1.rw (by first | assumption | decide | omega)) ?_
    refine ab_aload_n X 0 d_RW_add_16 rfl rfl ?_
    refine ab_gI X fl_RW_9 d_RW_add_17 (by first | assumption | decide | (show _ < 124; omega) | (show _ < 61; omega) | (show _ < 20; omega)) (en) ?_
    refine ab_iload_n X 1 d_RW_add_20 rfl rfl ?_
    refine ab_iast X (n) ⟨rfl, rfl⟩ d_RW_add_21 (by first | assumption | decide | (show _ < 124; omega) | (show _ < 61; omega) | (show _ < 20; omega)) (rfl) (hc) (ab_ln_lt _ _) ?_
    refine ab_gen (fun u21 e21 => ?_)
    have P21 : cP [4, 8] u u21 := by rw [e21]; exact P0.ui rfl (by decide)
    refine ab_aload_n X 0 d_RW_add_22 rfl rfl ?_
    refine ab_dup X d_RW_add_23 rfl ?_
    refine ab_gI X fl_RW_9 d_RW_add_24 (by first | assumption | decide | (show _ < 124; omega) | (show _ < 61; omega) | (show _ < 20; omega)) ((show _ = nI n by rw [e21]; exact (ui_n _ (by omega)).trans en)) ?_
    refine ab_iconst (v := 1) X d_RW_add_27 (by decide) ?_
    refine ab_iadd X d_RW_add_28 ?_
    refine ab_top (nI_1 _) ?_
    refine ab_putI X fp_RW_9 d_RW_add_29 (by first | assumption | decide | (show _ < 124; omega) | (show _ < 61; omega) | (show _ < 20; omega)) rfl rfl ?_
    refine ab_gen (fun u29 e29 => ?_)
    have P29 : cP [4, 8] u u29 := by rw [e29]; exact P21.row (by decide) (by omega)
    refine ab_aload_n X 0 d_RW_add_32 rfl rfl ?_
    refine ab_dup X d_RW_add_33 rfl ?_
    refine ab_gI X fl_RW_15 d_RW_add_34 (by first | assumption | decide | (show _ < 124; omega) | (show _ < 61; omega) | (show _ < 20; omega)) (rfl) ?_
    refine ab_iload_n X 1 d_RW_add_37 rfl rfl ?_
    refine ab_callS (as := [ab_I x]) X (fun h => by cases h) (c_RW_weightOf (N := ab_nQ) u29 x) ls_RW_26 d_RW_add_38 rfl rfl ⟨by first | exact Nat.le_of_ble_eq_true rfl | (simp only [ab_rm]; omega), by first | exact Nat.le_of_ble_eq_true rfl | (simp only [ab_rm]; omega)⟩ ⟨by first | exact Nat.le_of_ble_eq_true rfl | (simp only [ab_rm]; omega), by first | exact Nat.le_of_ble_eq_true rfl | (simp only [ab_rm]; omega)⟩ (Nat.le_of_ble_eq_true rfl) (fun u38 r38 h38 => ?_)
    obtain ⟨e38, rfl⟩ := h38
    subst u38
    refine ab_iadd X d_RW_add_41 ?_
    refine ab_putI X fp_RW_15 d_RW_add_42 (by first | assumption | decide | (show _ < 124; omega) | (show _ < 61; omega) | (show _ < 20; omega)) rfl rfl ?_
    refine ab_gen (fun u42 e42 => ?_)
    have P42 : cP [4, 8] u u42 := by rw [e42]; exact P29.ui rfl (by decide)
    first | exact ab_retv X hr0 hlk d_RW_add_45 ⟨⟨P42, ⟨fun c i k z => by rw [e42, e29, e21]; exact (ui_n _ (by omega)).trans ((ui_n _ (by omega)).trans (ui_n _ (by omega))), by rw [e42, e29, e21]⟩⟩, rfl⟩ | exact ab_retv X hr0 hlk d_RW_add_45 ⟨⟨P42, rO.rf⟩, rfl⟩
set_option maxRecDepth 100000 in
set_option maxHeartbeats 1000000 in
theorem x_PF_check (hfl : ab_fl0 l) (u : ab_S) (a1 a2 : Int32) (h : CI u) : ab_CT l D ca y_PF_check b_PF_check 3 (some FieldType.int) 8 ab_nQ u [ab_O 0 0, ab_I a1, ab_I a2] (fun u' v => cP [6, 7, 15, 16] u u' ∧ ∃ x : Int32, v = some (ab_I x)) (fun u' E => cP [6, 7, 15, 16] u u' ∧ E = ab_NSE) := by
  refine ab_CT.of (by decide) (Nat.le_of_ble_eq_true rfl) ?_
  intro p e s m args below meth c ad X hZ hW0 hnh hr0 hlk
  have P0 : cP [6, 7, 15, 16] u u := cQ.rf h
  refine ab_aload_n X 0 d_PF_check_0 rfl rfl ?_
  refine ab_gR X fl_PF_58 d_PF_check_1 (by first | assumption | decide | (show _ < 124; omega) | (show _ < 61; omega) | (show _ < 20; omega)) (rfl) ?_
  refine ab_ifnonnull X 15 d_PF_check_4 rfl (fun h4 => ?_) (fun h4 => ?_)
  ·
    refine ab_aload_n X 0 d_PF_check_15 rfl rfl ?_
    refine ab_gR X fl_PF_44 d_PF_check_16 (by first | assumption | decide | (show _ < 124; omega) | (show _ < 61; omega) | (show _ < 20; omega)) (P0.1.pf4) ?_
    refine ab_iconst (v := 0) X d_PF_check_19 (by decide) ?_
    refine ab_iconst (v := 0) X d_PF_check_20 (by decide) ?_
    refine ab_iload_n X 1 d_PF_check_21 rfl rfl ?_
    refine ab_iload_n X 2 d_PF_check_22 rfl rfl ?_
    refine ab_callV (as := [ab_I 0, ab_I 0, ab_I a1, ab_I a2]) X (fun h => by cases h) (s_FA_set u 0 0 a1 a2 h) lk_PF_110 d_PF_check_23 rfl rfl (by first | assumption | decide | (show _ < 124; omega) | (show _ < 61; omega) | (show _ < 20; omega)) ⟨by first | exact Nat.le_of_ble_eq_true rfl | (simp only [ab_rm]; omega), by first | exact Nat.le_of_ble_eq_true rfl | (simp only [ab_rm]; omega)⟩ ⟨by first | exact Nat.le_of_ble_eq_true rfl | (simp only [ab_rm]; omega), by first | exact Nat.le_of_ble_eq_true rfl | (simp only [ab_rm]; omega)⟩ (Nat.le_of_ble_eq_true rfl) (fun u23 r23 h23 => ?_)
    obtain ⟨q23, rfl⟩ := h23
    have P23 := P0.trans q23 (by decide)
    refine ab_aload_n X 0 d_PF_check_26 rfl rfl ?_
    refine ab_gR X fl_PF_54 d_PF_check_27 (by first | assumption | decide | (show _ < 124; omega) | (show _ < 61; omega) | (show _ < 20; omega)) (P23.1.pf6) ?_
    refine ab_aload_n X 0 d_PF_check_30 rfl rfl ?_
    refine ab_gR X fl_PF_37 d_PF_check_31 (by first | assumption | decide | (show _ < 124; omega) | (show _ < 61; omega) | (show _ < 20; omega)) (P23.1.pf3) ?_
    refine ab_aload_n X 0 d_PF_check_34 rfl rfl ?_
    refine ab_gR X fl_PF_48 d_PF_check_35 (by first | assumption | decide | (show _ < 124; omega) | (show _ < 61; omega) | (show _ < 20; omega)) (P23.1.pf5) ?_
    refine ab_aload_n X 0 d_PF_check_38 rfl rfl ?_
    refine ab_gR X fl_PF_44 d_PF_check_39 (by first | assumption | decide | (show _ < 124; omega) | (show _ < 61; omega) | (show _ < 20; omega)) (P23.1.pf4) ?_
    refine ab_callV (as := [ab_O 5 0, ab_O 4 123, ab_O 6 0]) X (fun h => by cases h) (s_MA_run u23 123 P23.1 (by decide)) lk_PF_179 d_PF_check_42 rfl rfl (by first | assumption | decide | (show _ < 124; omega) | (show _ < 61; omega) | (show _ < 20; omega)) ⟨by first | exact Nat.le_of_ble_eq_true rfl | (simp only [ab_rm]; omega), by first | exact Nat.le_of_ble_eq_true rfl | (simp only [ab_rm]; omega)⟩ ⟨by first | exact Nat.le_of_ble_eq_true rfl | (simp only [ab_rm]; omega), by first | exact Nat.le_of_ble_eq_true rfl | (simp only [ab_rm]; omega)⟩ (Nat.le_of_ble_eq_true rfl) (fun u42 r42 h42 => ?_)
    obtain ⟨q42, x42, rfl⟩ := h42
    have P42 := P23.trans q42 (by decide)
    exact ab_retTi X hr0 hlk d_PF_check_45 ⟨P42, _, rfl⟩
  ·
    exact ab_throw (cells := 0) (slots := 0) X hfl hZ hW0 hnh hlk ow_PF_107 d_PF_check_7 d_PF_check_10 d_PF_check_11 d_PF_check_14 ⟨Nat.le_of_ble_eq_true rfl, Nat.le_of_ble_eq_true rfl⟩ ⟨Nat.le_of_ble_eq_true rfl, Nat.le_of_ble_eq_true rfl⟩ ⟨P0, rfl⟩
set_option maxRecDepth 100000 in
set_option maxHeartbeats 1000000 in
theorem x_PF_put (hfl : ab_fl0 l) (u : ab_S) (a1 : Int32) (h : CI u) : ab_CT l D ca y_PF_put b_PF_put 2 (some FieldType.int) 8 ab_nQ u [ab_O 0 0, ab_I a1] (fun u' v => (cP [4, 8] u u' ∧ rO (fun i => i = 123) u u') ∧ ∃ x : Int32, v = some (ab_I x)) (fun u' E => u' = u ∧ (E = ab_IAE ∨ E = ab_ISE)) := by
  refine ab_CT.of (by decide) (Nat.le_of_ble_eq_true rfl) ?_
  intro p e s m args below meth c ad X hZ hW0 hnh hr0 hlk
  have P0 : cP [4, 8] u u := cQ.rf h
  refine ab_iload_n X 1 d_PF_put_0 rfl rfl ?_
  refine ab_callS (as := [ab_I a1]) X (fun h => by cases h) (t_PF_isItem u a1) ls_PF_165 d_PF_put_1 rfl rfl ⟨by first | exact Nat.le_of_ble_eq_true rfl | (simp only [ab_rm]; omega), by first | exact Nat.le_of_ble_eq_true rfl | (simp only [ab_rm]; omega)⟩ ⟨by first | exact Nat.le_of_ble_eq_true rfl | (simp only [ab_rm]; omega), by first | exact Nat.le_of_ble_eq_true rfl | (simp only [ab_rm]; omega)⟩ (Nat.le_of_ble_eq_true rfl) (fun u1 r1 h1 => ?_)
  obtain ⟨e1, b1, rfl⟩ := h1
  subst u1
  refine ab_if_ne X 15 d_PF_put_4 rfl (fun h4 => ?_) (fun h4 => ?_)
  ·
    refine ab_aload_n X 0 d_PF_put_15 rfl rfl ?_
    refine ab_gR X fl_PF_48 d_PF_put_16 (by first | assumption | decide | (show _ < 124; omega) | (show _ < 61; omega) | (show _ < 20; omega)) (P0.1.pf5) ?_
    refine ab_gI X fl_PF_169 d_PF_put_19 (by first | assumption | decide | (show _ < 124; omega) | (show _ < 61; omega) | (show _ < 20; omega)) (rfl) ?_
    refine ab_bipush (v := 24) X d_PF_put_22 (by decide) ?_
    refine ab_icmp_lt X 35 d_PF_put_24 rfl (fun h24 => ?_) (fun h24 => ?_)
    ·
      refine ab_aload_n X 0 d_PF_put_35 rfl rfl ?_
      refine ab_gR X fl_PF_48 d_PF_put_36 (by first | assumption | decide | (show _ < 124; omega) | (show _ < 61; omega) | (show _ < 20; omega)) (P0.1.pf5) ?_
      refine ab_iload_n X 1 d_PF_put_39 rfl rfl ?_
      refine ab_callV (as := [ab_I a1]) X (fun h => by cases h) (x_RW_addS u 123 a1 h (by decide)) lk_PF_173 d_PF_put_40 rfl rfl (by first | assumption | decide | (show _ < 124; omega) | (show _ < 61; omega) | (show _ < 20; omega)) ⟨by first | exact Nat.le_of_ble_eq_true rfl | (simp only [ab_rm]; omega), by first | exact Nat.le_of_ble_eq_true rfl | (simp only [ab_rm]; omega)⟩ ⟨by first | exact Nat.le_of_ble_eq_true rfl | (simp only [ab_rm]; omega), by first | exact Nat.le_of_ble_eq_true rfl | (simp only [ab_rm]; omega)⟩ (Nat.le_of_ble_eq_true rfl) (fun u40 r40 h40 => ?_)
      obtain ⟨⟨q40, o40⟩, rfl⟩ := h40
      have P40 := P0.trans q40 (by decide)
      refine ab_aload_n X 0 d_PF_put_43 rfl rfl ?_
      refine ab_gR X fl_PF_48 d_PF_put_44 (by first | assumption | decide | (show _ < 124; omega) | (show _ < 61; omega) | (show _ < 20; omega)) (P40.1.pf5) ?_
      refine ab_gI X fl_PF_169 d_PF_put_47 (by first | assumption | decide | (show _ < 124; omega) | (show _ < 61; omega) | (show _ < 20; omega)) (rfl) ?_
      exact ab_retTi X hr0 hlk d_PF_put_50 ⟨⟨P40, o40⟩, _, rfl⟩
    ·
      exact ab_throw (cells := 0) (slots := 0) X hfl hZ hW0 hnh hlk ow_PF_170 d_PF_put_27 d_PF_put_30 d_PF_put_31 d_PF_put_34 ⟨Nat.le_of_ble_eq_true rfl, Nat.le_of_ble_eq_true rfl⟩ ⟨Nat.le_of_ble_eq_true rfl, Nat.le_of_ble_eq_true rfl⟩ ⟨rfl, Or.inr rfl⟩
  ·
    exact ab_throw (cells := 0) (slots := 0) X hfl hZ hW0 hnh hlk ow_PF_78 d_PF_put_7 d_PF_put_10 d_PF_put_11 d_PF_put_14 ⟨Nat.le_of_ble_eq_true rfl, Nat.le_of_ble_eq_true rfl⟩ ⟨Nat.le_of_ble_eq_true rfl, Nat.le_of_ble_eq_true rfl⟩ ⟨rfl, Or.inl rfl⟩
end SaSRest

