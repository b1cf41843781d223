/-! The reference's ways: words and weight of each. -/
/-- a form's words and weight, as they stand -/
def lw (u : ab_S) (f n g : Nat) : Prop := u.1 18 6 f = nI n ∧ u.1 18 7 f = nI g
/-- a part's forms and its refusal's weight -/
def m3 (Y : Nat → Nat → Nat × Nat × Nat) (R : Nat → List Nat) (u : ab_S) (c : Nat) : Prop := (lw u (3 * c) (Y c 0).2.1 (Y c 0).2.2 ∧ lw u (3 * c + 1) (Y c 1).2.1 (Y c 1).2.2 ∧ lw u (3 * c + 2) (Y c 2).2.1 (Y c 2).2.2) ∧ u.1 18 8 c = nI (R c).length
def bd (Y : Nat → Nat → Nat × Nat × Nat) (R : Nat → List Nat) (c : Nat) : Prop := (∀ j, j < 3 → 1 ≤ (Y c j).2.1 ∧ (Y c j).2.1 ≤ 100 ∧ (Y c j).2.2 ≤ 200) ∧ (R c).length ≤ 200 ∧ (R c).length ≤ (Y c 1).2.2
theorem xB.bd {lf : Nat → Nat} {Y : Nat → Nat → Nat × Nat × Nat} {R : Nat → List Nat} {c : Nat} (h : xB lf Y R c) (hl : 1 ≤ lf c ∧ lf c ≤ 10) : bd Y R c := by
  refine ⟨fun j hj => ?_, by have := h.2.1; omega, h.2.2.1⟩
  obtain ⟨a, b, d⟩ := h.1 j hj
  have e1 : (if j = 2 then 1 else 0) ≤ 1 := by split <;> decide
  have e2 : (if j = 0 then 0 else 1) ≤ 1 := by split <;> decide
  omega
theorem m3.fr {Y : Nat → Nat → Nat × Nat × Nat} {R : Nat → List Nat} {u u' : ab_S} {c : Nat} {F : List Nat} (h : m3 Y R u c) (g : gP F u u') (h6 : ¬ 100 + 6 ∈ F) (h7 : ¬ 100 + 7 ∈ F) (h8 : ¬ 100 + 8 ∈ F) : m3 Y R u' c := ⟨⟨⟨g.ai h6 h.1.1.1, g.ai h7 h.1.1.2⟩, ⟨g.ai h6 h.1.2.1.1, g.ai h7 h.1.2.1.2⟩, g.ai h6 h.1.2.2.1, g.ai h7 h.1.2.2.2⟩, g.ai h8 h.2⟩
section SaXMForm
variable {l : Launch} {D : va_G} {ca : Nat → ClassId}
set_option maxRecDepth 100000 in
set_option maxHeartbeats 1000000 in
theorem t_MO_gr (u : ab_S) (a b : Nat) (ha : a < 2 ^ 31) (hb : b < 2 ^ 31) : ab_C false l D ca y_MO_greater b_MO_greater 2 (some FieldType.int) 0 ab_nQ u [ab_I (nI a), ab_I (nI b)] (fun u' v => u' = u ∧ v = some (ab_I (nI (max a b)))) := by
  refine ab_C.of (by decide) (Nat.le_of_ble_eq_true rfl) ?_
  intro p e s m args below meth c ad X hZ hr0 hlk
  refine ab_iload_n X 0 d_MO_greater_0 rfl rfl ?_
  refine ab_iload_n X 1 d_MO_greater_1 rfl rfl ?_
  refine ab_icmp_le X 9 d_MO_greater_2 rfl (fun h2 => ?_) (fun h2 => ?_)
  ·
    have e1 : max a b = b := Nat.max_eq_right (nI_le_of h2 ha)
    refine ab_iload_n X 1 d_MO_greater_9 rfl rfl ?_
    exact ab_reti X hr0 hlk d_MO_greater_10 ⟨rfl, by rw [e1]⟩
  ·
    have e1 : max a b = a := Nat.max_eq_left (by have := nI_lt_of h2 hb; omega)
    refine ab_iload_n X 0 d_MO_greater_5 rfl rfl ?_
    refine ab_goto X 10 d_MO_greater_6 rfl ?_
    exact ab_reti X hr0 hlk d_MO_greater_10 ⟨rfl, by rw [e1]⟩
set_option maxRecDepth 100000 in
set_option maxHeartbeats 1000000 in
theorem x_MO_is (u : ab_S) (a b : Int32) (h : mR u.2.1) : ab_C false l D ca y_MO_is b_MO_is 3 none 0 ab_nQ u [ab_O 17 0, ab_I a, ab_I b] (fun u' v => (gP [18, 19] u u' ∧ u'.1 17 0 18 = a ∧ u'.1 17 0 19 = b) ∧ v = none) := by
  refine ab_C.of (by decide) (Nat.le_of_ble_eq_true rfl) ?_
  intro p e s m args below meth c ad X hZ hr0 hlk
  have P0 : gP [18, 19] u u := gP.rf h
  refine ab_aload_n X 0 d_MO_is_0 rfl rfl ?_
  refine ab_iload_n X 1 d_MO_is_1 rfl rfl ?_
  refine ab_putI X fp_MO_66 d_MO_is_2 (by first | assumption | decide | (show _ < 124; omega) | (show _ < 61; omega) | (show _ < 20; omega)) rfl rfl ?_
  refine ab_gen (fun u2 e2 => ?_)
  have P2 : gP [18, 19] u u2 := by rw [e2]; exact P0.ui rfl (by decide)
  refine ab_aload_n X 0 d_MO_is_5 rfl rfl ?_
  refine ab_iload_n X 2 d_MO_is_6 rfl rfl ?_
  refine ab_putI X fp_MO_69 d_MO_is_7 (by first | assumption | decide | (show _ < 124; omega) | (show _ < 61; omega) | (show _ < 20; omega)) rfl rfl ?_
  refine ab_gen (fun u7 e7 => ?_)
  have P7 : gP [18, 19] u u7 := by rw [e7]; exact P2.ui rfl (by decide)
  exact ab_retv X hr0 hlk d_MO_is_10 ⟨⟨P7, by rw [e7, e2]; simp [ab_up], by rw [e7]; simp [ab_up]⟩, rfl⟩
set_option maxRecDepth 100000 in
set_option maxHeartbeats 1000000 in
theorem x_MO_both (u : ab_S) (f g k nf gf ng gg : Nat) (h : mR u.2.1) (hf : f < 72) (hg : g < 72) (ef : lw u f nf gf) (eg : lw u g ng gg) : ab_C false l D ca y_MO_both b_MO_both 4 none 1 ab_nQ u [ab_O 17 0, ab_I (nI f), ab_I (nI g), ab_I (nI k)] (fun u' v => (gP [18, 19] u u' ∧ u'.1 17 0 18 = nI  (nf + ng + k) ∧ u'.1 17 0 19 = nI (gf + gg)) ∧ v = none) := by
  refine ab_C.of (by decide) (Nat.le_of_ble_eq_true rfl) ?_
  intro p e s m args below meth c ad X hZ hr0 hlk
  have P0 : gP [18, 19] u u := gP.rf h
  refine ab_aload_n X 0 d_MO_both_0 rfl rfl ?_
  refine ab_aload_n X 0 d_MO_both_1 rfl rfl ?_
  refine ab_gR X fl_MO_48 d_MO_both_2 (by first | assumption | decide | (show _ < 124; omega) | (show _ < 61; omega) | (show _ < 20; omega)) (P0.1.mo12) ?_
  refine ab_iload_n X 1 d_MO_both_5 rfl rfl ?_
  refine ab_iald X (f) ⟨rfl, rfl⟩ d_MO_both_6 (by first | assumption | decide | (show _ < 124; omega) | (show _ < 61; omega) | (show _ < 20; omega)) (rfl) (show f < 72 by omega) (ab_ln_lt _ _) ?_
  refine ab_top ef.1 ?_
  refine ab_aload_n X 0 d_MO_both_7 rfl rfl ?_
  refine ab_gR X fl_MO_48 d_MO_both_8 (by first | assumption | decide | (show _ < 124; omega) | (show _ < 61; omega) | (show _ < 20; omega)) (P0.1.mo12) ?_
  refine ab_iload_n X 2 d_MO_both_11 rfl rfl ?_
  refine ab_iald X (g) ⟨rfl, rfl⟩ d_MO_both_12 (by first | assumption | decide | (show _ < 124; omega) | (show _ < 61; omega) | (show _ < 20; omega)) (rfl) (show g < 72 by omega) (ab_ln_lt _ _) ?_
  refine ab_top eg.1 ?_
  refine ab_iadd X d_MO_both_13 ?_
  refine ab_top (nI_add _ _) ?_
  refine ab_iload_n X 3 d_MO_both_14 rfl rfl ?_
  refine ab_iadd X d_MO_both_15 ?_
  refine ab_top (nI_add _ _) ?_
  refine ab_aload_n X 0 d_MO_both_16 rfl rfl ?_
  refine ab_gR X fl_MO_51 d_MO_both_17 (by first | assumption | decide | (show _ < 124; omega) | (show _ < 61; omega) | (show _ < 20; omega)) (P0.1.mo13) ?_
  refine ab_iload_n X 1 d_MO_both_20 rfl rfl ?_
  refine ab_iald X (f) ⟨rfl, rfl⟩ d_MO_both_21 (by first | assumption | decide | (show _ < 124; omega) | (show _ < 61; omega) | (show _ < 20; omega)) (rfl) (show f < 72 by omega) (ab_ln_lt _ _) ?_
  refine ab_top ef.2 ?_
  refine ab_aload_n X 0 d_MO_both_22 rfl rfl ?_
  refine ab_gR X fl_MO_51 d_MO_both_23 (by first | assumption | decide | (show _ < 124; omega) | (show _ < 61; omega) | (show _ < 20; omega)) (P0.1.mo13) ?_
  refine ab_iload_n X 2 d_MO_both_26 rfl rfl ?_
  refine ab_iald X (g) ⟨rfl, rfl⟩ d_MO_both_27 (by first | assumption | decide | (show _ < 124; omega) | (show _ < 61; omega) | (show _ < 20; omega)) (rfl) (show g < 72 by omega) (ab_ln_lt _ _) ?_
  refine ab_top eg.2 ?_
  refine ab_iadd X d_MO_both_28 ?_
  refine ab_top (nI_add _ _) ?_
  refine ab_callV (as := [ab_I _, ab_I _]) X (fun h => by cases h) (x_MO_is u _ _ h) lk_MO_188 d_MO_both_29 rfl rfl (by first | assumption | decide | (show _ < 124; omega) | (show _ < 61; omega) | (show _ < 20; omega)) ⟨by first | exact Nat.le_of_ble_eq_true rfl | (simp only [ab_rm]; omega), by first | exact Nat.le_of_ble_eq_true rfl | (simp only [ab_rm]; omega)⟩ ⟨by first | exact Nat.le_of_ble_eq_true rfl | (simp only [ab_rm]; omega), by first | exact Nat.le_of_ble_eq_true rfl | (simp only [ab_rm]; omega)⟩ (Nat.le_of_ble_eq_true rfl) (fun u29 r29 h29 => ?_)
  obtain ⟨⟨q29, a29, b29⟩, rfl⟩ := h29
  have P29 := P0.trans q29 (by decide)
  exact ab_retv X hr0 hlk d_MO_both_32 ⟨⟨P29, a29, b29⟩, rfl⟩
set_option maxRecDepth 100000 in
set_option maxHeartbeats 1000000 in
theorem x_MO_either (u : ab_S) (f g k x nf gf ng gg : Nat) (h : mR u.2.1) (hf : f < 72) (hg : g < 72) (ef : lw u f nf gf) (eg : lw u g ng gg) (b1 : gf ≤ 1000) (b2 : x ≤ 1000) (b3 : gg ≤ 1000) : ab_C false l D ca y_MO_either b_MO_either 5 none 1 ab_nQ u [ab_O 17 0, ab_I (nI f), ab_I (nI x), ab_I (nI g), ab_I (nI k)] (fun u' v => (gP [18, 19] u u' ∧ u'.1 17 0 18 = nI  (nf + ng + k) ∧ u'.1 17 0 19 = nI (max gf (x + gg))) ∧ v = none) := by
  refine ab_C.of (by decide) (Nat.le_of_ble_eq_true rfl) ?_
  intro p e s m args below meth c ad X hZ hr0 hlk
  have P0 : gP [18, 19] u u := gP.rf h
  refine ab_aload_n X 0 d_MO_either_0 rfl rfl ?_
  refine ab_aload_n X 0 d_MO_either_1 rfl rfl ?_
  refine ab_gR X fl_MO_48 d_MO_either_2 (by first | assumption | decide | (show _ < 124; omega) | (show _ < 61; omega) | (show _ < 20; omega)) (P0.1.mo12) ?_
  refine ab_iload_n X 1 d_MO_either_5 rfl rfl ?_
  refine ab_iald X (f) ⟨rfl, rfl⟩ d_MO_either_6 (by first | assumption | decide | (show _ < 124; omega) | (show _ < 61; omega) | (show _ < 20; omega)) (rfl) (show f < 72 by omega) (ab_ln_lt _ _) ?_
  refine ab_top ef.1 ?_
  refine ab_aload_n X 0 d_MO_either_7 rfl rfl ?_
  refine ab_gR X fl_MO_48 d_MO_either_8 (by first | assumption | decide | (show _ < 124; omega) | (show _ < 61; omega) | (show _ < 20; omega)) (P0.1.mo12) ?_
  refine ab_iload_n X 3 d_MO_either_11 rfl rfl ?_
  refine ab_iald X (g) ⟨rfl, rfl⟩ d_MO_either_12 (by first | assumption | decide | (show _ < 124; omega) | (show _ < 61; omega) | (show _ < 20; omega)) (rfl) (show g < 72 by omega) (ab_ln_lt _ _) ?_
  refine ab_top eg.1 ?_
  refine ab_iadd X d_MO_either_13 ?_
  refine ab_top (nI_add _ _) ?_
  refine ab_iload X 4 d_MO_either_14 rfl ?_
  refine ab_iadd X d_MO_either_16 ?_
  refine ab_top (nI_add _ _) ?_
  refine ab_aload_n X 0 d_MO_either_17 rfl rfl ?_
  refine ab_gR X fl_MO_51 d_MO_either_18 (by first | assumption | decide | (show _ < 124; omega) | (show _ < 61; omega) | (show _ < 20; omega)) (P0.1.mo13) ?_
  refine ab_iload_n X 1 d_MO_either_21 rfl rfl ?_
  refine ab_iald X (f) ⟨rfl, rfl⟩ d_MO_either_22 (by first | assumption | decide | (show _ < 124; omega) | (show _ < 61; omega) | (show _ < 20; omega)) (rfl) (show f < 72 by omega) (ab_ln_lt _ _) ?_
  refine ab_top ef.2 ?_
  refine ab_iload_n X 2 d_MO_either_23 rfl rfl ?_
  refine ab_aload_n X 0 d_MO_either_24 rfl rfl ?_
  refine ab_gR X fl_MO_51 d_MO_either_25 (by first | assumption | decide | (show _ < 124; omega) | (show _ < 61; omega) | (show _ < 20; omega)) (P0.1.mo13) ?_
  refine ab_iload_n X 3 d_MO_either_28 rfl rfl ?_
  refine ab_iald X (g) ⟨rfl, rfl⟩ d_MO_either_29 (by first | assumption | decide | (show _ < 124; omega) | (show _ < 61; omega) | (show _ < 20; omega)) (rfl) (show g < 72 by omega) (ab_ln_lt _ _) ?_
  refine ab_top eg.2 ?_
  refine ab_iadd X d_MO_either_30 ?_
  refine ab_top (nI_add _ _) ?_
  refine ab_callS (as := [ab_I (nI gf), ab_I (nI (x + gg))]) X (fun h => by cases h) (t_MO_gr u gf (x + gg) (by omega) (by omega)) ls_MO_192 d_MO_either_31 rfl rfl ⟨by first | exact Nat.le_of_ble_eq_true rfl | (simp only [ab_rm]; omega), by first | exact Nat.le_of_ble_eq_true rfl | (simp only [ab_rm]; omega)⟩ ⟨by first | exact Nat.le_of_ble_eq_true rfl | (simp only [ab_rm]; omega), by first | exact Nat.le_of_ble_eq_true rfl | (simp only [ab_rm]; omega)⟩ (Nat.le_of_ble_eq_true rfl) (fun u31 r31 h31 => ?_)
  obtain ⟨e31, rfl⟩ := h31
  subst u31
  refine ab_callV (as := [ab_I _, ab_I _]) X (fun h => by cases h) (x_MO_is u _ _ h) lk_MO_188 d_MO_either_34 rfl rfl (by first | assumption | decide | (show _ < 124; omega) | (show _ < 61; omega) | (show _ < 20; omega)) ⟨by first | exact Nat.le_of_ble_eq_true rfl | (simp only [ab_rm]; omega), by first | exact Nat.le_of_ble_eq_true rfl | (simp only [ab_rm]; omega)⟩ ⟨by first | exact Nat.le_of_ble_eq_true rfl | (simp only [ab_rm]; omega), by first | exact Nat.le_of_ble_eq_true rfl | (simp only [ab_rm]; omega)⟩ (Nat.le_of_ble_eq_true rfl) (fun u34 r34 h34 => ?_)
  obtain ⟨⟨q34, a34, b34⟩, rfl⟩ := h34
  have P34 := P0.trans q34 (by decide)
  exact ab_retv X hr0 hlk d_MO_either_37 ⟨⟨P34, a34, b34⟩, rfl⟩
set_option maxRecDepth 100000 in
set_option maxHeartbeats 1000000 in
theorem x_MO_choice (u : ab_S) (f g nf gf ng gg : Nat) (h : mR u.2.1) (hf : f < 72) (hg : g < 72) (ef : lw u f nf gf) (eg : lw u g ng gg) (b1 : gf ≤ 1000) (b3 : gg ≤ 1000) : ab_C false l D ca y_MO_choice b_MO_choice 3 none 1 ab_nQ u [ab_O 17 0, ab_I (nI f), ab_I (nI g)] (fun u' v => (gP [18, 19] u u' ∧ u'.1 17 0 18 = nI  (nf + ng + 3) ∧ u'.1 17 0 19 = nI (1 + max gf gg)) ∧ v = none) := by
  refine ab_C.of (by decide) (Nat.le_of_ble_eq_true rfl) ?_
  intro p e s m args below meth c ad X hZ hr0 hlk
  have P0 : gP [18, 19] u u := gP.rf h
  refine ab_aload_n X 0 d_MO_choice_0 rfl rfl ?_
  refine ab_aload_n X 0 d_MO_choice_1 rfl rfl ?_
  refine ab_gR X fl_MO_48 d_MO_choice_2 (by first | assumption | decide | (show _ < 124; omega) | (show _ < 61; omega) | (show _ < 20; omega)) (P0.1.mo12) ?_
  refine ab_iload_n X 1 d_MO_choice_5 rfl rfl ?_
  refine ab_iald X (f) ⟨rfl, rfl⟩ d_MO_choice_6 (by first | assumption | decide | (show _ < 124; omega) | (show _ < 61; omega) | (show _ < 20; omega)) (rfl) (show f < 72 by omega) (ab_ln_lt _ _) ?_
  refine ab_top ef.1 ?_
  refine ab_aload_n X 0 d_MO_choice_7 rfl rfl ?_
  refine ab_gR X fl_MO_48 d_MO_choice_8 (by first | assumption | decide | (show _ < 124; omega) | (show _ < 61; omega) | (show _ < 20; omega)) (P0.1.mo12) ?_
  refine ab_iload_n X 2 d_MO_choice_11 rfl rfl ?_
  refine ab_iald X (g) ⟨rfl, rfl⟩ d_MO_choice_12 (by first | assumption | decide | (show _ < 124; omega) | (show _ < 61; omega) | (show _ < 20; omega)) (rfl) (show g < 72 by omega) (ab_ln_lt _ _) ?_
  refine ab_top eg.1 ?_
  refine ab_iadd X d_MO_choice_13 ?_
  refine ab_top (nI_add _ _) ?_
  refine ab_iconst (v := 3) X d_MO_choice_14 (by decide) ?_
  refine ab_iadd X d_MO_choice_15 ?_
  refine ab_top (nI_add _ 3) ?_
  refine ab_iconst (v := 1) X d_MO_choice_16 (by decide) ?_
  refine ab_aload_n X 0 d_MO_choice_17 rfl rfl ?_
  refine ab_gR X fl_MO_51 d_MO_choice_18 (by first | assumption | decide | (show _ < 124; omega) | (show _ < 61; omega) | (show _ < 20; omega)) (P0.1.mo13) ?_
  refine ab_iload_n X 1 d_MO_choice_21 rfl rfl ?_
  refine ab_iald X (f) ⟨rfl, rfl⟩ d_MO_choice_22 (by first | assumption | decide | (show _ < 124; omega) | (show _ < 61; omega) | (show _ < 20; omega)) (rfl) (show f < 72 by omega) (ab_ln_lt _ _) ?_
  refine ab_top ef.2 ?_
  refine ab_aload_n X 0 d_MO_choice_23 rfl rfl ?_
  refine ab_gR X fl_MO_51 d_MO_choice_24 (by first | assumption | decide | (show _ < 124; omega) | (show _ < 61; omega) | (show _ < 20; omega)) (P0.1.mo13) ?_
  refine ab_iload_n X 2 d_MO_choice_27 rfl rfl ?_
  refine ab_iald X (g) ⟨rfl, rfl⟩ d_MO_choice_28 (by first | assumption | decide | (show _ < 124; omega) | (show _ < 61; omega) | (show _ < 20; omega)) (rfl) (show g < 72 by omega) (ab_ln_lt _ _) ?_
  refine ab_top eg.2 ?_
  refine ab_callS (as := [ab_I (nI gf), ab_I (nI gg)]) X (fun h => by cases h) (t_MO_gr u gf gg (by omega) (by omega)) ls_MO_192 d_MO_choice_29 rfl rfl ⟨by first | exact Nat.le_of_ble_eq_true rfl | (simp only [ab_rm]; omega), by first | exact Nat.le_of_ble_eq_true rfl | (simp only [ab_rm]; omega)⟩ ⟨by first | exact Nat.le_of_ble_eq_true rfl | (simp only [ab_rm]; omega), by first | exact Nat.le_of_ble_eq_true rfl | (simp only [ab_rm]; omega)⟩ (Nat.le_of_ble_eq_true rfl) (fun u29 r29 h29 => ?_)
  obtain ⟨e29, rfl⟩ := h29
  subst u29
  refine ab_iadd X d_MO_choice_32 ?_
  refine ab_top (nI_add 1 _) ?_
  refine ab_callV (as := [ab_I _, ab_I _]) X (fun h => by cases h) (x_MO_is u _ _ h) lk_MO_188 d_MO_choice_33 rfl rfl (by first | assumption | decide | (show _ < 124; omega) | (show _ < 61; omega) | (show _ < 20; omega)) ⟨by first | exact Nat.le_of_ble_eq_true rfl | (simp only [ab_rm]; omega), by first | exact Nat.le_of_ble_eq_true rfl | (simp only [ab_rm]; omega)⟩ ⟨by first | exact Nat.le_of_ble_eq_true rfl | (simp only [ab_rm]; omega), by first | exact Nat.le_of_ble_eq_true rfl | (simp only [ab_rm]; omega)⟩ (Nat.le_of_ble_eq_true rfl) (fun u33 r33 h33 => ?_)
  obtain ⟨⟨q33, a33, b33⟩, rfl⟩ := h33
  have P33 := P0.trans q33 (by decide)
  exact ab_retv X hr0 hlk d_MO_choice_36 ⟨⟨P33, a33, b33⟩, rfl⟩
set_option maxRecDepth 100000 in
set_option maxHeartbeats 1000000 in
theorem x_MO_triesOr3 (u : ab_S) (x y : Nat) (Y : Nat → Nat → Nat × Nat × Nat) (R : Nat → List Nat) (h : mR u.2.1) (hx : x < 19) (hy : y < 19) (x3 : m3 Y R u x) (y3 : m3 Y R u y) (bx : bd Y R x) (bY : bd Y R y) : ab_C false l D ca y_MO_triesOr b_MO_triesOr 4 none 2 ab_nQ u [ab_O 17 0, ab_I (nI x), ab_I (nI y), ab_I (nI 3)] (fun u' v => (gP [18, 19] u u' ∧ u'.1 17 0 18 = nI  ((Y x 1).2.1 + (Y y 1).2.1 + 3) ∧ u'.1 17 0 19 = nI (max ((Y x 1).2.2 + (R y).length) ((R x).length + (Y y 1).2.2))) ∧ v = none) := by
  refine ab_C.of (by decide) (Nat.le_of_ble_eq_true rfl) ?_
  intro p e s m args below meth c ad X hZ hr0 hlk
  have P0 : gP [18, 19] u u := gP.rf h
  have bx0 := (bx.1 0 (by decide)).2.2
  have bx1 := (bx.1 1 (by decide)).2.2
  have bx2 := (bx.1 2 (by decide)).2.2
  have bxr := bx.2.1
  have by0 := (bY.1 0 (by decide)).2.2
  have by1 := (bY.1 1 (by decide)).2.2
  have by2 := (bY.1 2 (by decide)).2.2
  have byr := bY.2.1
  refine ab_iload_n X 3 d_MO_triesOr_0 rfl rfl ?_
  refine ab_iconst (v := 3) X d_MO_triesOr_1 (by decide) ?_
  refine ab_icmp_ne X 65 d_MO_triesOr_2 rfl (fun hb => absurd ((by decide)) hb) (fun _ => ?_)
  refine ab_aload_n X 0 d_MO_triesOr_5 rfl rfl ?_
  refine ab_aload_n X 0 d_MO_triesOr_6 rfl rfl ?_
  refine ab_gR X fl_MO_48 d_MO_triesOr_7 (by first | assumption | decide | (show _ < 124; omega) | (show _ < 61; omega) | (show _ < 20; omega)) (P0.1.mo12) ?_
  refine ab_iload_n X 1 d_MO_triesOr_10 rfl rfl ?_
  refine ab_callS (as := [ab_I (nI x)]) X (fun h => by cases h) (t_MO_d u x) ls_MO_195 d_MO_triesOr_11 rfl rfl ⟨by first | exact Nat.le_of_ble_eq_true rfl | (simp only [ab_rm]; omega), by first | exact Nat.le_of_ble_eq_true rfl | (simp only [ab_rm]; omega)⟩ ⟨by first | exact Nat.le_of_ble_eq_true rfl | (simp only [ab_rm]; omega), by first | exact Nat.le_of_ble_eq_true rfl | (simp only [ab_rm]; omega)⟩ (Nat.le_of_ble_eq_true rfl) (fun u11 r11 h11 => ?_)
  obtain ⟨e11, rfl⟩ := h11
  subst u11
  refine ab_iald X (3 * x + 1) ⟨rfl, rfl⟩ d_MO_triesOr_14 (by first | assumption | decide | (show _ < 124; omega) | (show _ < 61; omega) | (show _ < 20; omega)) (rfl) (show 3 * x + 1 < 72 by omega) (ab_ln_lt _ _) ?_
  refine ab_top x3.1.2.1.1 ?_
  refine ab_aload_n X 0 d_MO_triesOr_15 rfl rfl ?_
  refine ab_gR X fl_MO_48 d_MO_triesOr_16 (by first | assumption | decide | (show _ < 124; omega) | (show _ < 61; omega) | (show _ < 20; omega)) (P0.1.mo12) ?_
  refine ab_iload_n X 2 d_MO_triesOr_19 rfl rfl ?_
  refine ab_callS (as := [ab_I (nI y)]) X (fun h => by cases h) (t_MO_d u y) ls_MO_195 d_MO_triesOr_20 rfl rfl ⟨by first | exact Nat.le_of_ble_eq_true rfl | (simp only [ab_rm]; omega), by first | exact Nat.le_of_ble_eq_true rfl | (simp only [ab_rm]; omega)⟩ ⟨by first | exact Nat.le_of_ble_eq_true rfl | (simp only [ab_rm]; omega), by first | exact Nat.le_of_ble_eq_true rfl | (simp only [ab_rm]; omega)⟩ (Nat.le_of_ble_eq_true rfl) (fun u20 r20 h20 => ?_)
  obtain ⟨e20, rfl⟩ := h20
  subst u20
  refine ab_iald X (3 * y + 1) ⟨rfl, rfl⟩ d_MO_triesOr_23 (by first | assumption | decide | (show _ < 124; omega) | (show _ < 61; omega) | (show _ < 20; omega)) (rfl) (show 3 * y + 1 < 72 by omega) (ab_ln_lt _ _) ?_
  refine ab_top y3.1.2.1.1 ?_
  refine ab_iadd X d_MO_triesOr_24 ?_
  refine ab_top (nI_add _ _) ?_
  refine ab_iconst (v := 3) X d_MO_triesOr_25 (by decide) ?_
  refine ab_iadd X d_MO_triesOr_26 ?_
  refine ab_top (nI_add _ 3) ?_
  refine ab_aload_n X 0 d_MO_triesOr_27 rfl rfl ?_
  refine ab_gR X fl_MO_51 d_MO_triesOr_28 (by first | assumption | decide | (show _ < 124; omega) | (show _ < 61; omega) | (show _ < 20; omega)) (P0.1.mo13) ?_
  refine ab_iload_n X 1 d_MO_triesOr_31 rfl rfl ?_
  refine ab_callS (as := [ab_I (nI x)]) X (fun h => by cases h) (t_MO_d u x) ls_MO_195 d_MO_triesOr_32 rfl rfl ⟨by first | exact Nat.le_of_ble_eq_true rfl | (simp only [ab_rm]; omega), by first | exact Nat.le_of_ble_eq_true rfl | (simp only [ab_rm]; omega)⟩ ⟨by first | exact Nat.le_of_ble_eq_true rfl | (simp only [ab_rm]; omega), by first | exact Nat.le_of_ble_eq_true rfl | (simp only [ab_rm]; omega)⟩ (Nat.le_of_ble_eq_true rfl) (fun u32 r32 h32 => ?_)
  obtain ⟨e32, rfl⟩ := h32
  subst u32
  refine ab_iald X (3 * x + 1) ⟨rfl, rfl⟩ d_MO_triesOr_35 (by first | assumption | decide | (show _ < 124; omega) | (show _ < 61; omega) | (show _ < 20; omega)) (rfl) (show 3 * x + 1 < 72 by omega) (ab_ln_lt _ _) ?_
  refine ab_top x3.1.2.1.2 ?_
  refine ab_aload_n X 0 d_MO_triesOr_36 rfl rfl ?_
  refine ab_gR X fl_MO_54 d_MO_triesOr_37 (by first | assumption | decide | (show _ < 124; omega) | (show _ < 61; omega) | (show _ < 20; omega)) (P0.1.mo14) ?_
  refine ab_iload_n X 2 d_MO_triesOr_40 rfl rfl ?_
  refine ab_iald X (y) ⟨rfl, rfl⟩ d_MO_triesOr_41 (by first | assumption | decide | (show _ < 124; omega) | (show _ < 61; omega) | (show _ < 20; omega)) (rfl) (show y < 24 by omega) (ab_ln_lt _ _) ?_
  refine ab_top y3.2 ?_
  refine ab_iadd X d_MO_triesOr_42 ?_
  refine ab_top (nI_add _ _) ?_
  refine ab_aload_n X 0 d_MO_triesOr_43 rfl rfl ?_
  refine ab_gR X fl_MO_54 d_MO_triesOr_44 (by first | assumption | decide | (show _ < 124; omega) | (show _ < 61; omega) | (show _ < 20; omega)) (P0.1.mo14) ?_
  refine ab_iload_n X 1 d_MO_triesOr_47 rfl rfl ?_
  refine ab_iald X (x) ⟨rfl, rfl⟩ d_MO_triesOr_48 (by first | assumption | decide | (show _ < 124; omega) | (show _ < 61; omega) | (show _ < 20; omega)) (rfl) (show x < 24 by omega) (ab_ln_lt _ _) ?_
  refine ab_top x3.2 ?_
  refine ab_aload_n X 0 d_MO_triesOr_49 rfl rfl ?_
  refine ab_gR X fl_MO_51 d_MO_triesOr_50 (by first | assumption | decide | (show _ < 124; omega) | (show _ < 61; omega) | (show _ < 20; omega)) (P0.1.mo13) ?_
  refine ab_iload_n X 2 d_MO_triesOr_53 rfl rfl ?_
  refine ab_callS (as := [ab_I (nI y)]) X (fun h => by cases h) (t_MO_d u y) ls_MO_195 d_MO_triesOr_54 rfl rfl ⟨by first | exact Nat.le_of_ble_eq_true rfl | (simp only [ab_rm]; omega), by first | exact Nat.le_of_ble_eq_true rfl | (simp only [ab_rm]; omega)⟩ ⟨by first | exact Nat.le_of_ble_eq_true rfl | (simp only [ab_rm]; omega), by first | exact Nat.le_of_ble_eq_true rfl | (simp only [ab_rm]; omega)⟩ (Nat.le_of_ble_eq_true rfl) (fun u54 r54 h54 => ?_)
  obtain ⟨e54, rfl⟩ := h54
  subst u54
  refine ab_iald X (3 * y + 1) ⟨rfl, rfl⟩ d_MO_triesOr_57 (by first | assumption | decide | (show _ < 124; omega) | (show _ < 61; omega) | (show _ < 20; omega)) (rfl) (show 3 * y + 1 < 72 by omega) (ab_ln_lt _ _) ?_
  refine ab_top y3.1.2.1.2 ?_
  refine ab_iadd X d_MO_triesOr_58 ?_
  refine ab_top (nI_add _ _) ?_
  refine ab_callS (as := [ab_I (nI ((Y x 1).2.2 + (R y).length)), ab_I (nI ((R x).length + (Y y 1).2.2))]) X (fun h => by cases h) (t_MO_gr u _ _ (by omega) (by omega)) ls_MO_192 d_MO_triesOr_59 rfl rfl ⟨by first | exact Nat.le_of_ble_eq_true rfl | (simp only [ab_rm]; omega), by first | exact Nat.le_of_ble_eq_true rfl | (simp only [ab_rm]; omega)⟩ ⟨by first | exact Nat.le_of_ble_eq_true rfl | (simp only [ab_rm]; omega), by first | exact Nat.le_of_ble_eq_true rfl | (simp only [ab_rm]; omega)⟩ (Nat.le_of_ble_eq_true rfl) (fun u59 r59 h59 => ?_)
  obtain ⟨e59, rfl⟩ := h59
  subst u59
  refine ab_callV (as := [ab_I _, ab_I _]) X (fun h => by cases h) (x_MO_is u _ _ h) lk_MO_188 d_MO_triesOr_62 rfl rfl (by first | assumption | decide | (show _ < 124; omega) | (show _ < 61; omega) | (show _ < 20; omega)) ⟨by first | exact Nat.le_of_ble_eq_true rfl | (simp only [ab_rm]; omega), by first | exact Nat.le_of_ble_eq_true rfl | (simp only [ab_rm]; omega)⟩ ⟨by first | exact Nat.le_of_ble_eq_true rfl | (simp only [ab_rm]; omega), by first | exact Nat.le_of_ble_eq_true rfl | (simp only [ab_rm]; omega)⟩ (Nat.le_of_ble_eq_true rfl) (fun u62 r62 h62 => ?_)
  obtain ⟨⟨q62, a62, c62⟩, rfl⟩ := h62
  have P62 := P0.trans q62 (by decide)
  refine ab_iload_n X 3 d_MO_triesOr_65 rfl rfl ?_
  refine ab_iconst (v := 4) X d_MO_triesOr_66 (by decide) ?_
  refine ab_icmp_ne X 89 d_MO_triesOr_67 rfl (fun _ => ?_) (fun hb => absurd hb ((by decide)))
  refine ab_iload_n X 3 d_MO_triesOr_89 rfl rfl ?_
  refine ab_iconst (v := 5) X d_MO_triesOr_90 (by decide) ?_
  refine ab_icmp_ne X 106 d_MO_triesOr_91 rfl (fun _ => ?_) (fun hb => absurd hb ((by decide)))
  refine ab_iload_n X 3 d_MO_triesOr_106 rfl rfl ?_
  refine ab_bipush (v := 6) X d_MO_triesOr_107 (by decide) ?_
  refine ab_icmp_ne X 124 d_MO_triesOr_109 rfl (fun _ => ?_) (fun hb => absurd hb ((by decide)))
  refine ab_iload_n X 3 d_MO_triesOr_124 rfl rfl ?_
  refine ab_bipush (v := 15) X d_MO_triesOr_125 (by decide) ?_
  refine ab_icmp_ne X 149 d_MO_triesOr_127 rfl (fun _ => ?_) (fun hb => absurd hb ((by decide)))
  refine ab_iload_n X 3 d_MO_triesOr_149 rfl rfl ?_
  refine ab_bipush (v := 16) X d_MO_triesOr_150 (by decide) ?_
  refine ab_icmp_ne X 174 d_MO_triesOr_152 rfl (fun _ => ?_) (fun hb => absurd hb ((by decide)))
  refine ab_iload_n X 3 d_MO_triesOr_174 rfl rfl ?_
  refine ab_bipush (v := 17) X d_MO_triesOr_175 (by decide) ?_
  refine ab_icmp_ne X 192 d_MO_triesOr_177 rfl (fun _ => ?_) (fun hb => absurd hb ((by decide)))
  refine ab_iload_n X 3 d_MO_triesOr_192 rfl rfl ?_
  refine ab_bipush (v := 22) X d_MO_triesOr_193 (by decide) ?_
  refine ab_icmp_ne X 217 d_MO_triesOr_195 rfl (fun _ => ?_) (fun hb => absurd hb ((by decide)))
  refine ab_iload_n X 3 d_MO_triesOr_217 rfl rfl ?_
  refine ab_bipush (v := 23) X d_MO_triesOr_218 (by decide) ?_
  refine ab_icmp_ne X 235 d_MO_triesOr_220 rfl (fun _ => ?_) (fun hb => absurd hb ((by decide)))
  exact ab_retv X hr0 hlk d_MO_triesOr_235 ⟨⟨P62, a62, c62⟩, rfl⟩
set_option maxRecDepth 100000 in
set_option maxHeartbeats 1000000 in
theorem x_MO_triesOr4 (u : ab_S) (x y : Nat) (Y : Nat → Nat → Nat × Nat × Nat) (R : Nat → List Nat) (h : mR u.2.1) (hx : x < 19) (hy : y < 19) (x3 : m3 Y R u x) (y3 : m3 Y R u y) (bx : bd Y R x) (bY : bd Y R y) : ab_C false l D ca y_MO_triesOr b_MO_triesOr 4 none 2 ab_nQ u [ab_O 17 0, ab_I (nI x), ab_I (nI y), ab_I (nI 4)] (fun u' v => (gP [18, 19] u u' ∧ u'.1 17 0 18 = nI  ((Y x 1).2.1 + (Y y 1).2.1 + 3) ∧ u'.1 17 0 19 = nI (max (Y x 1).2.2 ((R x).length + (Y y 1).2.2))) ∧ v = none) := by
  refine ab_C.of (by decide) (Nat.le_of_ble_eq_true rfl) ?_
  intro p e s m args below meth c ad X hZ hr0 hlk
  have P0 : gP [18, 19] u u := gP.rf h
  have bx0 := (bx.1 0 (by decide)).2.2
  have bx1 := (bx.1 1 (by decide)).2.2
  have bx2 := (bx.1 2 (by decide)).2.2
  have bxr := bx.2.1
  have by0 := (bY.1 0 (by decide)).2.2
  have by1 := (bY.1 1 (by decide)).2.2
  have by2 := (bY.1 2 (by decide)).2.2
  have byr := bY.2.1
  refine ab_iload_n X 3 d_MO_triesOr_0 rfl rfl ?_
  refine ab_iconst (v := 3) X d_MO_triesOr_1 (by decide) ?_
  refine ab_icmp_ne X 65 d_MO_triesOr_2 rfl (fun _ => ?_) (fun hb => absurd hb ((by decide)))
  refine ab_iload_n X 3 d_MO_triesOr_65 rfl rfl ?_
  refine ab_iconst (v := 4) X d_MO_triesOr_66 (by decide) ?_
  refine ab_icmp_ne X 89 d_MO_triesOr_67 rfl (fun hb => absurd ((by decide)) hb) (fun _ => ?_)
  refine ab_aload_n X 0 d_MO_triesOr_70 rfl rfl ?_
  refine ab_iload_n X 1 d_MO_triesOr_71 rfl rfl ?_
  refine ab_callS (as := [ab_I (nI x)]) X (fun h => by cases h) (t_MO_d u x) ls_MO_195 d_MO_triesOr_72 rfl rfl ⟨by first | exact Nat.le_of_ble_eq_true rfl | (simp only [ab_rm]; omega), by first | exact Nat.le_of_ble_eq_true rfl | (simp only [ab_rm]; omega)⟩ ⟨by first | exact Nat.le_of_ble_eq_true rfl | (simp only [ab_rm]; omega), by first | exact Nat.le_of_ble_eq_true rfl | (simp only [ab_rm]; omega)⟩ (Nat.le_of_ble_eq_true rfl) (fun u72 r72 h72 => ?_)
  obtain ⟨e72, rfl⟩ := h72
  subst u72
  refine ab_aload_n X 0 d_MO_triesOr_75 rfl rfl ?_
  refine ab_gR X fl_MO_54 d_MO_triesOr_76 (by first | assumption | decide | (show _ < 124; omega) | (show _ < 61; omega) | (show _ < 20; omega)) (P0.1.mo14) ?_
  refine ab_iload_n X 1 d_MO_triesOr_79 rfl rfl ?_
  refine ab_iald X (x) ⟨rfl, rfl⟩ d_MO_triesOr_80 (by first | assumption | decide | (show _ < 124; omega) | (show _ < 61; omega) | (show _ < 20; omega)) (rfl) (show x < 24 by omega) (ab_ln_lt _ _) ?_
  refine ab_top x3.2 ?_
  refine ab_iload_n X 2 d_MO_triesOr_81 rfl rfl ?_
  refine ab_callS (as := [ab_I (nI y)]) X (fun h => by cases h) (t_MO_d u y) ls_MO_195 d_MO_triesOr_82 rfl rfl ⟨by first | exact Nat.le_of_ble_eq_true rfl | (simp only [ab_rm]; omega), by first | exact Nat.le_of_ble_eq_true rfl | (simp only [ab_rm]; omega)⟩ ⟨by first | exact Nat.le_of_ble_eq_true rfl | (simp only [ab_rm]; omega), by first | exact Nat.le_of_ble_eq_true rfl | (simp only [ab_rm]; omega)⟩ (Nat.le_of_ble_eq_true rfl) (fun u82 r82 h82 => ?_)
  obtain ⟨e82, rfl⟩ := h82
  subst u82
  refine ab_iconst (v := 3) X d_MO_triesOr_85 (by decide) ?_
  refine ab_callV (as := [ab_I (nI (3 * x + 1)), ab_I (nI (R x).length), ab_I (nI (3 * y + 1)), ab_I (nI 3)]) X (fun h => by cases h) (x_MO_either u (3 * x + 1) (3 * y + 1) 3 (R x).length _ _ _ _ h (by omega) (by omega) x3.1.2.1 y3.1.2.1 (by omega) (by omega) (by omega)) lk_MO_221 d_MO_triesOr_86 rfl rfl (by first | assumption | decide | (show _ < 124; omega) | (show _ < 61; omega) | (show _ < 20; omega)) ⟨by first | exact Nat.le_of_ble_eq_true rfl | (simp only [ab_rm]; omega), by first | exact Nat.le_of_ble_eq_true rfl | (simp only [ab_rm]; omega)⟩ ⟨by first | exact Nat.le_of_ble_eq_true rfl | (simp only [ab_rm]; omega), by first | exact Nat.le_of_ble_eq_true rfl | (simp only [ab_rm]; omega)⟩ (Nat.le_of_ble_eq_true rfl) (fun u86 r86 h86 => ?_)
  obtain ⟨⟨q86, a86, c86⟩, rfl⟩ := h86
  have P86 := P0.trans q86 (by decide)
  refine ab_iload_n X 3 d_MO_triesOr_89 rfl rfl ?_
  refine ab_iconst (v := 5) X d_MO_triesOr_90 (by decide) ?_
  refine ab_icmp_ne X 106 d_MO_triesOr_91 rfl (fun _ => ?_) (fun hb => absurd hb ((by decide)))
  refine ab_iload_n X 3 d_MO_triesOr_106 rfl rfl ?_
  refine ab_bipush (v := 6) X d_MO_triesOr_107 (by decide) ?_
  refine ab_icmp_ne X 124 d_MO_triesOr_109 rfl (fun _ => ?_) (fun hb => absurd hb ((by decide)))
  refine ab_iload_n X 3 d_MO_triesOr_124 rfl rfl ?_
  refine ab_bipush (v := 15) X d_MO_triesOr_125 (by decide) ?_
  refine ab_icmp_ne X 149 d_MO_triesOr_127 rfl (fun _ => ?_) (fun hb => absurd hb ((by decide)))
  refine ab_iload_n X 3 d_MO_triesOr_149 rfl rfl ?_
  refine ab_bipush (v := 16) X d_MO_triesOr_150 (by decide) ?_
  refine ab_icmp_ne X 174 d_MO_triesOr_152 rfl (fun _ => ?_) (fun hb => absurd hb ((by decide)))
  refine ab_iload_n X 3 d_MO_triesOr_174 rfl rfl ?_
  refine ab_bipush (v := 17) X d_MO_triesOr_175 (by decide) ?_
  refine ab_icmp_ne X 192 d_MO_triesOr_177 rfl (fun _ => ?_) (fun hb => absurd hb ((by decide)))
  refine ab_iload_n X 3 d_MO_triesOr_192 rfl rfl ?_
  refine ab_bipush (v := 22) X d_MO_triesOr_193 (by decide) ?_
  refine ab_icmp_ne X 217 d_MO_triesOr_195 rfl (fun _ => ?_) (fun hb => absurd hb ((by decide)))
  refine ab_iload_n X 3 d_MO_triesOr_217 rfl rfl ?_
  refine ab_bipush (v := 23) X d_MO_triesOr_218 (by decide) ?_
  refine ab_icmp_ne X 235 d_MO_triesOr_220 rfl (fun _ => ?_) (fun hb => absurd hb ((by decide)))
  exact ab_retv X hr0 hlk d_MO_triesOr_235 ⟨⟨P86, a86, c86⟩, rfl⟩
set_option maxRecDepth 100000 in
set_option maxHeartbeats 1000000 in
theorem x_MO_triesOr5 (u : ab_S) (x y : Nat) (Y : Nat → Nat → Nat × Nat × Nat) (R : Nat → List Nat) (h : mR u.2.1) (hx : x < 19) (hy : y < 19) (x3 : m3 Y R u x) (y3 : m3 Y R u y) (bx : bd Y R x) (bY : bd Y R y) : ab_C false l D ca y_MO_triesOr b_MO_triesOr 4 none 2 ab_nQ u [ab_O 17 0, ab_I (nI x), ab_I (nI y), ab_I (nI 5)] (fun u' v => (gP [18, 19] u u' ∧ u'.1 17 0 18 = nI  ((Y x 1).2.1 + (Y y 0).2.1 + 3) ∧ u'.1 17 0 19 = nI (1 + max (Y x 1).2.2 (Y y 0).2.2)) ∧ v = none) := by
  refine ab_C.of (by decide) (Nat.le_of_ble_eq_true rfl) ?_
  intro p e s m args below meth c ad X hZ hr0 hlk
  have P0 : gP [18, 19] u u := gP.rf h
  have bx0 := (bx.1 0 (by decide)).2.2
  have bx1 := (bx.1 1 (by decide)).2.2
  have bx2 := (bx.1 2 (by decide)).2.2
  have bxr := bx.2.1
  have by0 := (bY.1 0 (by decide)).2.2
  have by1 := (bY.1 1 (by decide)).2.2
  have by2 := (bY.1 2 (by decide)).2.2
  have byr := bY.2.1
  refine ab_iload_n X 3 d_MO_triesOr_0 rfl rfl ?_
  refine ab_iconst (v := 3) X d_MO_triesOr_1 (by decide) ?_
  refine ab_icmp_ne X 65 d_MO_triesOr_2 rfl (fun _ => ?_) (fun hb => absurd hb ((by decide)))
  refine ab_iload_n X 3 d_MO_triesOr_65 rfl rfl ?_
  refine ab_iconst (v := 4) X d_MO_triesOr_66 (by decide) ?_
  refine ab_icmp_ne X 89 d_MO_triesOr_67 rfl (fun _ => ?_) (fun hb => absurd hb ((by decide)))
  refine ab_iload_n X 3 d_MO_triesOr_89 rfl rfl ?_
  refine ab_iconst (v := 5) X d_MO_triesOr_90 (by decide) ?_
  refine ab_icmp_ne X 106 d_MO_triesOr_91 rfl (fun hb => absurd ((by decide)) hb) (fun _ => ?_)
  refine ab_aload_n X 0 d_MO_triesOr_94 rfl rfl ?_
  refine ab_iload_n X 1 d_MO_triesOr_95 rfl rfl ?_
  refine ab_callS (as := [ab_I (nI x)]) X (fun h => by cases h) (t_MO_d u x) ls_MO_195 d_MO_triesOr_96 rfl rfl ⟨by first | exact Nat.le_of_ble_eq_true rfl | (simp only [ab_rm]; omega), by first | exact Nat.le_of_ble_eq_true rfl | (simp only [ab_rm]; omega)⟩ ⟨by first | exact Nat.le_of_ble_eq_true rfl | (simp only [ab_rm]; omega), by first | exact Nat.le_of_ble_eq_true rfl | (simp only [ab_rm]; omega)⟩ (Nat.le_of_ble_eq_true rfl) (fun u96 r96 h96 => ?_)
  obtain ⟨e96, rfl⟩ := h96
  subst u96
  refine ab_iload_n X 2 d_MO_triesOr_99 rfl rfl ?_
  refine ab_callS (as := [ab_I (nI y)]) X (fun h => by cases h) (t_MO_b u y) ls_MO_204 d_MO_triesOr_100 rfl rfl ⟨by first | exact Nat.le_of_ble_eq_true rfl | (simp only [ab_rm]; omega), by first | exact Nat.le_of_ble_eq_true rfl | (simp only [ab_rm]; omega)⟩ ⟨by first | exact Nat.le_of_ble_eq_true rfl | (simp only [ab_rm]; omega), by first | exact Nat.le_of_ble_eq_true rfl | (simp only [ab_rm]; omega)⟩ (Nat.le_of_ble_eq_true rfl) (fun u100 r100 h100 => ?_)
  obtain ⟨e100, rfl⟩ := h100
  subst u100
  refine ab_callV (as := [ab_I (nI (3 * x + 1)), ab_I (nI (3 * y))]) X (fun h => by cases h) (x_MO_choice u (3 * x + 1) (3 * y) _ _ _ _ h (by omega) (by omega) x3.1.2.1 y3.1.1 (by omega) (by omega)) lk_MO_225 d_MO_triesOr_103 rfl rfl (by first | assumption | decide | (show _ < 124; omega) | (show _ < 61; omega) | (show _ < 20; omega)) ⟨by first | exact Nat.le_of_ble_eq_true rfl | (simp only [ab_rm]; omega), by first | exact Nat.le_of_ble_eq_true rfl | (simp only [ab_rm]; omega)⟩ ⟨by first | exact Nat.le_of_ble_eq_true rfl | (simp only [ab_rm]; omega), by first | exact Nat.le_of_ble_eq_true rfl | (simp only [ab_rm]; omega)⟩ (Nat.le_of_ble_eq_true rfl) (fun u103 r103 h103 => ?_)
  obtain ⟨⟨q103, a103, c103⟩, rfl⟩ := h103
  have P103 := P0.trans q103 (by decide)
  refine ab_iload_n X 3 d_MO_triesOr_106 rfl rfl ?_
  refine ab_bipush (v := 6) X d_MO_triesOr_107 (by decide) ?_
  refine ab_icmp_ne X 124 d_MO_triesOr_109 rfl (fun _ => ?_) (fun hb => absurd hb ((by decide)))
  refine ab_iload_n X 3 d_MO_triesOr_124 rfl rfl ?_
  refine ab_bipush (v := 15) X d_MO_triesOr_125 (by decide) ?_
  refine ab_icmp_ne X 149 d_MO_triesOr_127 rfl (fun _ => ?_) (fun hb => absurd hb ((by decide)))
  refine ab_iload_n X 3 d_MO_triesOr_149 rfl rfl ?_
  refine ab_bipush (v := 16) X d_MO_triesOr_150 (by decide) ?_
  refine ab_icmp_ne X 174 d_MO_triesOr_152 rfl (fun _ => ?_) (fun hb => absurd hb ((by decide)))
  refine ab_iload_n X 3 d_MO_triesOr_174 rfl rfl ?_
  refine ab_bipush (v := 17) X d_MO_triesOr_175 (by decide) ?_
  refine ab_icmp_ne X 192 d_MO_triesOr_177 rfl (fun _ => ?_) (fun hb => absurd hb ((by decide)))
  refine ab_iload_n X 3 d_MO_triesOr_192 rfl rfl ?_
  refine ab_bipush (v := 22) X d_MO_triesOr_193 (by decide) ?_
  refine ab_icmp_ne X 217 d_MO_triesOr_195 rfl (fun _ => ?_) (fun hb => absurd hb ((by decide)))
  refine ab_iload_n X 3 d_MO_triesOr_217 rfl rfl ?_
  refine ab_bipush (v := 23) X d_MO_triesOr_218 (by decide) ?_
  refine ab_icmp_ne X 235 d_MO_triesOr_220 rfl (fun _ => ?_) (fun hb => absurd hb ((by decide)))
  exact ab_retv X hr0 hlk d_MO_triesOr_235 ⟨⟨P103, a103, c103⟩, rfl⟩
set_option maxRecDepth 100000 in
set_option maxHeartbeats 1000000 in
theorem x_MO_triesOr6 (u : ab_S) (x y : Nat) (Y : Nat → Nat → Nat × Nat × Nat) (R : Nat → List Nat) (h : mR u.2.1) (hx : x < 19) (hy : y < 19) (x3 : m3 Y R u x) (y3 : m3 Y R u y) (bx : bd Y R x) (bY : bd Y R y) : ab_C false l D ca y_MO_triesOr b_MO_triesOr 4 none 2 ab_nQ u [ab_O 17 0, ab_I (nI x), ab_I (nI y), ab_I (nI 6)] (fun u' v => (gP [18, 19] u u' ∧ u'.1 17 0 18 = nI  ((Y x 0).2.1 + (Y y 1).2.1 + 3) ∧ u'.1 17 0 19 = nI (1 + max (Y x 0).2.2 (Y y 1).2.2)) ∧ v = none) := by
  refine ab_C.of (by decide) (Nat.le_of_ble_eq_true rfl) ?_
  intro p e s m args below meth c ad X hZ hr0 hlk
  have P0 : gP [18, 19] u u := gP.rf h
  have bx0 := (bx.1 0 (by decide)).2.2
  have bx1 := (bx.1 1 (by decide)).2.2
  have bx2 := (bx.1 2 (by decide)).2.2
  have bxr := bx.2.1
  have by0 := (bY.1 0 (by decide)).2.2
  have by1 := (bY.1 1 (by decide)).2.2
  have by2 := (bY.1 2 (by decide)).2.2
  have byr := bY.2.1
  refine ab_iload_n X 3 d_MO_triesOr_0 rfl rfl ?_
  refine ab_iconst (v := 3) X d_MO_triesOr_1 (by decide) ?_
  refine ab_icmp_ne X 65 d_MO_triesOr_2 rfl (fun _ => ?_) (fun hb => absurd hb ((by decide)))
  refine ab_iload_n X 3 d_MO_triesOr_65 rfl rfl ?_
  refine ab_iconst (v := 4) X d_MO_triesOr_66 (by decide) ?_
  refine ab_icmp_ne X 89 d_MO_triesOr_67 rfl (fun _ => ?_) (fun hb => absurd hb ((by decide)))
  refine ab_iload_n X 3 d_MO_triesOr_89 rfl rfl ?_
  refine ab_iconst (v := 5) X d_MO_triesOr_90 (by decide) ?_
  refine ab_icmp_ne X 106 d_MO_triesOr_91 rfl (fun _ => ?_) (fun hb => absurd hb ((by decide)))
  refine ab_iload_n X 3 d_MO_triesOr_106 rfl rfl ?_
  refine ab_bipush (v := 6) X d_MO_triesOr_107 (by decide) ?_
  refine ab_icmp_ne X 124 d_MO_triesOr_109 rfl (fun hb => absurd ((by decide)) hb) (fun _ => ?_)
  refine ab_aload_n X 0 d_MO_triesOr_112 rfl rfl ?_
  refine ab_iload_n X 1 d_MO_triesOr_113 rfl rfl ?_
  refine ab_callS (as := [ab_I (nI x)]) X (fun h => by cases h) (t_MO_b u x) ls_MO_204 d_MO_triesOr_114 rfl rfl ⟨by first | exact Nat.le_of_ble_eq_true rfl | (simp only [ab_rm]; omega), by first | exact Nat.le_of_ble_eq_true rfl | (simp only [ab_rm]; omega)⟩ ⟨by first | exact Nat.le_of_ble_eq_true rfl | (simp only [ab_rm]; omega), by first | exact Nat.le_of_ble_eq_true rfl | (simp only [ab_rm]; omega)⟩ (Nat.le_of_ble_eq_true rfl) (fun u114 r114 h114 => ?_)
  obtain ⟨e114, rfl⟩ := h114
  subst u114
  refine ab_iload_n X 2 d_MO_triesOr_117 rfl rfl ?_
  refine ab_callS (as := [ab_I (nI y)]) X (fun h => by cases h) (t_MO_d u y) ls_MO_195 d_MO_triesOr_118 rfl rfl ⟨by first | exact Nat.le_of_ble_eq_true rfl | (simp only [ab_rm]; omega), by first | exact Nat.le_of_ble_eq_true rfl | (simp only [ab_rm]; omega)⟩ ⟨by first | exact Nat.le_of_ble_eq_true rfl | (simp only [ab_rm]; omega), by first | exact Nat.le_of_ble_eq_true rfl | (simp only [ab_rm]; omega)⟩ (Nat.le_of_ble_eq_true rfl) (fun u118 r118 h118 => ?_)
  obtain ⟨e118, rfl⟩ := h118
  subst u118
  refine ab_callV (as := [ab_I (nI (3 * x)), ab_I (nI (3 * y + 1))]) X (fun h => by cases h) (x_MO_choice u (3 * x) (3 * y + 1) _ _ _ _ h (by omega) (by omega) x3.1.1 y3.1.2.1 (by omega) (by omega)) lk_MO_225 d_MO_triesOr_121 rfl rfl (by first | assumption | decide | (show _ < 124; omega) | (show _ < 61; omega) | (show _ < 20; omega)) ⟨by first | exact Nat.le_of_ble_eq_true rfl | (simp only [ab_rm]; omega), by first | exact Nat.le_of_ble_eq_true rfl | (simp only [ab_rm]; omega)⟩ ⟨by first | exact Nat.le_of_ble_eq_true rfl | (simp only [ab_rm]; omega), by first | exact Nat.le_of_ble_eq_true rfl | (simp only [ab_rm]; omega)⟩ (Nat.le_of_ble_eq_true rfl) (fun u121 r121 h121 => ?_)
  obtain ⟨⟨q121, a121, c121⟩, rfl⟩ := h121
  have P121 := P0.trans q121 (by decide)
  refine ab_iload_n X 3 d_MO_triesOr_124 rfl rfl ?_
  refine ab_bipush (v := 15) X d_MO_triesOr_125 (by decide) ?_
  refine ab_icmp_ne X 149 d_MO_triesOr_127 rfl (fun _ => ?_) (fun hb => absurd hb ((by decide)))
  refine ab_iload_n X 3 d_MO_triesOr_149 rfl rfl ?_
  refine ab_bipush (v := 16) X d_MO_triesOr_150 (by decide) ?_
  refine ab_icmp_ne X 174 d_MO_triesOr_152 rfl (fun _ => ?_) (fun hb => absurd hb ((by decide)))
  refine ab_iload_n X 3 d_MO_triesOr_174 rfl rfl ?_
  refine ab_bipush (v := 17) X d_MO_triesOr_175 (by decide) ?_
  refine ab_icmp_ne X 192 d_MO_triesOr_177 rfl (fun _ => ?_) (fun hb => absurd hb ((by decide)))
  refine ab_iload_n X 3 d_MO_triesOr_192 rfl rfl ?_
  refine ab_bipush (v := 22) X d_MO_triesOr_193 (by decide) ?_
  refine ab_icmp_ne X 217 d_MO_triesOr_195 rfl (fun _ => ?_) (fun hb => absurd hb ((by decide)))
  refine ab_iload_n X 3 d_MO_triesOr_217 rfl rfl ?_
  refine ab_bipush (v := 23) X d_MO_triesOr_218 (by decide) ?_
  refine ab_icmp_ne X 235 d_MO_triesOr_220 rfl (fun _ => ?_) (fun hb => absurd hb ((by decide)))
  exact ab_retv X hr0 hlk d_MO_triesOr_235 ⟨⟨P121, a121, c121⟩, rfl⟩
set_option maxRecDepth 100000 in
set_option maxHeartbeats 1000000 in
theorem x_MO_triesOr15 (u : ab_S) (x y : Nat) (Y : Nat → Nat → Nat × Nat × Nat) (R : Nat → List Nat) (h : mR u.2.1) (hx : x < 19) (hy : y < 19) (x3 : m3 Y R u x) (y3 : m3 Y R u y) (bx : bd Y R x) (bY : bd Y R y) : ab_C false l D ca y_MO_triesOr b_MO_triesOr 4 none 2 ab_nQ u [ab_O 17 0, ab_I (nI x), ab_I (nI y), ab_I (nI 15)] (fun u' v => (gP [18, 19] u u' ∧ u'.1 17 0 18 = nI  ((Y x 1).2.1 + (Y y 0).2.1 + 3) ∧ u'.1 17 0 19 = nI (max (Y x 1).2.2 ((R x).length + (Y y 0).2.2))) ∧ v = none) := by
  refine ab_C.of (by decide) (Nat.le_of_ble_eq_true rfl) ?_
  intro p e s m args below meth c ad X hZ hr0 hlk
  have P0 : gP [18, 19] u u := gP.rf h
  have bx0 := (bx.1 0 (by decide)).2.2
  have bx1 := (bx.1 1 (by decide)).2.2
  have bx2 := (bx.1 2 (by decide)).2.2
  have bxr := bx.2.1
  have by0 := (bY.1 0 (by decide)).2.2
  have by1 := (bY.1 1 (by decide)).2.2
  have by2 := (bY.1 2 (by decide)).2.2
  have byr := bY.2.1
  refine ab_iload_n X 3 d_MO_triesOr_0 rfl rfl ?_
  refine ab_iconst (v := 3) X d_MO_triesOr_1 (by decide) ?_
  refine ab_icmp_ne X 65 d_MO_triesOr_2 rfl (fun _ => ?_) (fun hb => absurd hb ((by decide)))
  refine ab_iload_n X 3 d_MO_triesOr_65 rfl rfl ?_
  refine ab_iconst (v := 4) X d_MO_triesOr_66 (by decide) ?_
  refine ab_icmp_ne X 89 d_MO_triesOr_67 rfl (fun _ => ?_) (fun hb => absurd hb ((by decide)))
  refine ab_iload_n X 3 d_MO_triesOr_89 rfl rfl ?_
  refine ab_iconst (v := 5) X d_MO_triesOr_90 (by decide) ?_
  refine ab_icmp_ne X 106 d_MO_triesOr_91 rfl (fun _ => ?_) (fun hb => absurd hb ((by decide)))
  refine ab_iload_n X 3 d_MO_triesOr_106 rfl rfl ?_
  refine ab_bipush (v := 6) X d_MO_triesOr_107 (by decide) ?_
  refine ab_icmp_ne X 124 d_MO_triesOr_109 rfl (fun _ => ?_) (fun hb => absurd hb ((by decide)))
  refine ab_iload_n X 3 d_MO_triesOr_124 rfl rfl ?_
  refine ab_bipush (v := 15) X d_MO_triesOr_125 (by decide) ?_
  refine ab_icmp_ne X 149 d_MO_triesOr_127 rfl (fun hb => absurd ((by decide)) hb) (fun _ => ?_)
  refine ab_aload_n X 0 d_MO_triesOr_130 rfl rfl ?_
  refine ab_iload_n X 1 d_MO_triesOr_131 rfl rfl ?_
  refine ab_callS (as := [ab_I (nI x)]) X (fun h => by cases h) (t_MO_d u x) ls_MO_195 d_MO_triesOr_132 rfl rfl ⟨by first | exact Nat.le_of_ble_eq_true rfl | (simp only [ab_rm]; omega), by first | exact Nat.le_of_ble_eq_true rfl | (simp only [ab_rm]; omega)⟩ ⟨by first | exact Nat.le_of_ble_eq_true rfl | (simp only [ab_rm]; omega), by first | exact Nat.le_of_ble_eq_true rfl | (simp only [ab_rm]; omega)⟩ (Nat.le_of_ble_eq_true rfl) (fun u132 r132 h132 => ?_)
  obtain ⟨e132, rfl⟩ := h132
  subst u132
  refine ab_aload_n X 0 d_MO_triesOr_135 rfl rfl ?_
  refine ab_gR X fl_MO_54 d_MO_triesOr_136 (by first | assumption | decide | (show _ < 124; omega) | (show _ < 61; omega) | (show _ < 20; omega)) (P0.1.mo14) ?_
  refine ab_iload_n X 1 d_MO_triesOr_139 rfl rfl ?_
  refine ab_iald X (x) ⟨rfl, rfl⟩ d_MO_triesOr_140 (by first | assumption | decide | (show _ < 124; omega) | (show _ < 61; omega) | (show _ < 20; omega)) (rfl) (show x < 24 by omega) (ab_ln_lt _ _) ?_
  refine ab_top x3.2 ?_
  refine ab_iload_n X 2 d_MO_triesOr_141 rfl rfl ?_
  refine ab_callS (as := [ab_I (nI y)]) X (fun h => by cases h) (t_MO_b u y) ls_MO_204 d_MO_triesOr_142 rfl rfl ⟨by first | exact Nat.le_of_ble_eq_true rfl | (simp only [ab_rm]; omega), by first | exact Nat.le_of_ble_eq_true rfl | (simp only [ab_rm]; omega)⟩ ⟨by first | exact Nat.le_of_ble_eq_true rfl | (simp only [ab_rm]; omega), by first | exact Nat.le_of_ble_eq_true rfl | (simp only [ab_rm]; omega)⟩ (Nat.le_of_ble_eq_true rfl) (fun u142 r142 h142 => ?_)
  obtain ⟨e142, rfl⟩ := h142
  subst u142
  refine ab_iconst (v := 3) X d_MO_triesOr_145 (by decide) ?_
  refine ab_callV (as := [ab_I (nI (3 * x + 1)), ab_I (nI (R x).length), ab_I (nI (3 * y)), ab_I (nI 3)]) X (fun h => by cases h) (x_MO_either u (3 * x + 1) (3 * y) 3 (R x).length _ _ _ _ h (by omega) (by omega) x3.1.2.1 y3.1.1 (by omega) (by omega) (by omega)) lk_MO_221 d_MO_triesOr_146 rfl rfl (by first | assumption | decide | (show _ < 124; omega) | (show _ < 61; omega) | (show _ < 20; omega)) ⟨by first | exact Nat.le_of_ble_eq_true rfl | (simp only [ab_rm]; omega), by first | exact Nat.le_of_ble_eq_true rfl | (simp only [ab_rm]; omega)⟩ ⟨by first | exact Nat.le_of_ble_eq_true rfl | (simp only [ab_rm]; omega), by first | exact Nat.le_of_ble_eq_true rfl | (simp only [ab_rm]; omega)⟩ (Nat.le_of_ble_eq_true rfl) (fun u146 r146 h146 => ?_)
  obtain ⟨⟨q146, a146, c146⟩, rfl⟩ := h146
  have P146 := P0.trans q146 (by decide)
  refine ab_iload_n X 3 d_MO_triesOr_149 rfl rfl ?_
  refine ab_bipush (v := 16) X d_MO_triesOr_150 (by decide) ?_
  refine ab_icmp_ne X 174 d_MO_triesOr_152 rfl (fun _ => ?_) (fun hb => absurd hb ((by decide)))
  refine ab_iload_n X 3 d_MO_triesOr_174 rfl rfl ?_
  refine ab_bipush (v := 17) X d_MO_triesOr_175 (by decide) ?_
  refine ab_icmp_ne X 192 d_MO_triesOr_177 rfl (fun _ => ?_) (fun hb => absurd hb ((by decide)))
  refine ab_iload_n X 3 d_MO_triesOr_192 rfl rfl ?_
  refine ab_bipush (v := 22) X d_MO_triesOr_193 (by decide) ?_
  refine ab_icmp_ne X 217 d_MO_triesOr_195 rfl (fun _ => ?_) (fun hb => absurd hb ((by decide)))
  refine ab_iload_n X 3 d_MO_triesOr_217 rfl rfl ?_
  refine ab_bipush (v := 23) X d_MO_triesOr_218 (by decide) ?_
  refine ab_icmp_ne X 235 d_MO_triesOr_220 rfl (fun _ => ?_) (fun hb => absurd hb ((by decide)))
  exact ab_retv X hr0 hlk d_MO_triesOr_235 ⟨⟨P146, a146, c146⟩, rfl⟩
set_option maxRecDepth 100000 in
set_option maxHeartbeats 1000000 in
theorem x_MO_triesOr16 (u : ab_S) (x y : Nat) (Y : Nat → Nat → Nat × Nat × Nat) (R : Nat → List Nat) (h : mR u.2.1) (hx : x < 19) (hy : y < 19) (x3 : m3 Y R u x) (y3 : m3 Y R u y) (bx : bd Y R x) (bY : bd Y R y) : ab_C false l D ca y_MO_triesOr b_MO_triesOr 4 none 2 ab_nQ u [ab_O 17 0, ab_I (nI x), ab_I (nI y), ab_I (nI 16)] (fun u' v => (gP [18, 19] u u' ∧ u'.1 17 0 18 = nI  ((Y y 1).2.1 + (Y x 0).2.1 + 3) ∧ u'.1 17 0 19 = nI (max (Y y 1).2.2 ((R y).length + (Y x 0).2.2))) ∧ v = none) := by
  refine ab_C.of (by decide) (Nat.le_of_ble_eq_true rfl) ?_
  intro p e s m args below meth c ad X hZ hr0 hlk
  have P0 : gP [18, 19] u u := gP.rf h
  have bx0 := (bx.1 0 (by decide)).2.2
  have bx1 := (bx.1 1 (by decide)).2.2
  have bx2 := (bx.1 2 (by decide)).2.2
  have bxr := bx.2.1
  have by0 := (bY.1 0 (by decide)).2.2
  have by1 := (bY.1 1 (by decide)).2.2
  have by2 := (bY.1 2 (by decide)).2.2
  have byr := bY.2.1
  refine ab_iload_n X 3 d_MO_triesOr_0 rfl rfl ?_
  refine ab_iconst (v := 3) X d_MO_triesOr_1 (by decide) ?_
  refine ab_icmp_ne X 65 d_MO_triesOr_2 rfl (fun _ => ?_) (fun hb => absurd hb ((by decide)))
  refine ab_iload_n X 3 d_MO_triesOr_65 rfl rfl ?_
  refine ab_iconst (v := 4) X d_MO_triesOr_66 (by decide) ?_
  refine ab_icmp_ne X 89 d_MO_triesOr_67 rfl (fun _ => ?_) (fun hb => absurd hb ((by decide)))
  refine ab_iload_n X 3 d_MO_triesOr_89 rfl rfl ?_
  refine ab_iconst (v := 5) X d_MO_triesOr_90 (by decide) ?_
  refine ab_icmp_ne X 106 d_MO_triesOr_91 rfl (fun _ => ?_) (fun hb => absurd hb ((by decide)))
  refine ab_iload_n X 3 d_MO_triesOr_106 rfl rfl ?_
  refine ab_bipush (v := 6) X d_MO_triesOr_107 (by decide) ?_
  refine ab_icmp_ne X 124 d_MO_triesOr_109 rfl (fun _ => ?_) (fun hb => absurd hb ((by decide)))
  refine ab_iload_n X 3 d_MO_triesOr_124 rfl rfl ?_
  refine ab_bipush (v := 15) X d_MO_triesOr_125 (by decide) ?_
  refine ab_icmp_ne X 149 d_MO_triesOr_127 rfl (fun _ => ?_) (fun hb => absurd hb ((by decide)))
  refine ab_iload_n X 3 d_MO_triesOr_149 rfl rfl ?_
  refine ab_bipush (v := 16) X d_MO_triesOr_150 (by decide) ?_
  refine ab_icmp_ne X 174 d_MO_triesOr_152 rfl (fun hb => absurd ((by decide)) hb) (fun _ => ?_)
  refine ab_aload_n X 0 d_MO_triesOr_155 rfl rfl ?_
  refine ab_iload_n X 2 d_MO_triesOr_156 rfl rfl ?_
  refine ab_callS (as := [ab_I (nI y)]) X (fun h => by cases h) (t_MO_d u y) ls_MO_195 d_MO_triesOr_157 rfl rfl ⟨by first | exact Nat.le_of_ble_eq_true rfl | (simp only [ab_rm]; omega), by first | exact Nat.le_of_ble_eq_true rfl | (simp only [ab_rm]; omega)⟩ ⟨by first | exact Nat.le_of_ble_eq_true rfl | (simp only [ab_rm]; omega), by first | exact Nat.le_of_ble_eq_true rfl | (simp only [ab_rm]; omega)⟩ (Nat.le_of_ble_eq_true rfl) (fun u157 r157 h157 => ?_)
  obtain ⟨e157, rfl⟩ := h157
  subst u157
  refine ab_aload_n X 0 d_MO_triesOr_160 rfl rfl ?_
  refine ab_gR X fl_MO_54 d_MO_triesOr_161 (by first | assumption | decide | (show _ < 124; omega) | (show _ < 61; omega) | (show _ < 20; omega)) (P0.1.mo14) ?_
  refine ab_iload_n X 2 d_MO_triesOr_164 rfl rfl ?_
  refine ab_iald X (y) ⟨rfl, rfl⟩ d_MO_triesOr_165 (by first | assumption | decide | (show _ < 124; omega) | (show _ < 61; omega) | (show _ < 20; omega)) (rfl) (show y < 24 by omega) (ab_ln_lt _ _) ?_
  refine ab_top y3.2 ?_
  refine ab_iload_n X 1 d_MO_triesOr_166 rfl rfl ?_
  refine ab_callS (as := [ab_I (nI x)]) X (fun h => by cases h) (t_MO_b u x) ls_MO_204 d_MO_triesOr_167 rfl rfl ⟨by first | exact Nat.le_of_ble_eq_true rfl | (simp only [ab_rm]; omega), by first | exact Nat.le_of_ble_eq_true rfl | (simp only [ab_rm]; omega)⟩ ⟨by first | exact Nat.le_of_ble_eq_true rfl | (simp only [ab_rm]; omega), by first | exact Nat.le_of_ble_eq_true rfl | (simp only [ab_rm]; omega)⟩ (Nat.le_of_ble_eq_true rfl) (fun u167 r167 h167 => ?_)
  obtain ⟨e167, rfl⟩ := h167
  subst u167
  refine ab_iconst (v := 3) X d_MO_triesOr_170 (by decide) ?_
  refine ab_callV (as := [ab_I (nI (3 * y + 1)), ab_I (nI (R y).length), ab_I (nI (3 * x)), ab_I (nI 3)]) X (fun h => by cases h) (x_MO_either u (3 * y + 1) (3 * x) 3 (R y).length _ _ _ _ h (by omega) (by omega) y3.1.2.1 x3.1.1 (by omega) (by omega) (by omega)) lk_MO_221 d_MO_triesOr_171 rfl rfl (by first | assumption | decide | (show _ < 124; omega) | (show _ < 61; omega) | (show _ < 20; omega)) ⟨by first | exact Nat.le_of_ble_eq_true rfl | (simp only [ab_rm]; omega), by first | exact Nat.le_of_ble_eq_true rfl | (simp only [ab_rm]; omega)⟩ ⟨by first | exact Nat.le_of_ble_eq_true rfl | (simp only [ab_rm]; omega), by first | exact Nat.le_of_ble_eq_true rfl | (simp only [ab_rm]; omega)⟩ (Nat.le_of_ble_eq_true rfl) (fun u171 r171 h171 => ?_)
  obtain ⟨⟨q171, a171, c171⟩, rfl⟩ := h171
  have P171 := P0.trans q171 (by decide)
  refine ab_iload_n X 3 d_MO_triesOr_174 rfl rfl ?_
  refine ab_bipush (v := 17) X d_MO_triesOr_175 (by decide) ?_
  refine ab_icmp_ne X 192 d_MO_triesOr_177 rfl (fun _ => ?_) (fun hb => absurd hb ((by decide)))
  refine ab_iload_n X 3 d_MO_triesOr_192 rfl rfl ?_
  refine ab_bipush (v := 22) X d_MO_triesOr_193 (by decide) ?_
  refine ab_icmp_ne X 217 d_MO_triesOr_195 rfl (fun _ => ?_) (fun hb => absurd hb ((by decide)))
  refine ab_iload_n X 3 d_MO_triesOr_217 rfl rfl ?_
  refine ab_bipush (v := 23) X d_MO_triesOr_218 (by decide) ?_
  refine ab_icmp_ne X 235 d_MO_triesOr_220 rfl (fun _ => ?_) (fun hb => absurd hb ((by decide)))
  exact ab_retv X hr0 hlk d_MO_triesOr_235 ⟨⟨P171, a171, c171⟩, rfl⟩
set_option maxRecDepth 100000 in
set_option maxHeartbeats 1000000 in
theorem x_MO_triesOr17 (u : ab_S) (x y : Nat) (Y : Nat → Nat → Nat × Nat × Nat) (R : Nat → List Nat) (h : mR u.2.1) (hx : x < 19) (hy : y < 19) (x3 : m3 Y R u x) (y3 : m3 Y R u y) (bx : bd Y R x) (bY : bd Y R y) : ab_C false l D ca y_MO_triesOr b_MO_triesOr 4 none 2 ab_nQ u [ab_O 17 0, ab_I (nI x), ab_I (nI y), ab_I (nI 17)] (fun u' v => (gP [18, 19] u u' ∧ u'.1 17 0 18 = nI  ((Y x 0).2.1 + (Y y 0).2.1 + 3) ∧ u'.1 17 0 19 = nI (1 + max (Y x 0).2.2 (Y y 0).2.2)) ∧ v = none) := by
  refine ab_C.of (by decide) (Nat.le_of_ble_eq_true rfl) ?_
  intro p e s m args below meth c ad X hZ hr0 hlk
  have P0 : gP [18, 19] u u := gP.rf h
  have bx0 := (bx.1 0 (by decide)).2.2
  have bx1 := (bx.1 1 (by decide)).2.2
  have bx2 := (bx.1 2 (by decide)).2.2
  have bxr := bx.2.1
  have by0 := (bY.1 0 (by decide)).2.2
  have by1 := (bY.1 1 (by decide)).2.2
  have by2 := (bY.1 2 (by decide)).2.2
  have byr := bY.2.1
  refine ab_iload_n X 3 d_MO_triesOr_0 rfl rfl ?_
  refine ab_iconst (v := 3) X d_MO_triesOr_1 (by decide) ?_
  refine ab_icmp_ne X 65 d_MO_triesOr_2 rfl (fun _ => ?_) (fun hb => absurd hb ((by decide)))
  refine ab_iload_n X 3 d_MO_triesOr_65 rfl rfl ?_
  refine ab_iconst (v := 4) X d_MO_triesOr_66 (by decide) ?_
  refine ab_icmp_ne X 89 d_MO_triesOr_67 rfl (fun _ => ?_) (fun hb => absurd hb ((by decide)))
  refine ab_iload_n X 3 d_MO_triesOr_89 rfl rfl ?_
  refine ab_iconst (v := 5) X d_MO_triesOr_90 (by decide) ?_
  refine ab_icmp_ne X 106 d_MO_triesOr_91 rfl (fun _ => ?_) (fun hb => absurd hb ((by decide)))
  refine ab_iload_n X 3 d_MO_triesOr_106 rfl rfl ?_
  refine ab_bipush (v := 6) X d_MO_triesOr_107 (by decide) ?_
  refine ab_icmp_ne X 124 d_MO_triesOr_109 rfl (fun _ => ?_) (fun hb => absurd hb ((by decide)))
  refine ab_iload_n X 3 d_MO_triesOr_124 rfl rfl ?_
  refine ab_bipush (v := 15) X d_MO_triesOr_125 (by decide) ?_
  refine ab_icmp_ne X 149 d_MO_triesOr_127 rfl (fun _ => ?_) (fun hb => absurd hb ((by decide)))
  refine ab_iload_n X 3 d_MO_triesOr_149 rfl rfl ?_
  refine ab_bipush (v := 16) X d_MO_triesOr_150 (by decide) ?_
  refine ab_icmp_ne X 174 d_MO_triesOr_152 rfl (fun _ => ?_) (fun hb => absurd hb ((by decide)))
  refine ab_iload_n X 3 d_MO_triesOr_174 rfl rfl ?_
  refine ab_bipush (v := 17) X d_MO_triesOr_175 (by decide) ?_
  refine ab_icmp_ne X 192 d_MO_triesOr_177 rfl (fun hb => absurd ((by decide)) hb) (fun _ => ?_)
  refine ab_aload_n X 0 d_MO_triesOr_180 rfl rfl ?_
  refine ab_iload_n X 1 d_MO_triesOr_181 rfl rfl ?_
  refine ab_callS (as := [ab_I (nI x)]) X (fun h => by cases h) (t_MO_b u x) ls_MO_204 d_MO_triesOr_182 rfl rfl ⟨by first | exact Nat.le_of_ble_eq_true rfl | (simp only [ab_rm]; omega), by first | exact Nat.le_of_ble_eq_true rfl | (simp only [ab_rm]; omega)⟩ ⟨by first | exact Nat.le_of_ble_eq_true rfl | (simp only [ab_rm]; omega), by first | exact Nat.le_of_ble_eq_true rfl | (simp only [ab_rm]; omega)⟩ (Nat.le_of_ble_eq_true rfl) (fun u182 r182 h182 => ?_)
  obtain ⟨e182, rfl⟩ := h182
  subst u182
  refine ab_iload_n X 2 d_MO_triesOr_185 rfl rfl ?_
  refine ab_callS (as := [ab_I (nI y)]) X (fun h => by cases h) (t_MO_b u y) ls_MO_204 d_MO_triesOr_186 rfl rfl ⟨by first | exact Nat.le_of_ble_eq_true rfl | (simp only [ab_rm]; omega), by first | exact Nat.le_of_ble_eq_true rfl | (simp only [ab_rm]; omega)⟩ ⟨by first | exact Nat.le_of_ble_eq_true rfl | (simp only [ab_rm]; omega), by first | exact Nat.le_of_ble_eq_true rfl | (simp only [ab_rm]; omega)⟩ (Nat.le_of_ble_eq_true rfl) (fun u186 r186 h186 => ?_)
  obtain ⟨e186, rfl⟩ := h186
  subst u186
  refine ab_callV (as := [ab_I (nI (3 * x)), ab_I (nI (3 * y))]) X (fun h => by cases h) (x_MO_choice u (3 * x) (3 * y) _ _ _ _ h (by omega) (by omega) x3.1.1 y3.1.1 (by omega) (by omega)) lk_MO_225 d_MO_triesOr_189 rfl rfl (by first | assumption | decide | (show _ < 124; omega) | (show _ < 61; omega) | (show _ < 20; omega)) ⟨by first | exact Nat.le_of_ble_eq_true rfl | (simp only [ab_rm]; omega), by first | exact Nat.le_of_ble_eq_true rfl | (simp only [ab_rm]; omega)⟩ ⟨by first | exact Nat.le_of_ble_eq_true rfl | (simp only [ab_rm]; omega), by first | exact Nat.le_of_ble_eq_true rfl | (simp only [ab_rm]; omega)⟩ (Nat.le_of_ble_eq_true rfl) (fun u189 r189 h189 => ?_)
  obtain ⟨⟨q189, a189, c189⟩, rfl⟩ := h189
  have P189 := P0.trans q189 (by decide)
  refine ab_iload_n X 3 d_MO_triesOr_192 rfl rfl ?_
  refine ab_bipush (v := 22) X d_MO_triesOr_193 (by decide) ?_
  refine ab_icmp_ne X 217 d_MO_triesOr_195 rfl (fun _ => ?_) (fun hb => absurd hb ((by decide)))
  refine ab_iload_n X 3 d_MO_triesOr_217 rfl rfl ?_
  refine ab_bipush (v := 23) X d_MO_triesOr_218 (by decide) ?_
  refine ab_icmp_ne X 235 d_MO_triesOr_220 rfl (fun _ => ?_) (fun hb => absurd hb ((by decide)))
  exact ab_retv X hr0 hlk d_MO_triesOr_235 ⟨⟨P189, a189, c189⟩, rfl⟩
set_option maxRecDepth 100000 in
set_option maxHeartbeats 1000000 in
theorem x_MO_triesOr22 (u : ab_S) (x y : Nat) (Y : Nat → Nat → Nat × Nat × Nat) (R : Nat → List Nat) (h : mR u.2.1) (hx : x < 19) (hy : y < 19) (x3 : m3 Y R u x) (y3 : m3 Y R u y) (bx : bd Y R x) (bY : bd Y R y) : ab_C false l D ca y_MO_triesOr b_MO_triesOr 4 none 2 ab_nQ u [ab_O 17 0, ab_I (nI x), ab_I (nI y), ab_I (nI 22)] (fun u' v => (gP [18, 19] u u' ∧ u'.1 17 0 18 = nI  ((Y x 1).2.1 + (Y y 2).2.1 + 2) ∧ u'.1 17 0 19 = nI (max (Y x 1).2.2 ((R x).length + (Y y 2).2.2))) ∧ v = none) := by
  refine ab_C.of (by decide) (Nat.le_of_ble_eq_true rfl) ?_
  intro p e s m args below meth c ad X hZ hr0 hlk
  have P0 : gP [18, 19] u u := gP.rf h
  have bx0 := (bx.1 0 (by decide)).2.2
  have bx1 := (bx.1 1 (by decide)).2.2
  have bx2 := (bx.1 2 (by decide)).2.2
  have bxr := bx.2.1
  have by0 := (bY.1 0 (by decide)).2.2
  have by1 := (bY.1 1 (by decide)).2.2
  have by2 := (bY.1 2 (by decide)).2.2
  have byr := bY.2.1
  refine ab_iload_n X 3 d_MO_triesOr_0 rfl rfl ?_
  refine ab_iconst (v := 3) X d_MO_triesOr_1 (by decide) ?_
  refine ab_icmp_ne X 65 d_MO_triesOr_2 rfl (fun _ => ?_) (fun hb => absurd hb ((by decide)))
  refine ab_iload_n X 3 d_MO_triesOr_65 rfl rfl ?_
  refine ab_iconst (v := 4) X d_MO_triesOr_66 (by decide) ?_
  refine ab_icmp_ne X 89 d_MO_triesOr_67 rfl (fun _ => ?_) (fun hb => absurd hb ((by decide)))
  refine ab_iload_n X 3 d_MO_triesOr_89 rfl rfl ?_
  refine ab_iconst (v := 5) X d_MO_triesOr_90 (by decide) ?_
  refine ab_icmp_ne X 106 d_MO_triesOr_91 rfl (fun _ => ?_) (fun hb => absurd hb ((by decide)))
  refine ab_iload_n X 3 d_MO_triesOr_106 rfl rfl ?_
  refine ab_bipush (v := 6) X d_MO_triesOr_107 (by decide) ?_
  refine ab_icmp_ne X 124 d_MO_triesOr_109 rfl (fun _ => ?_) (fun hb => absurd hb ((by decide)))
  refine ab_iload_n X 3 d_MO_triesOr_124 rfl rfl ?_
  refine ab_bipush (v := 15) X d_MO_triesOr_125 (by decide) ?_
  refine ab_icmp_ne X 149 d_MO_triesOr_127 rfl (fun _ => ?_) (fun hb => absurd hb ((by decide)))
  refine ab_iload_n X 3 d_MO_triesOr_149 rfl rfl ?_
  refine ab_bipush (v := 16) X d_MO_triesOr_150 (by decide) ?_
  refine ab_icmp_ne X 174 d_MO_triesOr_152 rfl (fun _ => ?_) (fun hb => absurd hb ((by decide)))
  refine ab_iload_n X 3 d_MO_triesOr_174 rfl rfl ?_
  refine ab_bipush (v := 17) X d_MO_triesOr_175 (by decide) ?_
  refine ab_icmp_ne X 192 d_MO_triesOr_177 rfl (fun _ => ?_) (fun hb => absurd hb ((by decide)))
  refine ab_iload_n X 3 d_MO_triesOr_192 rfl rfl ?_
  refine ab_bipush (v := 22) X d_MO_triesOr_193 (by decide) ?_
  refine ab_icmp_ne X 217 d_MO_triesOr_195 rfl (fun hb => absurd ((by decide)) hb) (fun _ => ?_)
  refine ab_aload_n X 0 d_MO_triesOr_198 rfl rfl ?_
  refine ab_iload_n X 1 d_MO_triesOr_199 rfl rfl ?_
  refine ab_callS (as := [ab_I (nI x)]) X (fun h => by cases h) (t_MO_d u x) ls_MO_195 d_MO_triesOr_200 rfl rfl ⟨by first | exact Nat.le_of_ble_eq_true rfl | (simp only [ab_rm]; omega), by first | exact Nat.le_of_ble_eq_true rfl | (simp only [ab_rm]; omega)⟩ ⟨by first | exact Nat.le_of_ble_eq_true rfl | (simp only [ab_rm]; omega), by first | exact Nat.le_of_ble_eq_true rfl | (simp only [ab_rm]; omega)⟩ (Nat.le_of_ble_eq_true rfl) (fun u200 r200 h200 => ?_)
  obtain ⟨e200, rfl⟩ := h200
  subst u200
  refine ab_aload_n X 0 d_MO_triesOr_203 rfl rfl ?_
  refine ab_gR X fl_MO_54 d_MO_triesOr_204 (by first | assumption | decide | (show _ < 124; omega) | (show _ < 61; omega) | (show _ < 20; omega)) (P0.1.mo14) ?_
  refine ab_iload_n X 1 d_MO_triesOr_207 rfl rfl ?_
  refine ab_iald X (x) ⟨rfl, rfl⟩ d_MO_triesOr_208 (by first | assumption | decide | (show _ < 124; omega) | (show _ < 61; omega) | (show _ < 20; omega)) (rfl) (show x < 24 by omega) (ab_ln_lt _ _) ?_
  refine ab_top x3.2 ?_
  refine ab_iload_n X 2 d_MO_triesOr_209 rfl rfl ?_
  refine ab_callS (as := [ab_I (nI y)]) X (fun h => by cases h) (t_MO_v u y) ls_MO_201 d_MO_triesOr_210 rfl rfl ⟨by first | exact Nat.le_of_ble_eq_true rfl | (simp only [ab_rm]; omega), by first | exact Nat.le_of_ble_eq_true rfl | (simp only [ab_rm]; omega)⟩ ⟨by first | exact Nat.le_of_ble_eq_true rfl | (simp only [ab_rm]; omega), by first | exact Nat.le_of_ble_eq_true rfl | (simp only [ab_rm]; omega)⟩ (Nat.le_of_ble_eq_true rfl) (fun u210 r210 h210 => ?_)
  obtain ⟨e210, rfl⟩ := h210
  subst u210
  refine ab_iconst (v := 2) X d_MO_triesOr_213 (by decide) ?_
  refine ab_callV (as := [ab_I (nI (3 * x + 1)), ab_I (nI (R x).length), ab_I (nI (3 * y + 2)), ab_I (nI 2)]) X (fun h => by cases h) (x_MO_either u (3 * x + 1) (3 * y + 2) 2 (R x).length _ _ _ _ h (by omega) (by omega) x3.1.2.1 y3.1.2.2 (by omega) (by omega) (by omega)) lk_MO_221 d_MO_triesOr_214 rfl rfl (by first | assumption | decide | (show _ < 124; omega) | (show _ < 61; omega) | (show _ < 20; omega)) ⟨by first | exact Nat.le_of_ble_eq_true rfl | (simp only [ab_rm]; omega), by first | exact Nat.le_of_ble_eq_true rfl | (simp only [ab_rm]; omega)⟩ ⟨by first | exact Nat.le_of_ble_eq_true rfl | (simp only [ab_rm]; omega), by first | exact Nat.le_of_ble_eq_true rfl | (simp only [ab_rm]; omega)⟩ (Nat.le_of_ble_eq_true rfl) (fun u214 r214 h214 => ?_)
  obtain ⟨⟨q214, a214, c214⟩, rfl⟩ := h214
  have P214 := P0.trans q214 (by decide)
  refine ab_iload_n X 3 d_MO_triesOr_217 rfl rfl ?_
  refine ab_bipush (v := 23) X d_MO_triesOr_218 (by decide) ?_
  refine ab_icmp_ne X 235 d_MO_triesOr_220 rfl (fun _ => ?_) (fun hb => absurd hb ((by decide)))
  exact ab_retv X hr0 hlk d_MO_triesOr_235 ⟨⟨P214, a214, c214⟩, rfl⟩
set_option maxRecDepth 100000 in
set_option maxHeartbeats 1000000 in
theorem x_MO_triesOr23 (u : ab_S) (x y : Nat) (Y : Nat → Nat → Nat × Nat × Nat) (R : Nat → List Nat) (h : mR u.2.1) (hx : x < 19) (hy : y < 19) (x3 : m3 Y R u x) (y3 : m3 Y R u y) (bx : bd Y R x) (bY : bd Y R y) : ab_C false l D ca y_MO_triesOr b_MO_triesOr 4 none 2 ab_nQ u [ab_O 17 0, ab_I (nI x), ab_I (nI y), ab_I (nI 23)] (fun u' v => (gP [18, 19] u u' ∧ u'.1 17 0 18 = nI  ((Y x 2).2.1 + (Y y 2).2.1 + 3) ∧ u'.1 17 0 19 = nI (1 + max (Y x 2).2.2 (Y y 2).2.2)) ∧ v = none) := by
  refine ab_C.of (by decide) (Nat.le_of_ble_eq_true rfl) ?_
  intro p e s m args below meth c ad X hZ hr0 hlk
  have P0 : gP [18, 19] u u := gP.rf h
  have bx0 := (bx.1 0 (by decide)).2.2
  have bx1 := (bx.1 1 (by decide)).2.2
  have bx2 := (bx.1 2 (by decide)).2.2
  have bxr := bx.2.1
  have by0 := (bY.1 0 (by decide)).2.2
  have by1 := (bY.1 1 (by decide)).2.2
  have by2 := (bY.1 2 (by decide)).2.2
  have byr := bY.2.1
  refine ab_iload_n X 3 d_MO_triesOr_0 rfl rfl ?_
  refine ab_iconst (v := 3) X d_MO_triesOr_1 (by decide) ?_
  refine ab_icmp_ne X 65 d_MO_triesOr_2 rfl (fun _ => ?_) (fun hb => absurd hb ((by decide)))
  refine ab_iload_n X 3 d_MO_triesOr_65 rfl rfl ?_
  refine ab_iconst (v := 4) X d_MO_triesOr_66 (by decide) ?_
  refine ab_icmp_ne X 89 d_MO_triesOr_67 rfl (fun _ => ?_) (fun hb => absurd hb ((by decide)))
  refine ab_iload_n X 3 d_MO_triesOr_89 rfl rfl ?_
  refine ab_iconst (v := 5) X d_MO_triesOr_90 (by decide) ?_
  refine ab_icmp_ne X 106 d_MO_triesOr_91 rfl (fun _ => ?_) (fun hb => absurd hb ((by decide)))
  refine ab_iload_n X 3 d_MO_triesOr_106 rfl rfl ?_
  refine ab_bipush (v := 6) X d_MO_triesOr_107 (by decide) ?_
  refine ab_icmp_ne X 124 d_MO_triesOr_109 rfl (fun _ => ?_) (fun hb => absurd hb ((by decide)))
  refine ab_iload_n X 3 d_MO_triesOr_124 rfl rfl ?_
  refine ab_bipush (v := 15) X d_MO_triesOr_125 (by decide) ?_
  refine ab_icmp_ne X 149 d_MO_triesOr_127 rfl (fun _ => ?_) (fun hb => absurd hb ((by decide)))
  refine ab_iload_n X 3 d_MO_triesOr_149 rfl rfl ?_
  refine ab_bipush (v := 16) X d_MO_triesOr_150 (by decide) ?_
  refine ab_icmp_ne X 174 d_MO_triesOr_152 rfl (fun _ => ?_) (fun hb => absurd hb ((by decide)))
  refine ab_iload_n X 3 d_MO_triesOr_174 rfl rfl ?_
  refine ab_bipush (v := 17) X d_MO_triesOr_175 (by decide) ?_
  refine ab_icmp_ne X 192 d_MO_triesOr_177 rfl (fun _ => ?_) (fun hb => absurd hb ((by decide)))
  refine ab_iload_n X 3 d_MO_triesOr_192 rfl rfl ?_
  refine ab_bipush (v := 22) X d_MO_triesOr_193 (by decide) ?_
  refine ab_icmp_ne X 217 d_MO_triesOr_195 rfl (fun _ => ?_) (fun hb => absurd hb ((by decide)))
  refine ab_iload_n X 3 d_MO_triesOr_217 rfl rfl ?_
  refine ab_bipush (v := 23) X d_MO_triesOr_218 (by decide) ?_
  refine ab_icmp_ne X 235 d_MO_triesOr_220 rfl (fun hb => absurd ((by decide)) hb) (fun _ => ?_)
  refine ab_aload_n X 0 d_MO_triesOr_223 rfl rfl ?_
  refine ab_iload_n X 1 d_MO_triesOr_224 rfl rfl ?_
  refine ab_callS (as := [ab_I (nI x)]) X (fun h => by cases h) (t_MO_v u x) ls_MO_201 d_MO_triesOr_225 rfl rfl ⟨by first | exact Nat.le_of_ble_eq_true rfl | (simp only [ab_rm]; omega), by first | exact Nat.le_of_ble_eq_true rfl | (simp only [ab_rm]; omega)⟩ ⟨by first | exact Nat.le_of_ble_eq_true rfl | (simp only [ab_rm]; omega), by first | exact Nat.le_of_ble_eq_true rfl | (simp only [ab_rm]; omega)⟩ (Nat.le_of_ble_eq_true rfl) (fun u225 r225 h225 => ?_)
  obtain ⟨e225, rfl⟩ := h225
  subst u225
  refine ab_iload_n X 2 d_MO_triesOr_228 rfl rfl ?_
  refine ab_callS (as := [ab_I (nI y)]) X (fun h => by cases h) (t_MO_v u y) ls_MO_201 d_MO_triesOr_229 rfl rfl ⟨by first | exact Nat.le_of_ble_eq_true rfl | (simp only [ab_rm]; omega), by first | exact Nat.le_of_ble_eq_true rfl | (simp only [ab_rm]; omega)⟩ ⟨by first | exact Nat.le_of_ble_eq_true rfl | (simp only [ab_rm]; omega), by first | exact Nat.le_of_ble_eq_true rfl | (simp only [ab_rm]; omega)⟩ (Nat.le_of_ble_eq_true rfl) (fun u229 r229 h229 => ?_)
  obtain ⟨e229, rfl⟩ := h229
  subst u229
  refine ab_callV (as := [ab_I (nI (3 * x + 2)), ab_I (nI (3 * y + 2))]) X (fun h => by cases h) (x_MO_choice u (3 * x + 2) (3 * y + 2) _ _ _ _ h (by omega) (by omega) x3.1.2.2 y3.1.2.2 (by omega) (by omega)) lk_MO_225 d_MO_triesOr_232 rfl rfl (by first | assumption | decide | (show _ < 124; omega) | (show _ < 61; omega) | (show _ < 20; omega)) ⟨by first | exact Nat.le_of_ble_eq_true rfl | (simp only [ab_rm]; omega), by first | exact Nat.le_of_ble_eq_true rfl | (simp only [ab_rm]; omega)⟩ ⟨by first | exact Nat.le_of_ble_eq_true rfl | (simp only [ab_rm]; omega), by first | exact Nat.le_of_ble_eq_true rfl | (simp only [ab_rm]; omega)⟩ (Nat.le_of_ble_eq_true rfl) (fun u232 r232 h232 => ?_)
  obtain ⟨⟨q232, a232, c232⟩, rfl⟩ := h232
  have P232 := P0.trans q232 (by decide)
  exact ab_retv X hr0 hlk d_MO_triesOr_235 ⟨⟨P232, a232, c232⟩, rfl⟩
set_option maxRecDepth 100000 in
set_option maxHeartbeats 1000000 in
theorem t_MO_gn (u : ab_S) (p1 i c1 : Nat) (Y : Nat → Nat → Nat × Nat × Nat) (R : Nat → List Nat) (h : mR u.2.1) (hp : 4 * p1 + i < 160) (hc : c1 < 19) (ec : u.1 18 4 (4 * p1 + i) = nI c1) (c3 : m3 Y R u c1) (hl : (R c1).length ≤ (Y c1 1).2.2) : ab_C false l D ca y_MO_gain b_MO_gain 4 (some FieldType.int) 1 ab_nQ u [ab_O 17 0, ab_I (nI p1), ab_I (nI i)] (fun u' v => u' = u ∧ v = some (ab_I (nI ((Y c1 1).2.2 - (R c1).length)))) := by
  refine ab_C.of (by decide) (Nat.le_of_ble_eq_true rfl) ?_
  intro p e s m args below meth c ad X hZ hr0 hlk
  have P0 : gP [18, 19] u u := gP.rf h
  refine ab_aload_n X 0 d_MO_gain_0 rfl rfl ?_
  refine ab_gR X fl_MO_42 d_MO_gain_1 (by first | assumption | decide | (show _ < 124; omega) | (show _ < 61; omega) | (show _ < 20; omega)) (P0.1.mo10) ?_
  refine ab_iconst (v := 4) X d_MO_gain_4 (by decide) ?_
  refine ab_iload_n X 1 d_MO_gain_5 rfl rfl ?_
  refine ab_imul X d_MO_gain_6 ?_
  refine ab_iload_n X 2 d_MO_gain_7 rfl rfl ?_
  refine ab_iadd X d_MO_gain_8 ?_
  refine ab_iald X (4 * p1 + i) ⟨rfl, rfl⟩ d_MO_gain_9 (by first | assumption | decide | (show _ < 124; omega) | (show _ < 61; omega) | (show _ < 20; omega)) (nI_4a p1 i) (hp) (ab_ln_lt _ _) ?_
  refine ab_top ec ?_
  refine ab_istore_n3 X 0 1 2 d_MO_gain_10 rfl (by decide) rfl rfl rfl rfl rfl rfl ?_
  refine ab_aload_n X 1 d_MO_gain_11 rfl rfl ?_
  refine ab_gR X fl_MO_51 d_MO_gain_12 (by first | assumption | decide | (show _ < 124; omega) | (show _ < 61; omega) | (show _ < 20; omega)) (P0.1.mo13) ?_
  refine ab_iload_n X 0 d_MO_gain_15 rfl rfl ?_
  refine ab_callS (as := [ab_I (nI c1)]) X (fun h => by cases h) (t_MO_d u c1) ls_MO_195 d_MO_gain_16 rfl rfl ⟨by first | exact Nat.le_of_ble_eq_true rfl | (simp only [ab_rm]; omega), by first | exact Nat.le_of_ble_eq_true rfl | (simp only [ab_rm]; omega)⟩ ⟨by first | exact Nat.le_of_ble_eq_true rfl | (simp only [ab_rm]; omega), by first | exact Nat.le_of_ble_eq_true rfl | (simp only [ab_rm]; omega)⟩ (Nat.le_of_ble_eq_true rfl) (fun u16 r16 h16 => ?_)
  obtain ⟨e16, rfl⟩ := h16
  subst u16
  refine ab_iald X (3 * c1 + 1) ⟨rfl, rfl⟩ d_MO_gain_19 (by first | assumption | decide | (show _ < 124; omega) | (show _ < 61; omega) | (show _ < 20; omega)) (rfl) (show 3 * c1 + 1 < 72 by omega) (ab_ln_lt _ _) ?_
  refine ab_top c3.1.2.1.2 ?_
  refine ab_aload_n X 1 d_MO_gain_20 rfl rfl ?_
  refine ab_gR X fl_MO_54 d_MO_gain_21 (by first | assumption | decide | (show _ < 124; omega) | (show _ < 61; omega) | (show _ < 20; omega)) (P0.1.mo14) ?_
  refine ab_iload_n X 0 d_MO_gain_24 rfl rfl ?_
  refine ab_iald X (c1) ⟨rfl, rfl⟩ d_MO_gain_25 (by first | assumption | decide | (show _ < 124; omega) | (show _ < 61; omega) | (show _ < 20; omega)) (rfl) (show c1 < 24 by omega) (ab_ln_lt _ _) ?_
  refine ab_top c3.2 ?_
  refine ab_isub X d_MO_gain_26 ?_
  refine ab_top (pk_sub hl) ?_
  exact ab_reti X hr0 hlk d_MO_gain_27 ⟨rfl, rfl⟩
set_option maxRecDepth 100000 in
set_option maxHeartbeats 1000000 in
theorem x_MO_allOf (u : ab_S) (P : Nat) (kd ar cn lf : Nat → Nat) (ch : Nat → Nat → Nat) (Y : Nat → Nat → Nat × Nat × Nat) (R : Nat → List Nat) (W : tW P kd ar cn lf ch) (hB : ∀ q, q < P → xB lf Y R q) (T : tR P kd ar cn ch u) (p1 : Nat) (h : mR u.2.1) (hp : p1 < P) (hk : kd p1 = 7) (hl : ∀ c, p1 < c → c < P → m3 Y R u c) : ab_C false l D ca y_MO_allOf b_MO_allOf 6 none 1 ab_nQ u [ab_O 17 0, ab_I (nI p1)] (fun u' v => (gP [18, 19] u u' ∧ u'.1 17 0 18 = nI  (sm (fun i => if i + 1 < cn p1 then (Y (ch p1 i) 2).2.1 else (Y (ch p1 i) 0).2.1) (cn p1)) ∧ u'.1 17 0 19 = nI (sm (fun i => if i + 1 < cn p1 then (Y (ch p1 i) 2).2.2 else (Y (ch p1 i) 0).2.2) (cn p1))) ∧ v = none) := by
  refine ab_C.of (by decide) (Nat.le_of_ble_eq_true rfl) ?_
  intro p e s m args below meth c ad X hZ hr0 hlk
  have P0 : gP [18, 19] u u := gP.rf h
  obtain ⟨w1, w2, w3⟩ := W
  obtain ⟨n2, n4, -, -, b5, b6⟩ := (w3 p1 hp).2.2 (by omega)
  obtain ⟨-, ea, ec, ech⟩ := T.2 p1 hp
  have loop : ∀ (k j : Nat), k + j = cn p1 → ab_J p l e (ab_rm 1 0 0) s m args below meth c (MQ below (ab_Q D ca ad ab_nQ s.heap.size (fun u' v => (gP [18, 19] u u' ∧ u'.1 17 0 18 = nI  (sm (fun i => if i + 1 < cn p1 then (Y (ch p1 i) 2).2.1 else (Y (ch p1 i) 0).2.1) (cn p1)) ∧ u'.1 17 0 19 = nI (sm (fun i => if i + 1 < cn p1 then (Y (ch p1 i) 2).2.2 else (Y (ch p1 i) 0).2.2) (cn p1))) ∧ v = none)) args s 0 0 (ab_A ad ab_nQ s.heap.size)) D ca (ab_A ad ab_nQ s.heap.size) s.heap 6 0 0 ad ab_nQ u 7 [(4, ab_I (nI j)), (3, ab_I (nI (sm (fun i => if i + 1 < cn p1 then (Y (ch p1 i) 2).2.2 else (Y (ch p1 i) 0).2.2) j))), (2, ab_I (nI (sm (fun i => if i + 1 < cn p1 then (Y (ch p1 i) 2).2.1 else (Y (ch p1 i) 0).2.1) j))), (0, ab_O 17 0), (1, ab_I (nI p1))] [] := by
    intro k
    induction k with
    | zero =>
      intro j hj
      obtain rfl : j = cn p1 := by omega
      refine ab_iload X 0 d_MO_allOf_7 rfl ?_
      refine ab_aload_n X 3 d_MO_allOf_9 rfl rfl ?_
      refine ab_gR X fl_MO_39 d_MO_allOf_10 (by first | assumption | decide | (show _ < 124; omega) | (show _ < 61; omega) | (show _ < 20; omega)) (P0.1.mo9) ?_
      refine ab_iload_n X 4 d_MO_allOf_13 rfl rfl ?_
      refine ab_iald X (p1) ⟨rfl, rfl⟩ d_MO_allOf_14 (by first | assumption | decide | (show _ < 124; omega) | (show _ < 61; omega) | (show _ < 20; omega)) (rfl) (show p1 < 40 by omega) (ab_ln_lt _ _) ?_
      refine ab_top ec ?_
      refine ab_icmp_ge X 90 d_MO_allOf_15 rfl (fun _ => ?_) (fun hb => absurd ((nI_le (Nat.le_refl _) (by omega))) hb)
      refine ab_aload_n X 3 d_MO_allOf_90 rfl rfl ?_
      refine ab_iload_n X 2 d_MO_allOf_91 rfl rfl ?_
      refine ab_iload_n X 1 d_MO_allOf_92 rfl rfl ?_
      refine ab_callV (as := [ab_I _, ab_I _]) X (fun h => by cases h) (x_MO_is u _ _ h) lk_MO_188 d_MO_allOf_93 rfl rfl (by first | assumption | decide | (show _ < 124; omega) | (show _ < 61; omega) | (show _ < 20; omega)) ⟨by first | exact Nat.le_of_ble_eq_true rfl | (simp only [ab_rm]; omega), by first | exact Nat.le_of_ble_eq_true rfl | (simp only [ab_rm]; omega)⟩ ⟨by first | exact Nat.le_of_ble_eq_true rfl | (simp only [ab_rm]; omega), by first | exact Nat.le_of_ble_eq_true rfl | (simp only [ab_rm]; omega)⟩ (Nat.le_of_ble_eq_true rfl) (fun u93 r93 h93 => ?_)
      obtain ⟨⟨q93, a93, c93⟩, rfl⟩ := h93
      have P93 := P0.trans q93 (by decide)
      exact ab_retv X hr0 hlk d_MO_allOf_96 ⟨⟨P93, a93, c93⟩, rfl⟩
    | succ k ih =>
      intro j hj
      obtain ⟨c1', c2⟩ := b5 j (by omega)
      obtain ⟨⟨l1, l2, l3⟩, l4⟩ := hl (ch p1 j) c1' c2
      refine ab_iload X 0 d_MO_allOf_7 rfl ?_
      refine ab_aload_n X 3 d_MO_allOf_9 rfl rfl ?_
      refine ab_gR X fl_MO_39 d_MO_allOf_10 (by first | assumption | decide | (show _ < 124; omega) | (show _ < 61; omega) | (show _ < 20; omega)) (P0.1.mo9) ?_
      refine ab_iload_n X 4 d_MO_allOf_13 rfl rfl ?_
      refine ab_iald X (p1) ⟨rfl, rfl⟩ d_MO_allOf_14 (by first | assumption | decide | (show _ < 124; omega) | (show _ < 61; omega) | (show _ < 20; omega)) (rfl) (show p1 < 40 by omega) (ab_ln_lt _ _) ?_
      refine ab_top ec ?_
      refine ab_icmp_ge X 90 d_MO_allOf_15 rfl (fun hb => absurd hb ((nI_ge (by omega) (by omega)))) (fun _ => ?_)
      refine ab_iload X 0 d_MO_allOf_18 rfl ?_
      refine ab_iconst (v := 1) X d_MO_allOf_20 (by decide) ?_
      refine ab_iadd X d_MO_allOf_21 ?_
      refine ab_top (nI_1 _) ?_
      refine ab_aload_n X 3 d_MO_allOf_22 rfl rfl ?_
      refine ab_gR X fl_MO_39 d_MO_allOf_23 (by first | assumption | decide | (show _ < 124; omega) | (show _ < 61; omega) | (show _ < 20; omega)) (P0.1.mo9) ?_
      refine ab_iload_n X 4 d_MO_allOf_26 rfl rfl ?_
      refine ab_iald X (p1) ⟨rfl, rfl⟩ d_MO_allOf_27 (by first | assumption | decide | (show _ < 124; omega) | (show _ < 61; omega) | (show _ < 20; omega)) (rfl) (show p1 < 40 by omega) (ab_ln_lt _ _) ?_
      refine ab_top ec ?_
      refine ab_icmp_ge X 48 d_MO_allOf_28 rfl (fun h28 => ?_) (fun h28 => ?_)
      ·
        have hc := nI_le_of h28 (by omega)
        refine ab_aload_n X 3 d_MO_allOf_48 rfl rfl ?_
        refine ab_gR X fl_MO_42 d_MO_allOf_49 (by first | assumption | decide | (show _ < 124; omega) | (show _ < 61; omega) | (show _ < 20; omega)) (P0.1.mo10) ?_
        refine ab_iconst (v := 4) X d_MO_allOf_52 (by decide) ?_
        refine ab_iload_n X 4 d_MO_allOf_53 rfl rfl ?_
        refine ab_imul X d_MO_allOf_54 ?_
        refine ab_iload X 0 d_MO_allOf_55 rfl ?_
        refine ab_iadd X d_MO_allOf_57 ?_
        refine ab_iald X (4 * p1 + j) ⟨rfl, rfl⟩ d_MO_allOf_58 (by first | assumption | decide | (show _ < 124; omega) | (show _ < 61; omega) | (show _ < 20; omega)) (nI_4a p1 j) (show 4 * p1 + j < 160 by omega) (ab_ln_lt _ _) ?_
        refine ab_top (ech j (by omega)) ?_
        refine ab_callS (as := [ab_I (nI (ch p1 j))]) X (fun h => by cases h) (t_MO_b u (ch p1 j)) ls_MO_204 d_MO_allOf_59 rfl rfl ⟨by first | exact Nat.le_of_ble_eq_true rfl | (simp only [ab_rm]; omega), by first | exact Nat.le_of_ble_eq_true rfl | (simp only [ab_rm]; omega)⟩ ⟨by first | exact Nat.le_of_ble_eq_true rfl | (simp only [ab_rm]; omega), by first | exact Nat.le_of_ble_eq_true rfl | (simp only [ab_rm]; omega)⟩ (Nat.le_of_ble_eq_true rfl) (fun u59 r59 h59 => ?_)
        obtain ⟨e59, rfl⟩ := h59
        subst u59
        refine ab_istore5 X 0 1 2 3 4 d_MO_allOf_62 (by decide) rfl rfl rfl rfl rfl rfl rfl rfl rfl rfl ?_
        refine ab_iload_n X 3 d_MO_allOf_64 rfl rfl ?_
        refine ab_aload_n X 4 d_MO_allOf_65 rfl rfl ?_
        refine ab_gR X fl_MO_48 d_MO_allOf_66 (by first | assumption | decide | (show _ < 124; omega) | (show _ < 61; omega) | (show _ < 20; omega)) (P0.1.mo12) ?_
        refine ab_iload X 0 d_MO_allOf_69 rfl ?_
        refine ab_iald X (_) ⟨rfl, rfl⟩ d_MO_allOf_71 (by first | assumption | decide | (show _ < 124; omega) | (show _ < 61; omega) | (show _ < 20; omega)) (rfl) (by show _ < 72; omega) (ab_ln_lt _ _) ?_
        refine ab_top (show _ = nI ((fun i => if i + 1 < cn p1 then (Y (ch p1 i) 2).2.1 else (Y (ch p1 i) 0).2.1) j) by first | (show _ = nI (if j + 1 < cn p1 then _ else _); rw [if_pos hc]; exact l3.1) | (show _ = nI (if j + 1 < cn p1 then _ else _); rw [if_neg (by omega)]; exact l1.1)) ?_
        refine ab_iadd X d_MO_allOf_72 ?_
        refine ab_top (nI_add _ _) ?_
        refine ab_istore_n5 X 0 1 2 4 5 d_MO_allOf_73 rfl (by decide) rfl rfl rfl rfl rfl rfl rfl rfl rfl rfl ?_
        refine ab_iload_n X 3 d_MO_allOf_74 rfl rfl ?_
        refine ab_aload_n X 4 d_MO_allOf_75 rfl rfl ?_
        refine ab_gR X fl_MO_51 d_MO_allOf_76 (by first | assumption | decide | (show _ < 124; omega) | (show _ < 61; omega) | (show _ < 20; omega)) (P0.1.mo13) ?_
        refine ab_iload X 1 d_MO_allOf_79 rfl ?_
        refine ab_iald X (_) ⟨rfl, rfl⟩ d_MO_allOf_81 (by first | assumption | decide | (show _ < 124; omega) | (show _ < 61; omega) | (show _ < 20; omega)) (rfl) (by show _ < 72; omega) (ab_ln_lt _ _) ?_
        refine ab_top (show _ = nI ((fun i => if i + 1 < cn p1 then (Y (ch p1 i) 2).2.2 else (Y (ch p1 i) 0).2.2) j) by first | (show _ = nI (if j + 1 < cn p1 then _ else _); rw [if_pos hc]; exact l3.2) | (show _ = nI (if j + 1 < cn p1 then _ else _); rw [if_neg (by omega)]; exact l1.2)) ?_
        refine ab_iadd X d_MO_allOf_82 ?_
        refine ab_top (nI_add _ _) ?_
        refine ab_istore_n5 X 0 1 2 4 5 d_MO_allOf_83 rfl (by decide) rfl rfl rfl rfl rfl rfl rfl rfl rfl rfl ?_
        refine ab_iinc5 X 3 0 1 2 4 5 d_MO_allOf_84 rfl (by decide) rfl rfl rfl rfl rfl rfl rfl rfl rfl rfl ?_
        refine ab_goto X 7 d_MO_allOf_87 rfl ?_
        refine ab_lv (List.forall_mem_cons.mpr ⟨List.mem_of_getElem? (i := 0) rfl, List.forall_mem_cons.mpr ⟨List.mem_of_getElem? (i := 1) rfl, List.forall_mem_cons.mpr ⟨List.mem_of_getElem? (i := 2) rfl, List.forall_mem_cons.mpr ⟨List.mem_of_getElem? (i := 4) rfl, List.forall_mem_cons.mpr ⟨List.mem_of_getElem? (i := 5) rfl, fun _ h => absurd h List.not_mem_nil⟩⟩⟩⟩⟩) ?_
        rw [show nI j + Int32.ofInt 1 = nI (j + 1) from nI_1 j]
        exact ih (j + 1) (by omega)
      ·
        have hc := nI_lt_of h28 (by omega)
        refine ab_aload_n X 3 d_MO_allOf_31 rfl rfl ?_
        refine ab_gR X fl_MO_42 d_MO_allOf_32 (by first | assumption | decide | (show _ < 124; omega) | (show _ < 61; omega) | (show _ < 20; omega)) (P0.1.mo10) ?_
        refine ab_iconst (v := 4) X d_MO_allOf_35 (by decide) ?_
        refine ab_iload_n X 4 d_MO_allOf_36 rfl rfl ?_
        refine ab_imul X d_MO_allOf_37 ?_
        refine ab_iload X 0 d_MO_allOf_38 rfl ?_
        refine ab_iadd X d_MO_allOf_40 ?_
        refine ab_iald X (4 * p1 + j) ⟨rfl, rfl⟩ d_MO_allOf_41 (by first | assumption | decide | (show _ < 124; omega) | (show _ < 61; omega) | (show _ < 20; omega)) (nI_4a p1 j) (show 4 * p1 + j < 160 by omega) (ab_ln_lt _ _) ?_
        refine ab_top (ech j (by omega)) ?_
        refine ab_callS (as := [ab_I (nI (ch p1 j))]) X (fun h => by cases h) (t_MO_v u (ch p1 j)) ls_MO_201 d_MO_allOf_42 rfl rfl ⟨by first | exact Nat.le_of_ble_eq_true rfl | (simp only [ab_rm]; omega), by first | exact Nat.le_of_ble_eq_true rfl | (simp only [ab_rm]; omega)⟩ ⟨by first | exact Nat.le_of_ble_eq_true rfl | (simp only [ab_rm]; omega), by first | exact Nat.le_of_ble_eq_true rfl | (simp only [ab_rm]; omega)⟩ (Nat.le_of_ble_eq_true rfl) (fun u42 r42 h42 => ?_)
        obtain ⟨e42, rfl⟩ := h42
        subst u42
        refine ab_goto X 62 d_MO_allOf_45 rfl ?_
        refine ab_istore5 X 0 1 2 3 4 d_MO_allOf_62 (by decide) rfl rfl rfl rfl rfl rfl rfl rfl rfl rfl ?_
        refine ab_iload_n X 3 d_MO_allOf_64 rfl rfl ?_
        refine ab_aload_n X 4 d_MO_allOf_65 rfl rfl ?_
        refine ab_gR X fl_MO_48 d_MO_allOf_66 (by first | assumption | decide | (show _ < 124; omega) | (show _ < 61; omega) | (show _ < 20; omega)) (P0.1.mo12) ?_
        refine ab_iload X 0 d_MO_allOf_69 rfl ?_
        refine ab_iald X (_) ⟨rfl, rfl⟩ d_MO_allOf_71 (by first | assumption | decide | (show _ < 124; omega) | (show _ < 61; omega) | (show _ < 20; omega)) (rfl) (by show _ < 72; omega) (ab_ln_lt _ _) ?_
        refine ab_top (show _ = nI ((fun i => if i + 1 < cn p1 then (Y (ch p1 i) 2).2.1 else (Y (ch p1 i) 0).2.1) j) by first | (show _ = nI (if j + 1 < cn p1 then _ else _); rw [if_pos hc]; exact l3.1) | (show _ = nI (if j + 1 < cn p1 then _ else _); rw [if_neg (by omega)]; exact l1.1)) ?_
        refine ab_iadd X d_MO_allOf_72 ?_
        refine ab_top (nI_add _ _) ?_
        refine ab_istore_n5 X 0 1 2 4 5 d_MO_allOf_73 rfl (by decide) rfl rfl rfl rfl rfl rfl rfl rfl rfl rfl ?_
        refine ab_iload_n X 3 d_MO_allOf_74 rfl rfl ?_
        refine ab_aload_n X 4 d_MO_allOf_75 rfl rfl ?_
        refine ab_gR X fl_MO_51 d_MO_allOf_76 (by first | assumption | decide | (show _ < 124; omega) | (show _ < 61; omega) | (show _ < 20; omega)) (P0.1.mo13) ?_
        refine ab_iload X 1 d_MO_allOf_79 rfl ?_
        refine ab_iald X (_) ⟨rfl, rfl⟩ d_MO_allOf_81 (by first | assumption | decide | (show _ < 124; omega) | (show _ < 61; omega) | (show _ < 20; omega)) (rfl) (by show _ < 72; omega) (ab_ln_lt _ _) ?_
        refine ab_top (show _ = nI ((fun i => if i + 1 < cn p1 then (Y (ch p1 i) 2).2.2 else (Y (ch p1 i) 0).2.2) j) by first | (show _ = nI (if j + 1 < cn p1 then _ else _); rw [if_pos hc]; exact l3.2) | (show _ = nI (if j + 1 < cn p1 then _ else _); rw [if_neg (by omega)]; exact l1.2)) ?_
        refine ab_iadd X d_MO_allOf_82 ?_
        refine ab_top (nI_add _ _) ?_
        refine ab_istore_n5 X 0 1 2 4 5 d_MO_allOf_83 rfl (by decide) rfl rfl rfl rfl rfl rfl rfl rfl rfl rfl ?_
        refine ab_iinc5 X 3 0 1 2 4 5 d_MO_allOf_84 rfl (by decide) rfl rfl rfl rfl rfl rfl rfl rfl rfl rfl ?_
        refine ab_goto X 7 d_MO_allOf_87 rfl ?_
        refine ab_lv (List.forall_mem_cons.mpr ⟨List.mem_of_getElem? (i := 0) rfl, List.forall_mem_cons.mpr ⟨List.mem_of_getElem? (i := 1) rfl, List.forall_mem_cons.mpr ⟨List.mem_of_getElem? (i := 2) rfl, List.forall_mem_cons.mpr ⟨List.mem_of_getElem? (i := 4) rfl, List.forall_mem_cons.mpr ⟨List.mem_of_getElem? (i := 5) rfl, fun _ h => absurd h List.not_mem_nil⟩⟩⟩⟩⟩) ?_
        rw [show nI j + Int32.ofInt 1 = nI (j + 1) from nI_1 j]
        exact ih (j + 1) (by omega)
  refine ab_iconst (v := 0) X d_MO_allOf_0 (by decide) ?_
  refine ab_istore_n2 X 0 1 d_MO_allOf_1 rfl (by decide) rfl rfl rfl rfl ?_
  refine ab_iconst (v := 0) X d_MO_allOf_2 (by decide) ?_
  refine ab_istore_n3 X 0 1 2 d_MO_allOf_3 rfl (by decide) rfl rfl rfl rfl rfl rfl ?_
  refine ab_iconst (v := 0) X d_MO_allOf_4 (by decide) ?_
  refine ab_istore4 X 0 1 2 3 d_MO_allOf_5 (by decide) rfl rfl rfl rfl rfl rfl rfl rfl ?_
  exact loop (cn p1) 0 (by omega)
end SaXMForm
/-! The greedy choice is the best one. -/
theorem sel_0 (a b : Nat → Nat) : ∀ n, sel a b n 0 = sm b n := by
  intro n
  refine sm_congr _ (fun i _ => ?_)
  show (if 0 / 2 ^ i % 2 = 1 then a i else b i) = b i
  rw [if_neg (by rw [Nat.zero_div]; decide)]
theorem th_flip : ∀ g, g < 16 → ∀ q, q < 4 → g / 2 ^ q % 2 = 0 → ∀ i, i < 4 → (g + 2 ^ q) / 2 ^ i % 2 = if i = q then 1 else g / 2 ^ i % 2 := by decide +kernel
theorem sel_add {a b : Nat → Nat} {g q : Nat} (hg : g < 16) (hq : q < 4) (h0 : g / 2 ^ q % 2 = 0) (hab : b q ≤ a q) : ∀ n, n ≤ 4 → sel a b n (g + 2 ^ q) = sel a b n g + (if q < n then a q - b q else 0) := by
  intro n
  induction n with
  | zero => intro _; rfl
  | succ n ih =>
    intro hn
    have e := th_flip g hg q hq h0 n (by omega)
    show sel a b n (g + 2 ^ q) + (if (g + 2 ^ q) / 2 ^ n % 2 = 1 then a n else b n) = sel a b n g + (if g / 2 ^ n % 2 = 1 then a n else b n) + (if q < n + 1 then a q - b q else 0)
    rw [ih (by omega), e]
    by_cases z : n = q
    · subst z
      rw [if_pos rfl, if_pos rfl, if_neg (by omega), if_neg (by omega), if_pos (by omega)]
      omega
    · rw [if_neg z]
      by_cases y : q < n
      · rw [if_pos y, if_pos (show q < n + 1 by omega)]; omega
      · rw [if_neg y, if_neg (show ¬ q < n + 1 by omega)]; omega
theorem th_pcn : ∀ n, n < 5 → ∀ c, c < 16 → c < 2 ^ n → sm (fun i => c / 2 ^ i % 2) n = pcn c := by decide +kernel
theorem sm_mul (t : Nat) (f : Nat → Nat) : ∀ n, sm (fun i => t * f i) n = t * sm f n := by
  intro n
  induction n with
  | zero => rfl
  | succ n ih => show sm (fun i => t * f i) n + t * f n = t * (sm f n + f n); rw [ih, Nat.mul_add]
theorem sm_plus (f g : Nat → Nat) : ∀ n, sm (fun i => f i + g i) n = sm f n + sm g n := by
  intro n
  induction n with
  | zero => rfl
  | succ n ih => show sm (fun i => f i + g i) n + (f n + g n) = sm f n + f n + (sm g n + g n); rw [ih]; omega
theorem gr_max {a b : Nat → Nat} {n g c t : Nat} (hn : n < 5) (hab : ∀ i, i < n → b i ≤ a i) (hg : g < 2 ^ n) (hc : c < 2 ^ n) (he : pcn c = pcn g) (h1 : ∀ i, i < n → g / 2 ^ i % 2 = 1 → t ≤ a i - b i) (h2 : ∀ i, i < n → g / 2 ^ i % 2 = 0 → a i - b i ≤ t) : sel a b n c ≤ sel a b n g := by
  have k : sm (fun i => (if c / 2 ^ i % 2 = 1 then a i else b i) + t * (g / 2 ^ i % 2)) n ≤ sm (fun i => (if g / 2 ^ i % 2 = 1 then a i else b i) + t * (c / 2 ^ i % 2)) n := by
    refine sm_le _ (fun i hi => ?_)
    have x0 := hab i hi
    have x1 := h1 i hi
    have x2 := h2 i hi
    have cg : g / 2 ^ i % 2 = 0 ∨ g / 2 ^ i % 2 = 1 := by omega
    have cc : c / 2 ^ i % 2 = 0 ∨ c / 2 ^ i % 2 = 1 := by omega
    show (if c / 2 ^ i % 2 = 1 then a i else b i) + t * (g / 2 ^ i % 2) ≤ (if g / 2 ^ i % 2 = 1 then a i else b i) + t * (c / 2 ^ i % 2)
    rcases cg with e | e <;> rcases cc with d | d <;> rw [e, d]
    · rw [if_neg (by decide)]; exact Nat.le_refl _
    · have := x2 e
      rw [if_pos rfl, if_neg (by decide), Nat.mul_zero, Nat.mul_one]
      omega
    · have := x1 e
      rw [if_pos rfl, if_neg (by decide), Nat.mul_zero, Nat.mul_one]
      omega
    · rw [if_pos rfl]; exact Nat.le_refl _
  rw [sm_plus, sm_plus, sm_mul, sm_mul, th_pcn n hn g (th_lt n hn g hg) hg, th_pcn n hn c (th_lt n hn c hc) hc, he] at k
  show sm (fun i => if c / 2 ^ i % 2 = 1 then a i else b i) n ≤ sm (fun i => if g / 2 ^ i % 2 = 1 then a i else b i) n
  omega
section SaXMThr
variable {l : Launch} {D : va_G} {ca : Nat → ClassId}
set_option maxRecDepth 100000 in
set_option maxHeartbeats 1000000 in
theorem x_MO_threshold (u : ab_S) (P : Nat) (kd ar cn lf : Nat → Nat) (ch : Nat → Nat → Nat) (Y : Nat → Nat → Nat × Nat × Nat) (R : Nat → List Nat) (W : tW P kd ar cn lf ch) (hB : ∀ q, q < P → xB lf Y R q) (T : tR P kd ar cn ch u) (p1 : Nat) (h : mR u.2.1) (hp : p1 < P) (hk : kd p1 = 7) (hl : ∀ c, p1 < c → c < P → m3 Y R u c) : ab_C false l D ca y_MO_threshold b_MO_threshold 8 none 2 ab_nQ u [ab_O 17 0, ab_I (nI p1)] (fun u' v => (gP [18, 19] u u' ∧ u'.1 17 0 18 = nI  (1 + sm (fun i => (Y (ch p1 i) 1).2.1 + (if 0 < i then 3 else 0)) (cn p1)) ∧ u'.1 17 0 19 = nI (gm (ar p1) (sel (fun i => (Y (ch p1 i) 1).2.2) (fun i => (R (ch p1 i)).length) (cn p1)) (2 ^ cn p1))) ∧ v = none) := by
  refine ab_C.of (by decide) (Nat.le_of_ble_eq_true rfl) ?_
  intro p e s m args below meth c ad X hZ hr0 hlk
  have P0 : gP [18, 19] u u := gP.rf h
  obtain ⟨w1, w2, w3⟩ := W
  obtain ⟨n2, n4, -, hka, b5, b6⟩ := (w3 p1 hp).2.2 (by omega)
  obtain ⟨a1, a2⟩ := hka hk
  obtain ⟨-, ea, ec, ech⟩ := T.2 p1 hp
  have hbd : ∀ i, i < cn p1 → bd Y R (ch p1 i) := fun i hi => (hB _ (b5 i hi).2).bd ⟨(w3 _ (b5 i hi).2).1.1, (w3 _ (b5 i hi).2).1.2.1⟩
  have hab : ∀ i, i < cn p1 → (fun i => (R (ch p1 i)).length) i ≤ (fun i => (Y (ch p1 i) 1).2.2) i := fun i hi => (hbd i hi).2.2
  have hg2 : ∀ i, i < cn p1 → (fun i => (Y (ch p1 i) 1).2.2) i - (fun i => (R (ch p1 i)).length) i ≤ 200 := fun i hi => by have := ((hbd i hi).1 1 (by decide)).2.2; show (Y (ch p1 i) 1).2.2 - _ ≤ 200; omega
  have out2 : ∀ (k t g z : Nat), k + t = ar p1 → g < 2 ^ cn p1 → pcn g = t → (∀ i, i < cn p1 → g / 2 ^ i % 2 = 1 → z ≤ (fun i => (Y (ch p1 i) 1).2.2) i - (fun i => (R (ch p1 i)).length) i) → (∀ i, i < cn p1 → g / 2 ^ i % 2 = 0 → (fun i => (Y (ch p1 i) 1).2.2) i - (fun i => (R (ch p1 i)).length) i ≤ z) → ab_J p l e (ab_rm 2 0 0) s m args below meth c (MQ below (ab_Q D ca ad ab_nQ s.heap.size (fun u' v => (gP [18, 19] u u' ∧ u'.1 17 0 18 = nI  (1 + sm (fun i => (Y (ch p1 i) 1).2.1 + (if 0 < i then 3 else 0)) (cn p1)) ∧ u'.1 17 0 19 = nI (gm (ar p1) (sel (fun i => (Y (ch p1 i) 1).2.2) (fun i => (R (ch p1 i)).length) (cn p1)) (2 ^ cn p1))) ∧ v = none)) args s 0 0 (ab_A ad ab_nQ s.heap.size)) D ca (ab_A ad ab_nQ s.heap.size) s.heap 8 0 0 ad ab_nQ u 82 [(5, ab_I (nI t)), (4, ab_I (nI g)), (3, ab_I (nI (sel (fun i => (Y (ch p1 i) 1).2.2) (fun i => (R (ch p1 i)).length) (cn p1) g))), (2, ab_I (nI (1 + sm (fun i => (Y (ch p1 i) 1).2.1 + (if 0 < i then 3 else 0)) (cn p1)))), (0, ab_O 17 0), (1, ab_I (nI p1))] [] := by
    intro k
    induction k with
    | zero =>
      intro t g z ht hg hc z1 z2
      obtain rfl : t = ar p1 := by omega
      have eg : gm (ar p1) (sel (fun i => (Y (ch p1 i) 1).2.2) (fun i => (R (ch p1 i)).length) (cn p1)) (2 ^ cn p1) = sel (fun i => (Y (ch p1 i) 1).2.2) (fun i => (R (ch p1 i)).length) (cn p1) g := gm_eq (fun c hc' hp' => gr_max (by omega) hab hg hc' (by omega) z1 z2) ⟨g, hg, hc, rfl⟩
      refine ab_iload X 0 d_MO_threshold_82 rfl ?_
      refine ab_aload_n X 4 d_MO_threshold_84 rfl rfl ?_
      refine ab_gR X fl_MO_36 d_MO_threshold_85 (by first | assumption | decide | (show _ < 124; omega) | (show _ < 61; omega) | (show _ < 20; omega)) (P0.1.mo8) ?_
      refine ab_iload_n X 5 d_MO_threshold_88 rfl rfl ?_
      refine ab_iald X (p1) ⟨rfl, rfl⟩ d_MO_threshold_89 (by first | assumption | decide | (show _ < 124; omega) | (show _ < 61; omega) | (show _ < 20; omega)) (rfl) (show p1 < 40 by omega) (ab_ln_lt _ _) ?_
      refine ab_top ea ?_
      refine ab_icmp_ge X 177 d_MO_threshold_90 rfl (fun _ => ?_) (fun hb => absurd ((nI_le (by omega) (by omega))) hb)
      refine ab_aload_n X 4 d_MO_threshold_177 rfl rfl ?_
      refine ab_iload_n X 3 d_MO_threshold_178 rfl rfl ?_
      refine ab_iload_n X 2 d_MO_threshold_179 rfl rfl ?_
      refine ab_callV (as := [ab_I _, ab_I _]) X (fun h => by cases h) (x_MO_is u _ _ h) lk_MO_188 d_MO_threshold_180 rfl rfl (by first | assumption | decide | (show _ < 124; omega) | (show _ < 61; omega) | (show _ < 20; omega)) ⟨by first | exact Nat.le_of_ble_eq_true rfl | (simp only [ab_rm]; omega), by first | exact Nat.le_of_ble_eq_true rfl | (simp only [ab_rm]; omega)⟩ ⟨by first | exact Nat.le_of_ble_eq_true rfl | (simp only [ab_rm]; omega), by first | exact Nat.le_of_ble_eq_true rfl | (simp only [ab_rm]; omega)⟩ (Nat.le_of_ble_eq_true rfl) (fun u180 r180 h180 => ?_)
      obtain ⟨⟨q180, a180, c180⟩, rfl⟩ := h180
      have P180 := P0.trans q180 (by decide)
      exact ab_retv X hr0 hlk d_MO_threshold_183 ⟨⟨P180, a180, by rw [eg]; exact c180⟩, rfl⟩
    | succ k ih =>
      intro t g z ht hg hc z1 z2
      have g16 := th_lt (cn p1) (by omega) g hg
      have inn : ∀ (k i : Nat) (mo : Int32), k + i = cn p1 → ((mo = -1 ∧ ∀ q, q < i → g / 2 ^ q % 2 = 1) ∨ ∃ q, q < i ∧ mo = nI q ∧ g / 2 ^ q % 2 = 0 ∧ ∀ q', q' < i → g / 2 ^ q' % 2 = 0 → (fun i => (Y (ch p1 i) 1).2.2) q' - (fun i => (R (ch p1 i)).length) q' ≤ (fun i => (Y (ch p1 i) 1).2.2) q - (fun i => (R (ch p1 i)).length) q) → ab_J p l e (ab_rm 2 0 0) s m args below meth c (MQ below (ab_Q D ca ad ab_nQ s.heap.size (fun u' v => (gP [18, 19] u u' ∧ u'.1 17 0 18 = nI  (1 + sm (fun i => (Y (ch p1 i) 1).2.1 + (if 0 < i then 3 else 0)) (cn p1)) ∧ u'.1 17 0 19 = nI (gm (ar p1) (sel (fun i => (Y (ch p1 i) 1).2.2) (fun i => (R (ch p1 i)).length) (cn p1)) (2 ^ cn p1))) ∧ v = none)) args s 0 0 (ab_A ad ab_nQ s.heap.size)) D ca (ab_A ad ab_nQ s.heap.size) s.heap 8 0 0 ad ab_nQ u 99 [(7, ab_I (nI i)), (6, ab_I mo), (5, ab_I (nI t)), (4, ab_I (nI g)), (3, ab_I (nI (sel (fun i => (Y (ch p1 i) 1).2.2) (fun i => (R (ch p1 i)).length) (cn p1) g))), (2, ab_I (nI (1 + sm (fun i => (Y (ch p1 i) 1).2.1 + (if 0 < i then 3 else 0)) (cn p1)))), (0, ab_O 17 0), (1, ab_I (nI p1))] [] := by
        intro k
        induction k with
        | zero =>
          intro i mo hi hm
          obtain rfl : i = cn p1 := by omega
          obtain ⟨q, hq, rfl, hb, hmx⟩ : ∃ q, q < cn p1 ∧ mo = nI q ∧ g / 2 ^ q % 2 = 0 ∧ ∀ q', q' < cn p1 → g / 2 ^ q' % 2 = 0 → (fun i => (Y (ch p1 i) 1).2.2) q' - (fun i => (R (ch p1 i)).length) q' ≤ (fun i => (Y (ch p1 i) 1).2.2) q - (fun i => (R (ch p1 i)).length) q := by
            rcases hm with ⟨-, hm⟩ | hm
            · have := th_full (cn p1) (by omega) g g16 hm hg
              omega
            · exact hm
          have y1 := th_add1 (cn p1) (by omega) g g16 q (by omega) ⟨hq, hg, hb⟩
          have y2 := th_add2 g g16 q (by omega) hb
          have fl := th_flip g g16 q (by omega) hb
          have es := sel_add (a := (fun i => (Y (ch p1 i) 1).2.2)) (b := (fun i => (R (ch p1 i)).length)) g16 (show q < 4 by omega) hb (hab q hq) (cn p1) n4
          rw [if_pos hq] at es
          obtain ⟨c1, c2⟩ := b5 q hq
          refine ab_iload X 0 d_MO_threshold_99 rfl ?_
          refine ab_aload_n X 6 d_MO_threshold_101 rfl rfl ?_
          refine ab_gR X fl_MO_39 d_MO_threshold_102 (by first | assumption | decide | (show _ < 124; omega) | (show _ < 61; omega) | (show _ < 20; omega)) (P0.1.mo9) ?_
          refine ab_iload_n X 7 d_MO_threshold_105 rfl rfl ?_
          refine ab_iald X (p1) ⟨rfl, rfl⟩ d_MO_threshold_106 (by first | assumption | decide | (show _ < 124; omega) | (show _ < 61; omega) | (show _ < 20; omega)) (rfl) (show p1 < 40 by omega) (ab_ln_lt _ _) ?_
          refine ab_top ec ?_
          refine ab_icmp_ge X 152 d_MO_threshold_107 rfl (fun _ => ?_) (fun hb => absurd ((nI_le (Nat.le_refl _) (by omega))) hb)
          refine ab_iload X 3 d_MO_threshold_152 rfl ?_
          refine ab_iconst (v := 1) X d_MO_threshold_154 (by decide) ?_
          refine ab_iload X 1 d_MO_threshold_155 rfl ?_
          refine ab_ishl X d_MO_threshold_157 ?_
          refine ab_ior X d_MO_threshold_158 ?_
          refine ab_top (th_or g g16 q (by omega) hb) ?_
          refine ab_istore7 X 0 1 2 4 5 6 7 d_MO_threshold_159 (by decide) rfl rfl rfl rfl rfl rfl rfl rfl rfl rfl rfl rfl rfl rfl ?_
          refine ab_iload_n X 4 d_MO_threshold_161 rfl rfl ?_
          refine ab_aload_n X 6 d_MO_threshold_162 rfl rfl ?_
          refine ab_iload_n X 7 d_MO_threshold_163 rfl rfl ?_
          refine ab_iload X 2 d_MO_threshold_164 rfl ?_
          refine ab_callV (as := [ab_I (nI p1), ab_I (nI q)]) X (fun h => by cases h) (t_MO_gn u p1 q (ch p1 q) Y R h (by omega) (by omega) (ech q hq) (hl _ c1 c2) (hab q hq)) lk_MO_198 d_MO_threshold_166 rfl rfl (by first | assumption | decide | (show _ < 124; omega) | (show _ < 61; omega) | (show _ < 20; omega)) ⟨by first | exact Nat.le_of_ble_eq_true rfl | (simp only [ab_rm]; omega), by first | exact Nat.le_of_ble_eq_true rfl | (simp only [ab_rm]; omega)⟩ ⟨by first | exact Nat.le_of_ble_eq_true rfl | (simp only [ab_rm]; omega), by first | exact Nat.le_of_ble_eq_true rfl | (simp only [ab_rm]; omega)⟩ (Nat.le_of_ble_eq_true rfl) (fun u166 r166 h166 => ?_)
          obtain ⟨e166, rfl⟩ := h166
          subst u166
          refine ab_iadd X d_MO_threshold_169 ?_
          refine ab_top ((nI_add _ _).trans (show nI (sel (fun i => (Y (ch p1 i) 1).2.2) (fun i => (R (ch p1 i)).length) (cn p1) g + ((fun i => (Y (ch p1 i) 1).2.2) q - (fun i => (R (ch p1 i)).length) q)) = nI (sel (fun i => (Y (ch p1 i) 1).2.2) (fun i => (R (ch p1 i)).length) (cn p1) (g + 2 ^ q)) by rw [es])) ?_
          refine ab_istore_n7 X 0 1 2 3 5 6 7 d_MO_threshold_170 rfl (by decide) rfl rfl rfl rfl rfl rfl rfl rfl rfl rfl rfl rfl rfl rfl ?_
          refine ab_iinc7 X 4 0 1 2 3 5 6 7 d_MO_threshold_171 rfl (by decide) rfl rfl rfl rfl rfl rfl rfl rfl rfl rfl rfl rfl rfl rfl ?_
          refine ab_goto X 82 d_MO_threshold_174 rfl ?_
          refine ab_lv (List.forall_mem_cons.mpr ⟨List.mem_of_getElem? (i := 0) rfl, List.forall_mem_cons.mpr ⟨List.mem_of_getElem? (i := 2) rfl, List.forall_mem_cons.mpr ⟨List.mem_of_getElem? (i := 1) rfl, List.forall_mem_cons.mpr ⟨List.mem_of_getElem? (i := 5) rfl, List.forall_mem_cons.mpr ⟨List.mem_of_getElem? (i := 6) rfl, List.forall_mem_cons.mpr ⟨List.mem_of_getElem? (i := 7) rfl, fun _ h => absurd h List.not_mem_nil⟩⟩⟩⟩⟩⟩) ?_
          rw [show nI t + Int32.ofInt 1 = nI (t + 1) from nI_1 t]
          refine ih (t + 1) _ ((fun i => (Y (ch p1 i) 1).2.2) q - (fun i => (R (ch p1 i)).length) q) (by omega) y1 (by omega) (fun i hi hbi => ?_) (fun i hi hbi => ?_)
          · by_cases x : i = q
            · rw [x]; exact Nat.le_refl _
            · rw [fl i (by omega), if_neg x] at hbi
              exact Nat.le_trans (z2 q hq hb) (z1 i hi hbi)
          · by_cases x : i = q
            · rw [x]; exact Nat.le_refl _
            · rw [fl i (by omega), if_neg x] at hbi
              exact hmx i hi hbi
        | succ k ih2 =>
          intro i mo hi hm
          have hbit := th_bit g g16 i (by omega)
          obtain ⟨c1, c2⟩ := b5 i (by omega)
          have gi := hg2 i (by omega)
          have hb2 : g / 2 ^ i % 2 = 0 ∨ g / 2 ^ i % 2 = 1 := by omega
          rcases hm with ⟨rfl, hm⟩ | ⟨q, hq, rfl, hb, hmx⟩
          · rcases hb2 with hbi | hbi
            ·
              refine ab_iload X 0 d_MO_threshold_99 rfl ?_
              refine ab_aload_n X 6 d_MO_threshold_101 rfl rfl ?_
              refine ab_gR X fl_MO_39 d_MO_threshold_102 (by first | assumption | decide | (show _ < 124; omega) | (show _ < 61; omega) | (show _ < 20; omega)) (P0.1.mo9) ?_
              refine ab_iload_n X 7 d_MO_threshold_105 rfl rfl ?_
              refine ab_iald X (p1) ⟨rfl, rfl⟩ d_MO_threshold_106 (by first | assumption | decide | (show _ < 124; omega) | (show _ < 61; omega) | (show _ < 20; omega)) (rfl) (show p1 < 40 by omega) (ab_ln_lt _ _) ?_
              refine ab_top ec ?_
              refine ab_icmp_ge X 152 d_MO_threshold_107 rfl (fun hb => absurd hb ((nI_ge (by omega) (by omega)))) (fun _ => ?_)
              refine ab_iload X 3 d_MO_threshold_110 rfl ?_
              refine ab_iload X 0 d_MO_threshold_112 rfl ?_
              refine ab_ishr X d_MO_threshold_114 ?_
              refine ab_iconst (v := 1) X d_MO_threshold_115 (by decide) ?_
              refine ab_iand X d_MO_threshold_116 ?_
              refine ab_top hbit ?_
              refine ab_if_ne X 146 d_MO_threshold_117 rfl (fun hb => absurd ((by rw [hbi]; rfl)) hb) (fun _ => ?_)
              refine ab_iload X 1 d_MO_threshold_120 rfl ?_
              refine ab_if_lt X 142 d_MO_threshold_122 rfl (fun _ => ?_) (fun hb => absurd ((by decide)) hb)
              refine ab_iload X 0 d_MO_threshold_142 rfl ?_
              refine ab_istore7 X 0 2 3 4 5 6 7 d_MO_threshold_144 (by decide) rfl rfl rfl rfl rfl rfl rfl rfl rfl rfl rfl rfl rfl rfl ?_
              refine ab_iinc7 X 1 0 2 3 4 5 6 7 d_MO_threshold_146 rfl (by decide) rfl rfl rfl rfl rfl rfl rfl rfl rfl rfl rfl rfl rfl rfl ?_
              refine ab_goto X 99 d_MO_threshold_149 rfl ?_
              rw [show nI i + Int32.ofInt 1 = nI (i + 1) from nI_1 i]
              exact ih2 (i + 1) _ (by omega) (Or.inr ⟨i, by omega, rfl, hbi, fun q' hq' hb' => by by_cases z : q' = i; (rw [z]; exact Nat.le_refl _); (have := hm q' (by omega); omega)⟩)
            ·
              refine ab_iload X 0 d_MO_threshold_99 rfl ?_
              refine ab_aload_n X 6 d_MO_threshold_101 rfl rfl ?_
              refine ab_gR X fl_MO_39 d_MO_threshold_102 (by first | assumption | decide | (show _ < 124; omega) | (show _ < 61; omega) | (show _ < 20; omega)) (P0.1.mo9) ?_
              refine ab_iload_n X 7 d_MO_threshold_105 rfl rfl ?_
              refine ab_iald X (p1) ⟨rfl, rfl⟩ d_MO_threshold_106 (by first | assumption | decide | (show _ < 124; omega) | (show _ < 61; omega) | (show _ < 20; omega)) (rfl) (show p1 < 40 by omega) (ab_ln_lt _ _) ?_
              refine ab_top ec ?_
              refine ab_icmp_ge X 152 d_MO_threshold_107 rfl (fun hb => absurd hb ((nI_ge (by omega) (by omega)))) (fun _ => ?_)
              refine ab_iload X 3 d_MO_threshold_110 rfl ?_
              refine ab_iload X 0 d_MO_threshold_112 rfl ?_
              refine ab_ishr X d_MO_threshold_114 ?_
              refine ab_iconst (v := 1) X d_MO_threshold_115 (by decide) ?_
              refine ab_iand X d_MO_threshold_116 ?_
              refine ab_top hbit ?_
              refine ab_if_ne X 146 d_MO_threshold_117 rfl (fun _ => ?_) (fun hb => absurd hb ((by rw [hbi]; decide)))
              refine ab_iinc7 X 0 1 2 3 4 5 6 7 d_MO_threshold_146 rfl (by decide) rfl rfl rfl rfl rfl rfl rfl rfl rfl rfl rfl rfl rfl rfl ?_
              refine ab_goto X 99 d_MO_threshold_149 rfl ?_
              rw [show nI i + Int32.ofInt 1 = nI (i + 1) from nI_1 i]
              exact ih2 (i + 1) _ (by omega) (Or.inl ⟨rfl, fun q' hq' => by by_cases z : q' = i; (rw [z]; exact hbi); exact hm q' (by omega)⟩)
          · obtain ⟨d1, d2⟩ := b5 q (by omega)
            have gq := hg2 q (by omega)
            rcases hb2 with hbi | hbi
            ·
              refine ab_iload X 0 d_MO_threshold_99 rfl ?_
              refine ab_aload_n X 6 d_MO_threshold_101 rfl rfl ?_
              refine ab_gR X fl_MO_39 d_MO_threshold_102 (by first | assumption | decide | (show _ < 124; omega) | (show _ < 61; omega) | (show _ < 20; omega)) (P0.1.mo9) ?_
              refine ab_iload_n X 7 d_MO_threshold_105 rfl rfl ?_
              refine ab_iald X (p1) ⟨rfl, rfl⟩ d_MO_threshold_106 (by first | assumption | decide | (show _ < 124; omega) | (show _ < 61; omega) | (show _ < 20; omega)) (rfl) (show p1 < 40 by omega) (ab_ln_lt _ _) ?_
              refine ab_top ec ?_
              refine ab_icmp_ge X 152 d_MO_threshold_107 rfl (fun hb => absurd hb ((nI_ge (by omega) (by omega)))) (fun _ => ?_)
              refine ab_iload X 3 d_MO_threshold_110 rfl ?_
              refine ab_iload X 0 d_MO_threshold_112 rfl ?_
              refine ab_ishr X d_MO_threshold_114 ?_
              refine ab_iconst (v := 1) X d_MO_threshold_115 (by decide) ?_
              refine ab_iand X d_MO_threshold_116 ?_
              refine ab_top hbit ?_
              refine ab_if_ne X 146 d_MO_threshold_117 rfl (fun hb => absurd ((by rw [hbi]; rfl)) hb) (fun _ => ?_)
              refine ab_iload X 1 d_MO_threshold_120 rfl ?_
              refine ab_if_lt X 142 d_MO_threshold_122 rfl (fun hb => absurd hb ((nI_pos (by omega)))) (fun _ => ?_)
              refine ab_aload_n X 6 d_MO_threshold_125 rfl rfl ?_
              refine ab_iload_n X 7 d_MO_threshold_126 rfl rfl ?_
              refine ab_iload X 0 d_MO_threshold_127 rfl ?_
              refine ab_callV (as := [ab_I (nI p1), ab_I (nI i)]) X (fun h => by cases h) (t_MO_gn u p1 i (ch p1 i) Y R h (by omega) (by omega) (ech i (by omega)) (hl _ c1 c2) (hab i (by omega))) lk_MO_198 d_MO_threshold_129 rfl rfl (by first | assumption | decide | (show _ < 124; omega) | (show _ < 61; omega) | (show _ < 20; omega)) ⟨by first | exact Nat.le_of_ble_eq_true rfl | (simp only [ab_rm]; omega), by first | exact Nat.le_of_ble_eq_true rfl | (simp only [ab_rm]; omega)⟩ ⟨by first | exact Nat.le_of_ble_eq_true rfl | (simp only [ab_rm]; omega), by first | exact Nat.le_of_ble_eq_true rfl | (simp only [ab_rm]; omega)⟩ (Nat.le_of_ble_eq_true rfl) (fun u129 r129 h129 => ?_)
              obtain ⟨e129, rfl⟩ := h129
              subst u129
              refine ab_aload_n X 6 d_MO_threshold_132 rfl rfl ?_
              refine ab_iload_n X 7 d_MO_threshold_133 rfl rfl ?_
              refine ab_iload X 1 d_MO_threshold_134 rfl ?_
              refine ab_callV (as := [ab_I (nI p1), ab_I (nI q)]) X (fun h => by cases h) (t_MO_gn u p1 q (ch p1 q) Y R h (by omega) (by omega) (ech q (by omega)) (hl _ d1 d2) (hab q (by omega))) lk_MO_198 d_MO_threshold_136 rfl rfl (by first | assumption | decide | (show _ < 124; omega) | (show _ < 61; omega) | (show _ < 20; omega)) ⟨by first | exact Nat.le_of_ble_eq_true rfl | (simp only [ab_rm]; omega), by first | exact Nat.le_of_ble_eq_true rfl | (simp only [ab_rm]; omega)⟩ ⟨by first | exact Nat.le_of_ble_eq_true rfl | (simp only [ab_rm]; omega), by first | exact Nat.le_of_ble_eq_true rfl | (simp only [ab_rm]; omega)⟩ (Nat.le_of_ble_eq_true rfl) (fun u136 r136 h136 => ?_)
              obtain ⟨e136, rfl⟩ := h136
              subst u136
              refine ab_icmp_le X 146 d_MO_threshold_139 rfl (fun h139 => ?_) (fun h139 => ?_)
              ·
                have cm : (fun i => (Y (ch p1 i) 1).2.2) i - (fun i => (R (ch p1 i)).length) i ≤ (fun i => (Y (ch p1 i) 1).2.2) q - (fun i => (R (ch p1 i)).length) q := nI_le_of h139 (Nat.lt_of_le_of_lt gi (by decide))
                refine ab_iinc7 X 0 1 2 3 4 5 6 7 d_MO_threshold_146 rfl (by decide) rfl rfl rfl rfl rfl rfl rfl rfl rfl rfl rfl rfl rfl rfl ?_
                refine ab_goto X 99 d_MO_threshold_149 rfl ?_
                rw [show nI i + Int32.ofInt 1 = nI (i + 1) from nI_1 i]
                first | exact ih2 (i + 1) (nI q) (by omega) (Or.inr ⟨q, by omega, rfl, hb, fun q' hq' hb' => by by_cases z : q' = i; (rw [z]; exact cm); exact hmx q' (by omega) hb'⟩) | exact ih2 (i + 1) (nI i) (by omega) (Or.inr ⟨i, by omega, rfl, hbi, fun q' hq' hb' => by by_cases z : q' = i; (rw [z]; exact Nat.le_refl _); exact Nat.le_trans (hmx q' (by omega) hb') (Nat.le_of_lt cm)⟩)
              ·
                have cm : (fun i => (Y (ch p1 i) 1).2.2) q - (fun i => (R (ch p1 i)).length) q < (fun i => (Y (ch p1 i) 1).2.2) i - (fun i => (R (ch p1 i)).length) i := nI_lt_of h139 (Nat.lt_of_le_of_lt gq (by decide))
                refine ab_iload X 0 d_MO_threshold_142 rfl ?_
                refine ab_istore7 X 0 2 3 4 5 6 7 d_MO_threshold_144 (by decide) rfl rfl rfl rfl rfl rfl rfl rfl rfl rfl rfl rfl rfl rfl ?_
                refine ab_iinc7 X 1 0 2 3 4 5 6 7 d_MO_threshold_146 rfl (by decide) rfl rfl rfl rfl rfl rfl rfl rfl rfl rfl rfl rfl rfl rfl ?_
                refine ab_goto X 99 d_MO_threshold_149 rfl ?_
                rw [show nI i + Int32.ofInt 1 = nI (i + 1) from nI_1 i]
                first | exact ih2 (i + 1) (nI q) (by omega) (Or.inr ⟨q, by omega, rfl, hb, fun q' hq' hb' => by by_cases z : q' = i; (rw [z]; exact cm); exact hmx q' (by omega) hb'⟩) | exact ih2 (i + 1) (nI i) (by omega) (Or.inr ⟨i, by omega, rfl, hbi, fun q' hq' hb' => by by_cases z : q' = i; (rw [z]; exact Nat.le_refl _); exact Nat.le_trans (hmx q' (by omega) hb') (Nat.le_of_lt cm)⟩)
            ·
              refine ab_iload X 0 d_MO_threshold_99 rfl ?_
              refine ab_aload_n X 6 d_MO_threshold_101 rfl rfl ?_
              refine ab_gR X fl_MO_39 d_MO_threshold_102 (by first | assumption | decide | (show _ < 124; omega) | (show _ < 61; omega) | (show _ < 20; omega)) (P0.1.mo9) ?_
              refine ab_iload_n X 7 d_MO_threshold_105 rfl rfl ?_
              refine ab_iald X (p1) ⟨rfl, rfl⟩ d_MO_threshold_106 (by first | assumption | decide | (show _ < 124; omega) | (show _ < 61; omega) | (show _ < 20; omega)) (rfl) (show p1 < 40 by omega) (ab_ln_lt _ _) ?_
              refine ab_top ec ?_
              refine ab_icmp_ge X 152 d_MO_threshold_107 rfl (fun hb => absurd hb ((nI_ge (by omega) (by omega)))) (fun _ => ?_)
              refine ab_iload X 3 d_MO_threshold_110 rfl ?_
              refine ab_iload X 0 d_MO_threshold_112 rfl ?_
              refine ab_ishr X d_MO_threshold_114 ?_
              refine ab_iconst (v := 1) X d_MO_threshold_115 (by decide) ?_
              refine ab_iand X d_MO_threshold_116 ?_
              refine ab_top hbit ?_
              refine ab_if_ne X 146 d_MO_threshold_117 rfl (fun _ => ?_) (fun hb => absurd hb ((by rw [hbi]; decide)))
              refine ab_iinc7 X 0 1 2 3 4 5 6 7 d_MO_threshold_146 rfl (by decide) rfl rfl rfl rfl rfl rfl rfl rfl rfl rfl rfl rfl rfl rfl ?_
              refine ab_goto X 99 d_MO_threshold_149 rfl ?_
              rw [show nI i + Int32.ofInt 1 = nI (i + 1) from nI_1 i]
              exact ih2 (i + 1) _ (by omega) (Or.inr ⟨q, by omega, rfl, hb, fun q' hq' hb' => by by_cases z : q' = i; (rw [z] at hb'; omega); exact hmx q' (by omega) hb'⟩)
      refine ab_iload X 0 d_MO_threshold_82 rfl ?_
      refine ab_aload_n X 4 d_MO_threshold_84 rfl rfl ?_
      refine ab_gR X fl_MO_36 d_MO_threshold_85 (by first | assumption | decide | (show _ < 124; omega) | (show _ < 61; omega) | (show _ < 20; omega)) (P0.1.mo8) ?_
      refine ab_iload_n X 5 d_MO_threshold_88 rfl rfl ?_
      refine ab_iald X (p1) ⟨rfl, rfl⟩ d_MO_threshold_89 (by first | assumption | decide | (show _ < 124; omega) | (show _ < 61; omega) | (show _ < 20; omega)) (rfl) (show p1 < 40 by omega) (ab_ln_lt _ _) ?_
      refine ab_top ea ?_
      refine ab_icmp_ge X 177 d_MO_threshold_90 rfl (fun hb => absurd hb ((nI_ge (by omega) (by omega)))) (fun _ => ?_)
      refine ab_iconst (v := (-1)) X d_MO_threshold_93 (by decide) ?_
      refine ab_istore6 X 0 1 2 3 4 5 d_MO_threshold_94 (by decide) rfl rfl rfl rfl rfl rfl rfl rfl rfl rfl rfl rfl ?_
      refine ab_iconst (v := 0) X d_MO_threshold_96 (by decide) ?_
      refine ab_istore7 X 0 1 2 3 4 5 6 d_MO_threshold_97 (by decide) rfl rfl rfl rfl rfl rfl rfl rfl rfl rfl rfl rfl rfl rfl ?_
      exact inn (cn p1) 0 _ (by omega) (Or.inl ⟨rfl, fun q hq => absurd hq (by omega)⟩)
  have out1 : ∀ (k j : Nat), k + j = cn p1 → ab_J p l e (ab_rm 2 0 0) s m args below meth c (MQ below (ab_Q D ca ad ab_nQ s.heap.size (fun u' v => (gP [18, 19] u u' ∧ u'.1 17 0 18 = nI  (1 + sm (fun i => (Y (ch p1 i) 1).2.1 + (if 0 < i then 3 else 0)) (cn p1)) ∧ u'.1 17 0 19 = nI (gm (ar p1) (sel (fun i => (Y (ch p1 i) 1).2.2) (fun i => (R (ch p1 i)).length) (cn p1)) (2 ^ cn p1))) ∧ v = none)) args s 0 0 (ab_A ad ab_nQ s.heap.size)) D ca (ab_A ad ab_nQ s.heap.size) s.heap 8 0 0 ad ab_nQ u 10 [(5, ab_I (nI j)), (4, ab_I (nI 0)), (3, ab_I (nI (sm (fun i => (R (ch p1 i)).length) j))), (2, ab_I (nI (1 + sm (fun i => (Y (ch p1 i) 1).2.1 + (if 0 < i then 3 else 0)) j))), (0, ab_O 17 0), (1, ab_I (nI p1))] [] := by
    intro k
    induction k with
    | zero =>
      intro j hj
      obtain rfl : j = cn p1 := by omega
      have s0 : sm (fun i => (R (ch p1 i)).length) (cn p1) = sel (fun i => (Y (ch p1 i) 1).2.2) (fun i => (R (ch p1 i)).length) (cn p1) 0 := (sel_0 _ _ _).symm
      refine ab_iload X 0 d_MO_threshold_10 rfl ?_
      refine ab_aload_n X 4 d_MO_threshold_12 rfl rfl ?_
      refine ab_gR X fl_MO_39 d_MO_threshold_13 (by first | assumption | decide | (show _ < 124; omega) | (show _ < 61; omega) | (show _ < 20; omega)) (P0.1.mo9) ?_
      refine ab_iload_n X 5 d_MO_threshold_16 rfl rfl ?_
      refine ab_iald X (p1) ⟨rfl, rfl⟩ d_MO_threshold_17 (by first | assumption | decide | (show _ < 124; omega) | (show _ < 61; omega) | (show _ < 20; omega)) (rfl) (show p1 < 40 by omega) (ab_ln_lt _ _) ?_
      refine ab_top ec ?_
      refine ab_icmp_ge X 79 d_MO_threshold_18 rfl (fun _ => ?_) (fun hb => absurd ((nI_le (Nat.le_refl _) (by omega))) hb)
      refine ab_iconst (v := 0) X d_MO_threshold_79 (by decide) ?_
      refine ab_istore5 X 1 2 3 4 5 d_MO_threshold_80 (by decide) rfl rfl rfl rfl rfl rfl rfl rfl rfl rfl ?_
      rw [s0]
      exact out2 (ar p1) 0 0 200 (by omega) (Nat.pow_pos (by decide)) rfl (fun i hi hb => absurd hb (by rw [Nat.zero_div]; decide)) (fun i hi _ => hg2 i hi)
    | succ k ih =>
      intro j hj
      obtain ⟨c1', c2⟩ := b5 j (by omega)
      obtain ⟨⟨l1, l2, l3⟩, l4⟩ := hl (ch p1 j) c1' c2
      refine ab_iload X 0 d_MO_threshold_10 rfl ?_
      refine ab_aload_n X 4 d_MO_threshold_12 rfl rfl ?_
      refine ab_gR X fl_MO_39 d_MO_threshold_13 (by first | assumption | decide | (show _ < 124; omega) | (show _ < 61; omega) | (show _ < 20; omega)) (P0.1.mo9) ?_
      refine ab_iload_n X 5 d_MO_threshold_16 rfl rfl ?_
      refine ab_iald X (p1) ⟨rfl, rfl⟩ d_MO_threshold_17 (by first | assumption | decide | (show _ < 124; omega) | (show _ < 61; omega) | (show _ < 20; omega)) (rfl) (show p1 < 40 by omega) (ab_ln_lt _ _) ?_
      refine ab_top ec ?_
      refine ab_icmp_ge X 79 d_MO_threshold_18 rfl (fun hb => absurd hb ((nI_ge (by omega) (by omega)))) (fun _ => ?_)
      refine ab_iload_n X 3 d_MO_threshold_21 rfl rfl ?_
      refine ab_aload_n X 4 d_MO_threshold_22 rfl rfl ?_
      refine ab_gR X fl_MO_48 d_MO_threshold_23 (by first | assumption | decide | (show _ < 124; omega) | (show _ < 61; omega) | (show _ < 20; omega)) (P0.1.mo12) ?_
      refine ab_aload_n X 4 d_MO_threshold_26 rfl rfl ?_
      refine ab_gR X fl_MO_42 d_MO_threshold_27 (by first | assumption | decide | (show _ < 124; omega) | (show _ < 61; omega) | (show _ < 20; omega)) (P0.1.mo10) ?_
      refine ab_iconst (v := 4) X d_MO_threshold_30 (by decide) ?_
      refine ab_iload_n X 5 d_MO_threshold_31 rfl rfl ?_
      refine ab_imul X d_MO_threshold_32 ?_
      refine ab_iload X 0 d_MO_threshold_33 rfl ?_
      refine ab_iadd X d_MO_threshold_35 ?_
      refine ab_iald X (4 * p1 + j) ⟨rfl, rfl⟩ d_MO_threshold_36 (by first | assumption | decide | (show _ < 124; omega) | (show _ < 61; omega) | (show _ < 20; omega)) (nI_4a p1 j) (show 4 * p1 + j < 160 by omega) (ab_ln_lt _ _) ?_
      refine ab_top (ech j (by omega)) ?_
      refine ab_callS (as := [ab_I (nI (ch p1 j))]) X (fun h => by cases h) (t_MO_d u (ch p1 j)) ls_MO_195 d_MO_threshold_37 rfl rfl ⟨by first | exact Nat.le_of_ble_eq_true rfl | (simp only [ab_rm]; omega), by first | exact Nat.le_of_ble_eq_true rfl | (simp only [ab_rm]; omega)⟩ ⟨by first | exact Nat.le_of_ble_eq_true rfl | (simp only [ab_rm]; omega), by first | exact Nat.le_of_ble_eq_true rfl | (simp only [ab_rm]; omega)⟩ (Nat.le_of_ble_eq_true rfl) (fun u37 r37 h37 => ?_)
      obtain ⟨e37, rfl⟩ := h37
      subst u37
      refine ab_iald X (3 * ch p1 j + 1) ⟨rfl, rfl⟩ d_MO_threshold_40 (by first | assumption | decide | (show _ < 124; omega) | (show _ < 61; omega) | (show _ < 20; omega)) (rfl) (show 3 * ch p1 j + 1 < 72 by omega) (ab_ln_lt _ _) ?_
      refine ab_top l2.1 ?_
      refine ab_iload X 0 d_MO_threshold_41 rfl ?_
      refine ab_if_le X 50 d_MO_threshold_43 rfl (fun h43 => ?_) (fun h43 => ?_)
      ·
        have hj0 : ¬ 0 < j := fun z => absurd h43 (nI_nle z (by omega))
        refine ab_iconst (v := 0) X d_MO_threshold_50 (by decide) ?_
        refine ab_iadd X d_MO_threshold_51 ?_
        refine ab_top (show _ = nI ((Y (ch p1 j) 1).2.1 + (if 0 < j then 3 else 0)) by first | (rw [if_pos hj0]; exact nI_add _ 3) | (rw [if_neg hj0]; exact nI_add _ 0)) ?_
        refine ab_iadd X d_MO_threshold_52 ?_
        refine ab_top (show _ = nI (1 + sm (fun i => (Y (ch p1 i) 1).2.1 + (if 0 < i then 3 else 0)) (j + 1)) from (nI_add _ _).trans (congrArg nI (Nat.add_assoc _ _ _))) ?_
        refine ab_istore_n5 X 0 1 2 4 5 d_MO_threshold_53 rfl (by decide) rfl rfl rfl rfl rfl rfl rfl rfl rfl rfl ?_
        refine ab_iload_n X 3 d_MO_threshold_54 rfl rfl ?_
        refine ab_aload_n X 4 d_MO_threshold_55 rfl rfl ?_
        refine ab_gR X fl_MO_54 d_MO_threshold_56 (by first | assumption | decide | (show _ < 124; omega) | (show _ < 61; omega) | (show _ < 20; omega)) (P0.1.mo14) ?_
        refine ab_aload_n X 4 d_MO_threshold_59 rfl rfl ?_
        refine ab_gR X fl_MO_42 d_MO_threshold_60 (by first | assumption | decide | (show _ < 124; omega) | (show _ < 61; omega) | (show _ < 20; omega)) (P0.1.mo10) ?_
        refine ab_iconst (v := 4) X d_MO_threshold_63 (by decide) ?_
        refine ab_iload_n X 5 d_MO_threshold_64 rfl rfl ?_
        refine ab_imul X d_MO_threshold_65 ?_
        refine ab_iload X 1 d_MO_threshold_66 rfl ?_
        refine ab_iadd X d_MO_threshold_68 ?_
        refine ab_iald X (4 * p1 + j) ⟨rfl, rfl⟩ d_MO_threshold_69 (by first | assumption | decide | (show _ < 124; omega) | (show _ < 61; omega) | (show _ < 20; omega)) (nI_4a p1 j) (show 4 * p1 + j < 160 by omega) (ab_ln_lt _ _) ?_
        refine ab_top (ech j (by omega)) ?_
        refine ab_iald X (ch p1 j) ⟨rfl, rfl⟩ d_MO_threshold_70 (by first | assumption | decide | (show _ < 124; omega) | (show _ < 61; omega) | (show _ < 20; omega)) (rfl) (show ch p1 j < 24 by omega) (ab_ln_lt _ _) ?_
        refine ab_top l4 ?_
        refine ab_iadd X d_MO_threshold_71 ?_
        refine ab_top (nI_add _ _) ?_
        refine ab_istore_n5 X 0 1 2 4 5 d_MO_threshold_72 rfl (by decide) rfl rfl rfl rfl rfl rfl rfl rfl rfl rfl ?_
        refine ab_iinc5 X 2 0 1 3 4 5 d_MO_threshold_73 rfl (by decide) rfl rfl rfl rfl rfl rfl rfl rfl rfl rfl ?_
        refine ab_goto X 10 d_MO_threshold_76 rfl ?_
        refine ab_lv (List.forall_mem_cons.mpr ⟨List.mem_of_getElem? (i := 0) rfl, List.forall_mem_cons.mpr ⟨List.mem_of_getElem? (i := 3) rfl, List.forall_mem_cons.mpr ⟨List.mem_of_getElem? (i := 1) rfl, List.forall_mem_cons.mpr ⟨List.mem_of_getElem? (i := 2) rfl, List.forall_mem_cons.mpr ⟨List.mem_of_getElem? (i := 4) rfl, List.forall_mem_cons.mpr ⟨List.mem_of_getElem? (i := 5) rfl, fun _ h => absurd h List.not_mem_nil⟩⟩⟩⟩⟩⟩) ?_
        rw [show nI j + Int32.ofInt 1 = nI (j + 1) from nI_1 j]
        exact ih (j + 1) (by omega)
      ·
        have hj0 : 0 < j := Nat.pos_of_ne_zero (fun z => h43 (by rw [z]; decide))
        refine ab_iconst (v := 3) X d_MO_threshold_46 (by decide) ?_
        refine ab_goto X 51 d_MO_threshold_47 rfl ?_
        refine ab_iadd X d_MO_threshold_51 ?_
        refine ab_top (show _ = nI ((Y (ch p1 j) 1).2.1 + (if 0 < j then 3 else 0)) by first | (rw [if_pos hj0]; exact nI_add _ 3) | (rw [if_neg hj0]; exact nI_add _ 0)) ?_
        refine ab_iadd X d_MO_threshold_52 ?_
        refine ab_top (show _ = nI (1 + sm (fun i => (Y (ch p1 i) 1).2.1 + (if 0 < i then 3 else 0)) (j + 1)) from (nI_add _ _).trans (congrArg nI (Nat.add_assoc _ _ _))) ?_
        refine ab_istore_n5 X 0 1 2 4 5 d_MO_threshold_53 rfl (by decide) rfl rfl rfl rfl rfl rfl rfl rfl rfl rfl ?_
        refine ab_iload_n X 3 d_MO_threshold_54 rfl rfl ?_
        refine ab_aload_n X 4 d_MO_threshold_55 rfl rfl ?_
        refine ab_gR X fl_MO_54 d_MO_threshold_56 (by first | assumption | decide | (show _ < 124; omega) | (show _ < 61; omega) | (show _ < 20; omega)) (P0.1.mo14) ?_
        refine ab_aload_n X 4 d_MO_threshold_59 rfl rfl ?_
        refine ab_gR X fl_MO_42 d_MO_threshold_60 (by first | assumption | decide | (show _ < 124; omega) | (show _ < 61; omega) | (show _ < 20; omega)) (P0.1.mo10) ?_
        refine ab_iconst (v := 4) X d_MO_threshold_63 (by decide) ?_
        refine ab_iload_n X 5 d_MO_threshold_64 rfl rfl ?_
        refine ab_imul X d_MO_threshold_65 ?_
        refine ab_iload X 1 d_MO_threshold_66 rfl ?_
        refine ab_iadd X d_MO_threshold_68 ?_
        refine ab_iald X (4 * p1 + j) ⟨rfl, rfl⟩ d_MO_threshold_69 (by first | assumption | decide | (show _ < 124; omega) | (show _ < 61; omega) | (show _ < 20; omega)) (nI_4a p1 j) (show 4 * p1 + j < 160 by omega) (ab_ln_lt _ _) ?_
        refine ab_top (ech j (by omega)) ?_
        refine ab_iald X (ch p1 j) ⟨rfl, rfl⟩ d_MO_threshold_70 (by first | assumption | decide | (show _ < 124; omega) | (show _ < 61; omega) | (show _ < 20; omega)) (rfl) (show ch p1 j < 24 by omega) (ab_ln_lt _ _) ?_
        refine ab_top l4 ?_
        refine ab_iadd X d_MO_threshold_71 ?_
        refine ab_top (nI_add _ _) ?_
        refine ab_istore_n5 X 0 1 2 4 5 d_MO_threshold_72 rfl (by decide) rfl rfl rfl rfl rfl rfl rfl rfl rfl rfl ?_
        refine ab_iinc5 X 2 0 1 3 4 5 d_MO_threshold_73 rfl (by decide) rfl rfl rfl rfl rfl rfl rfl rfl rfl rfl ?_
        refine ab_goto X 10 d_MO_threshold_76 rfl ?_
        refine ab_lv (List.forall_mem_cons.mpr ⟨List.mem_of_getElem? (i := 0) rfl, List.forall_mem_cons.mpr ⟨List.mem_of_getElem? (i := 3) rfl, List.forall_mem_cons.mpr ⟨List.mem_of_getElem? (i := 1) rfl, List.forall_mem_cons.mpr ⟨List.mem_of_getElem? (i := 2) rfl, List.forall_mem_cons.mpr ⟨List.mem_of_getElem? (i := 4) rfl, List.forall_mem_cons.mpr ⟨List.mem_of_getElem? (i := 5) rfl, fun _ h => absurd h List.not_mem_nil⟩⟩⟩⟩⟩⟩) ?_
        rw [show nI j + Int32.ofInt 1 = nI (j + 1) from nI_1 j]
        exact ih (j + 1) (by omega)
  refine ab_iconst (v := 1) X d_MO_threshold_0 (by decide) ?_
  refine ab_istore_n2 X 0 1 d_MO_threshold_1 rfl (by decide) rfl rfl rfl rfl ?_
  refine ab_iconst (v := 0) X d_MO_threshold_2 (by decide) ?_
  refine ab_istore_n3 X 0 1 2 d_MO_threshold_3 rfl (by decide) rfl rfl rfl rfl rfl rfl ?_
  refine ab_iconst (v := 0) X d_MO_threshold_4 (by decide) ?_
  refine ab_istore4 X 0 1 2 3 d_MO_threshold_5 (by decide) rfl rfl rfl rfl rfl rfl rfl rfl ?_
  refine ab_iconst (v := 0) X d_MO_threshold_7 (by decide) ?_
  refine ab_istore5 X 0 1 2 3 4 d_MO_threshold_8 (by decide) rfl rfl rfl rfl rfl rfl rfl rfl rfl rfl ?_
  exact out1 (cn p1) 0 (by omega)
end SaXMThr

