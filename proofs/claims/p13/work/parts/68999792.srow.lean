/-! Rows that may be none: join, become, the lesser of two. -/
theorem dr_c {xs : List Nat} {j : Nat} (h : j < xs.length) : xs.drop j = xs.getD j 0 :: xs.drop (j + 1) := by
  rw [List.drop_eq_getElem_cons h, List.getD_eq_getElem?_getD, List.getElem?_eq_getElem h]; rfl
theorem lx_end {xs ys : List Nat} {j : Nat} (h1 : j ≤ xs.length) (h2 : j ≤ ys.length) (h : j = xs.length ∨ j = ys.length) : lxl (xs.drop j) (ys.drop j) = decide (xs.length < ys.length) := by
  by_cases z : j = ys.length
  · rw [z, List.drop_length]
    have e : ¬ xs.length < ys.length := by omega
    rw [decide_eq_false e]
    cases xs.drop ys.length <;> rfl
  · have zx : j = xs.length := h.resolve_right z
    rw [dr_c (xs := ys) (by omega), zx, List.drop_length]
    exact (decide_eq_true (by omega)).symm
theorem lx_eq {xs ys : List Nat} {j : Nat} (h1 : j < xs.length) (h2 : j < ys.length) (e : xs.getD j 0 = ys.getD j 0) : lxl (xs.drop j) (ys.drop j) = lxl (xs.drop (j + 1)) (ys.drop (j + 1)) := by
  rw [dr_c h1, dr_c h2]
  show (if xs.getD j 0 = ys.getD j 0 then _ else _) = _
  rw [if_pos e]
theorem lx_ne {xs ys : List Nat} {j : Nat} (h1 : j < xs.length) (h2 : j < ys.length) (e : ¬ xs.getD j 0 = ys.getD j 0) : lxl (xs.drop j) (ys.drop j) = decide (xs.getD j 0 < ys.getD j 0) := by
  rw [dr_c h1, dr_c h2]
  show (if xs.getD j 0 = ys.getD j 0 then _ else _) = _
  rw [if_neg e]
theorem wo_le (a : Nat) : wo a ≤ 9 := by
  unfold wo
  repeat' split
  all_goals decide
theorem wgt_le : ∀ xs : List Nat, wgt xs ≤ 9 * xs.length := by
  intro xs
  induction xs with
  | nil => exact Nat.le_refl _
  | cons a xs ih =>
    have := wo_le a
    show wo a + wgt xs ≤ 9 * (xs.length + 1)
    omega
theorem gd_itm {xs : List Nat} (h : ∀ x, x ∈ xs → itm x) {i : Nat} (hi : i < xs.length) : itm (xs.getD i 0) := by
  have e : xs.getD i 0 = xs[i] := by rw [List.getD_eq_getElem?_getD, List.getElem?_eq_getElem hi]; rfl
  rw [e]; exact h _ (List.getElem_mem hi)
theorem itm.lt {x : Nat} (h : itm x) : x < 1020 := by unfold itm at h; omega
theorem jn_nil {b : Option (List Nat)} : jn (some []) b = b := by cases b <;> rfl
theorem bet_none {b : Option (List Nat)} : bet none b = b := by cases b <;> rfl
/-- a row, or none -/
def Ro (u : ab_S) (r : Nat) (o : Option (List Nat)) : Prop :=
  match o with
  | none => u.1 4 r 3 = 0
  | some xs => Rw u r xs
theorem Ro.fr {A : Nat → Prop} {u u' : ab_S} {r : Nat} {b : Option (List Nat)} (h : Ro u r b) (o : rO A u u') (hr : ¬ A r) : Ro u' r b := by
  cases b with
  | none => exact (o.1 _ _ _ (fun z => hr z.2)).trans h
  | some xs => exact Rw.fr h o hr
theorem wo_nI2 {a : Nat} (h : a < 2000) : (if 20 ≤ nI a then (5 : Int32) else if 10 ≤ nI a then 9 else 1) = nI (wo a) := by
  unfold wo
  by_cases z : 20 ≤ a
  · have y : (20 : Int32) ≤ nI a := nI_le (a := 20) (b := a) z (by omega)
    rw [if_pos y, if_pos z]; rfl
  · have y : ¬ (20 : Int32) ≤ nI a := nI_ge (a := a) (b := 20) (by omega) (by decide)
    rw [if_neg y, if_neg z]
    by_cases x : 10 ≤ a
    · have t : (10 : Int32) ≤ nI a := nI_le (a := 10) (b := a) x (by omega)
      rw [if_pos t, if_pos x]; rfl
    · have t : ¬ (10 : Int32) ≤ nI a := nI_ge (a := a) (b := 10) (by omega) (by decide)
      rw [if_neg t, if_neg x]; rfl
section SaSRow
variable {l : Launch} {D : va_G} {ca : Nat → ClassId}
set_option maxRecDepth 100000 in
set_option maxHeartbeats 1000000 in
theorem x_RW_add2 (u : ab_S) (r a : Nat) (xs : List Nat) (A : Rw u r xs) (ha : a < 2000) (hl : xs.length < ab_ln 8 r) (h : CI u) (hr : r < 124) : ab_C false l D ca y_RW_add b_RW_add 2 none 1 ab_nQ u [ab_O 4 r, ab_I (nI a)] (fun u' v => (cP [4, 8] u u' ∧ rO (fun i => i = r) u u' ∧ Rw u' r (xs ++ [a])) ∧ v = none) := by
  refine ab_C.of (by decide) (Nat.le_of_ble_eq_true rfl) ?_
  intro p e s m args below meth c ad X hZ hr0 hlk
  have P0 : cP [4, 8] u u := cQ.rf h
  have l2 := ab_ln8b r
  obtain ⟨a1, a2, a3, a4⟩ := A
  refine ab_aload_n X 0 d_RW_add_0 rfl rfl ?_
  refine ab_gI X fl_RW_9 d_RW_add_1 (by first | assumption | decide | (show _ < 124; omega) | (show _ < 61; omega) | (show _ < 20; omega)) (a1) ?_
  refine ab_aload_n X 0 d_RW_add_4 rfl rfl ?_
  refine ab_gR X fl_RW_22 d_RW_add_5 (by first | assumption | decide | (show _ < 124; omega) | (show _ < 61; omega) | (show _ < 20; omega)) (P0.1.rw (by first | assumption | decide | omega)) ?_
  refine ab_alen X ⟨by decide, _, fun _ => rfl⟩ d_RW_add_8 (by first | assumption | decide | (show _ < 124; omega) | (show _ < 61; omega) | (show _ < 20; omega)) (rfl) ?_
  refine ab_icmp_ge X 45 d_RW_add_9 rfl (fun hb => absurd hb ((nI_ge (by omega) (by omega)))) (fun _ => ?_)
  refine ab_aload_n X 0 d_RW_add_12 rfl rfl ?_
  refine ab_gR X fl_RW_22 d_RW_add_13 (by first | assumption | decide | (show _ < 124; omega) | (show _ < 61; omega) | (show _ < 20; omega)) (P0.1.rw (by first | assumption | decide | omega)) ?_
  refine ab_aload_n X 0 d_RW_add_16 rfl rfl ?_
  refine ab_gI X fl_RW_9 d_RW_add_17 (by first | assumption | decide | (show _ < 124; omega) | (show _ < 61; omega) | (show _ < 20; omega)) (a1) ?_
  refine ab_iload_n X 1 d_RW_add_20 rfl rfl ?_
  refine ab_iast X (xs.length) ⟨rfl, rfl⟩ d_RW_add_21 (by first | assumption | decide | (show _ < 124; omega) | (show _ < 61; omega) | (show _ < 20; omega)) (rfl) (hl) (ab_ln_lt _ _) ?_
  refine ab_gen (fun u21 e21 => ?_)
  have P21 : cP [4, 8] u u21 := by rw [e21]; exact P0.ui rfl (by decide)
  refine ab_aload_n X 0 d_RW_add_22 rfl rfl ?_
  refine ab_dup X d_RW_add_23 rfl ?_
  refine ab_gI X fl_RW_9 d_RW_add_24 (by first | assumption | decide | (show _ < 124; omega) | (show _ < 61; omega) | (show _ < 20; omega)) ((show _ = nI xs.length by rw [e21]; exact (ui_n _ (by omega)).trans a1)) ?_
  refine ab_iconst (v := 1) X d_RW_add_27 (by decide) ?_
  refine ab_iadd X d_RW_add_28 ?_
  refine ab_top (nI_1 _) ?_
  refine ab_putI X fp_RW_9 d_RW_add_29 (by first | assumption | decide | (show _ < 124; omega) | (show _ < 61; omega) | (show _ < 20; omega)) rfl rfl ?_
  refine ab_gen (fun u29 e29 => ?_)
  have P29 : cP [4, 8] u u29 := by rw [e29]; exact P21.row (by decide) (by omega)
  refine ab_aload_n X 0 d_RW_add_32 rfl rfl ?_
  refine ab_dup X d_RW_add_33 rfl ?_
  refine ab_gI X fl_RW_15 d_RW_add_34 (by first | assumption | decide | (show _ < 124; omega) | (show _ < 61; omega) | (show _ < 20; omega)) ((show _ = nI (wgt xs) by rw [e29, e21]; exact (ui_n _ (by omega)).trans ((ui_n _ (by omega)).trans a3))) ?_
  refine ab_iload_n X 1 d_RW_add_37 rfl rfl ?_
  refine ab_callS (as := [ab_I (nI a)]) X (fun h => by cases h) (c_RW_weightOf (N := ab_nQ) u29 (nI a)) ls_RW_26 d_RW_add_38 rfl rfl ⟨by first | exact Nat.le_of_ble_eq_true rfl | (simp only [ab_rm]; omega), by first | exact Nat.le_of_ble_eq_true rfl | (simp only [ab_rm]; omega)⟩ ⟨by first | exact Nat.le_of_ble_eq_true rfl | (simp only [ab_rm]; omega), by first | exact Nat.le_of_ble_eq_true rfl | (simp only [ab_rm]; omega)⟩ (Nat.le_of_ble_eq_true rfl) (fun u38 r38 h38 => ?_)
  obtain ⟨e38, rfl⟩ := h38
  subst u38
  rw [wo_nI2 ha]
  refine ab_iadd X d_RW_add_41 ?_
  refine ab_top (nI_add _ _) ?_
  refine ab_putI X fp_RW_15 d_RW_add_42 (by first | assumption | decide | (show _ < 124; omega) | (show _ < 61; omega) | (show _ < 20; omega)) rfl rfl ?_
  refine ab_gen (fun u42 e42 => ?_)
  have P42 : cP [4, 8] u u42 := by rw [e42]; exact P29.ui rfl (by decide)
  exact ab_retv X hr0 hlk d_RW_add_45 ⟨⟨P42, ⟨fun c i k z => by rw [e42, e29, e21]; exact (ui_n _ (by omega)).trans ((ui_n _ (by omega)).trans (ui_n _ (by omega))), by rw [e42, e29, e21]⟩, by rw [e42, e29, List.length_append]; exact (ui_n _ (by omega)).trans (ui_s _), fun i hi => by
      rw [List.length_append] at hi
      have hi : i < xs.length + 1 := hi
      rw [e42, e29, e21]
      by_cases q : i = xs.length
      · rw [q]; exact (ui_n _ (by omega)).trans ((ui_n _ (by omega)).trans ((ui_s _).trans (by rw [show xs.length = xs.length + 0 from rfl, gd_app]; rfl)))
      · exact (ui_n _ (by omega)).trans ((ui_n _ (by omega)).trans ((ui_n _ (by omega)).trans ((a2 i (by omega)).trans (by rw [gd_appl (by omega)])))), by rw [e42, wgt_app]; exact ui_s _, by rw [e42, e29, e21]; exact (ui_n _ (by omega)).trans ((ui_n _ (by omega)).trans ((ui_n _ (by omega)).trans a4))⟩, rfl⟩
set_option maxRecDepth 100000 in
set_option maxHeartbeats 1000000 in
theorem x_RW_joinN (u : ab_S) (r o : Nat) (hz : u.1 4 r 3 = 0 ∨ (u.1 4 r 3 = 1 ∧ u.1 4 o 3 = 0)) (h : CI u) (hr : r < 124) (ho : o < 124) : ab_C false l D ca y_RW_join b_RW_join 3 none 1 ab_nQ u [ab_O 4 r, ab_O 4 o] (fun u' v => (cP [4, 8] u u' ∧ rO (fun i => i = r) u u' ∧ u'.1 4 r 3 = 0) ∧ v = none) := by
  refine ab_C.of (by decide) (Nat.le_of_ble_eq_true rfl) ?_
  intro p e s m args below meth c ad X hZ hr0 hlk
  have P0 : cP [4, 8] u u := cQ.rf h
  have l1 := ab_ln8b o
  have l2 := ab_ln8b r
  have loop : ∀ (k j : Nat) (u1 : ab_S), k + j = 41 → cP [4, 8] u u1 → rO (fun i => i = r) u u1 → u1.1 4 r 3 = 0 → ab_J p l e (ab_rm 1 0 0) s m args below meth c (MQ below (ab_Q D ca ad ab_nQ s.heap.size (fun u' v => (cP [4, 8] u u' ∧ rO (fun i => i = r) u u' ∧ u'.1 4 r 3 = 0) ∧ v = none)) args s 0 0 (ab_A ad ab_nQ s.heap.size)) D ca (ab_A ad ab_nQ s.heap.size) s.heap 3 0 0 ad ab_nQ u1 38 [(2, ab_I (nI j)), (0, ab_O 4 r), (1, ab_O 4 o)] [] := by
    intro k
    induction k with
    | zero =>
      intro j u1 hj P1 O1 z1
      obtain ⟨co, hco, eo⟩ := P1.1.row ho
      refine ab_iload_n X 0 d_RW_join_38 rfl rfl ?_
      refine ab_aload_n X 2 d_RW_join_39 rfl rfl ?_
      refine ab_gI X fl_RW_9 d_RW_join_40 (by first | assumption | decide | (show _ < 124; omega) | (show _ < 61; omega) | (show _ < 20; omega)) (eo) ?_
      refine ab_icmp_ge X 89 d_RW_join_43 rfl (fun _ => ?_) (fun hb => absurd ((nI_le (by omega) (by omega))) hb)
      exact ab_retv X hr0 hlk d_RW_join_89 ⟨⟨P1, O1, z1⟩, rfl⟩
    | succ k ih =>
      intro j u1 hj P1 O1 z1
      obtain ⟨co, hco, eo⟩ := P1.1.row ho
      obtain ⟨cr, hcr, er⟩ := P1.1.row hr
      refine ab_iload_n X 0 d_RW_join_38 rfl rfl ?_
      refine ab_aload_n X 2 d_RW_join_39 rfl rfl ?_
      refine ab_gI X fl_RW_9 d_RW_join_40 (by first | assumption | decide | (show _ < 124; omega) | (show _ < 61; omega) | (show _ < 20; omega)) (eo) ?_
      refine ab_icmp_ge X 89 d_RW_join_43 rfl (fun h43 => ?_) (fun h43 => ?_)
      ·
        exact ab_retv X hr0 hlk d_RW_join_89 ⟨⟨P1, O1, z1⟩, rfl⟩
      ·
        have h1 := nI_lt_of h43 (by omega)
        refine ab_aload_n X 1 d_RW_join_46 rfl rfl ?_
        refine ab_gI X fl_RW_9 d_RW_join_47 (by first | assumption | decide | (show _ < 124; omega) | (show _ < 61; omega) | (show _ < 20; omega)) (er) ?_
        refine ab_aload_n X 1 d_RW_join_50 rfl rfl ?_
        refine ab_gR X fl_RW_22 d_RW_join_51 (by first | assumption | decide | (show _ < 124; omega) | (show _ < 61; omega) | (show _ < 20; omega)) (P1.1.rw (by first | assumption | decide | omega)) ?_
        refine ab_alen X ⟨by decide, _, fun _ => rfl⟩ d_RW_join_54 (by first | assumption | decide | (show _ < 124; omega) | (show _ < 61; omega) | (show _ < 20; omega)) (rfl) ?_
        refine ab_icmp_ge X 89 d_RW_join_55 rfl (fun h55 => ?_) (fun h55 => ?_)
        ·
          exact ab_retv X hr0 hlk d_RW_join_89 ⟨⟨P1, O1, z1⟩, rfl⟩
        ·
          have h2 := nI_lt_of h55 (by omega)
          refine ab_aload_n X 1 d_RW_join_58 rfl rfl ?_
          refine ab_gR X fl_RW_22 d_RW_join_59 (by first | assumption | decide | (show _ < 124; omega) | (show _ < 61; omega) | (show _ < 20; omega)) (P1.1.rw (by first | assumption | decide | omega)) ?_
          refine ab_aload_n X 1 d_RW_join_62 rfl rfl ?_
          refine ab_gI X fl_RW_9 d_RW_join_63 (by first | assumption | decide | (show _ < 124; omega) | (show _ < 61; omega) | (show _ < 20; omega)) (er) ?_
          refine ab_aload_n X 2 d_RW_join_66 rfl rfl ?_
          refine ab_gR X fl_RW_22 d_RW_join_67 (by first | assumption | decide | (show _ < 124; omega) | (show _ < 61; omega) | (show _ < 20; omega)) (P1.1.rw (by first | assumption | decide | omega)) ?_
          refine ab_iload_n X 0 d_RW_join_70 rfl rfl ?_
          refine ab_iald X (j) ⟨rfl, rfl⟩ d_RW_join_71 (by first | assumption | decide | (show _ < 124; omega) | (show _ < 61; omega) | (show _ < 20; omega)) (rfl) (by omega) (ab_ln_lt _ _) ?_
          refine ab_iast X (cr) ⟨rfl, rfl⟩ d_RW_join_72 (by first | assumption | decide | (show _ < 124; omega) | (show _ < 61; omega) | (show _ < 20; omega)) (rfl) (by omega) (ab_ln_lt _ _) ?_
          refine ab_gen (fun u72 e72 => ?_)
          have P72 : cP [4, 8] u u72 := by rw [e72]; exact P1.ui rfl (by decide)
          refine ab_aload_n X 1 d_RW_join_73 rfl rfl ?_
          refine ab_dup X d_RW_join_74 rfl ?_
          refine ab_gI X fl_RW_9 d_RW_join_75 (by first | assumption | decide | (show _ < 124; omega) | (show _ < 61; omega) | (show _ < 20; omega)) ((show _ = nI cr by rw [e72]; exact (ui_n _ (by omega)).trans er)) ?_
          refine ab_iconst (v := 1) X d_RW_join_78 (by decide) ?_
          refine ab_iadd X d_RW_join_79 ?_
          refine ab_top (nI_1 _) ?_
          refine ab_putI X fp_RW_9 d_RW_join_80 (by first | assumption | decide | (show _ < 124; omega) | (show _ < 61; omega) | (show _ < 20; omega)) rfl rfl ?_
          refine ab_gen (fun u80 e80 => ?_)
          have P80 : cP [4, 8] u u80 := by rw [e80]; exact P72.row (by decide) (by omega)
          refine ab_iinc2 X 0 1 2 d_RW_join_83 rfl (by decide) rfl rfl rfl rfl ?_
          refine ab_goto X 38 d_RW_join_86 rfl ?_
          rw [show nI j + Int32.ofInt 1 = nI (j + 1) from nI_1 j]
          exact ih (j + 1) _ (by omega) P80 (O1.trans ⟨fun c i k z => by rw [e80, e72]; exact (ui_n _ (by omega)).trans (ui_n _ (by omega)), by rw [e80, e72]⟩) (by rw [e80, e72]; exact (ui_n _ (by omega)).trans ((ui_n _ (by omega)).trans z1))
  rcases hz with z0 | ⟨z0, z2⟩
  ·
    refine ab_aload_n X 0 d_RW_join_0 rfl rfl ?_
    refine ab_aload_n X 0 d_RW_join_1 rfl rfl ?_
    refine ab_gI X fl_RW_18 d_RW_join_2 (by first | assumption | decide | (show _ < 124; omega) | (show _ < 61; omega) | (show _ < 20; omega)) (z0) ?_
    refine ab_if_eq X 19 d_RW_join_5 rfl (fun _ => ?_) (fun hb => absurd (rfl) hb)
    refine ab_iconst (v := 0) X d_RW_join_19 (by decide) ?_
    refine ab_putI X fp_RW_18 d_RW_join_20 (by first | assumption | decide | (show _ < 124; omega) | (show _ < 61; omega) | (show _ < 20; omega)) rfl rfl ?_
    refine ab_gen (fun u20 e20 => ?_)
    have P20 : cP [4, 8] u u20 := by rw [e20]; exact P0.ui rfl (by decide)
    refine ab_aload_n X 0 d_RW_join_23 rfl rfl ?_
    refine ab_dup X d_RW_join_24 rfl ?_
    refine ab_gI X fl_RW_15 d_RW_join_25 (by first | assumption | decide | (show _ < 124; omega) | (show _ < 61; omega) | (show _ < 20; omega)) (rfl) ?_
    refine ab_aload_n X 1 d_RW_join_28 rfl rfl ?_
    refine ab_gI X fl_RW_15 d_RW_join_29 (by first | assumption | decide | (show _ < 124; omega) | (show _ < 61; omega) | (show _ < 20; omega)) (rfl) ?_
    refine ab_iadd X d_RW_join_32 ?_
    refine ab_putI X fp_RW_15 d_RW_join_33 (by first | assumption | decide | (show _ < 124; omega) | (show _ < 61; omega) | (show _ < 20; omega)) rfl rfl ?_
    refine ab_gen (fun u33 e33 => ?_)
    have P33 : cP [4, 8] u u33 := by rw [e33]; exact P20.ui rfl (by decide)
    refine ab_iconst (v := 0) X d_RW_join_36 (by decide) ?_
    refine ab_istore_n2 X 0 1 d_RW_join_37 rfl (by decide) rfl rfl rfl rfl ?_
    exact loop 41 0 _ rfl P33 ⟨fun c i k z => by rw [e33, e20]; exact (ui_n _ (by omega)).trans (ui_n _ (by omega)), by rw [e33, e20]⟩ (by rw [e33, e20]; exact (ui_n _ (by omega)).trans (ui_s _))
  ·
    refine ab_aload_n X 0 d_RW_join_0 rfl rfl ?_
    refine ab_aload_n X 0 d_RW_join_1 rfl rfl ?_
    refine ab_gI X fl_RW_18 d_RW_join_2 (by first | assumption | decide | (show _ < 124; omega) | (show _ < 61; omega) | (show _ < 20; omega)) (z0) ?_
    refine ab_if_eq X 19 d_RW_join_5 rfl (fun hb => absurd hb ((by decide))) (fun _ => ?_)
    refine ab_aload_n X 1 d_RW_join_8 rfl rfl ?_
    refine ab_gI X fl_RW_18 d_RW_join_9 (by first | assumption | decide | (show _ < 124; omega) | (show _ < 61; omega) | (show _ < 20; omega)) (z2) ?_
    refine ab_if_eq X 19 d_RW_join_12 rfl (fun _ => ?_) (fun hb => absurd (rfl) hb)
    refine ab_iconst (v := 0) X d_RW_join_19 (by decide) ?_
    refine ab_putI X fp_RW_18 d_RW_join_20 (by first | assumption | decide | (show _ < 124; omega) | (show _ < 61; omega) | (show _ < 20; omega)) rfl rfl ?_
    refine ab_gen (fun u20 e20 => ?_)
    have P20 : cP [4, 8] u u20 := by rw [e20]; exact P0.ui rfl (by decide)
    refine ab_aload_n X 0 d_RW_join_23 rfl rfl ?_
    refine ab_dup X d_RW_join_24 rfl ?_
    refine ab_gI X fl_RW_15 d_RW_join_25 (by first | assumption | decide | (show _ < 124; omega) | (show _ < 61; omega) | (show _ < 20; omega)) (rfl) ?_
    refine ab_aload_n X 1 d_RW_join_28 rfl rfl ?_
    refine ab_gI X fl_RW_15 d_RW_join_29 (by first | assumption | decide | (show _ < 124; omega) | (show _ < 61; omega) | (show _ < 20; omega)) (rfl) ?_
    refine ab_iadd X d_RW_join_32 ?_
    refine ab_putI X fp_RW_15 d_RW_join_33 (by first | assumption | decide | (show _ < 124; omega) | (show _ < 61; omega) | (show _ < 20; omega)) rfl rfl ?_
    refine ab_gen (fun u33 e33 => ?_)
    have P33 : cP [4, 8] u u33 := by rw [e33]; exact P20.ui rfl (by decide)
    refine ab_iconst (v := 0) X d_RW_join_36 (by decide) ?_
    refine ab_istore_n2 X 0 1 d_RW_join_37 rfl (by decide) rfl rfl rfl rfl ?_
    exact loop 41 0 _ rfl P33 ⟨fun c i k z => by rw [e33, e20]; exact (ui_n _ (by omega)).trans (ui_n _ (by omega)), by rw [e33, e20]⟩ (by rw [e33, e20]; exact (ui_n _ (by omega)).trans (ui_s _))
theorem x_RW_joinO (u : ab_S) (r o : Nat) (a b : Option (List Nat)) (A : Ro u r a) (B : Ro u o b) (hn : r ≠ o) (hl : ∀ xs ys, a = some xs → b = some ys → xs.length + ys.length ≤ ab_ln 8 r) (h : CI u) (hr : r < 124) (ho : o < 124) : ab_C false l D ca y_RW_join b_RW_join 3 none 1 ab_nQ u [ab_O 4 r, ab_O 4 o] (fun u' v => (cP [4, 8] u u' ∧ rO (fun i => i = r) u u' ∧ Ro u' r (jn a b)) ∧ v = none) := by
  cases a with
  | none => exact x_RW_joinN u r o (Or.inl A) h hr ho
  | some xs =>
    cases b with
    | none => exact x_RW_joinN u r o (Or.inr ⟨A.2.2.2, B⟩) h hr ho
    | some ys => exact x_RW_join u r o xs ys A B hn (hl xs ys rfl rfl) h hr ho
set_option maxRecDepth 100000 in
set_option maxHeartbeats 1000000 in
theorem x_RW_become (u : ab_S) (r o : Nat) (b : Option (List Nat)) (B : Ro u o b) (hn : r ≠ o) (hl : ∀ ys, b = some ys → ys.length ≤ ab_ln 8 r) (h : CI u) (hr : r < 124) (ho : o < 124) : ab_C false l D ca y_RW_become b_RW_become 2 none 2 ab_nQ u [ab_O 4 r, ab_O 4 o] (fun u' v => (cP [4, 8] u u' ∧ rO (fun i => i = r) u u' ∧ Ro u' r b) ∧ v = none) := by
  refine ab_C.of (by decide) (Nat.le_of_ble_eq_true rfl) ?_
  intro p e s m args below meth c ad X hZ hr0 hlk
  have P0 : cP [4, 8] u u := cQ.rf h
  refine ab_aload_n X 0 d_RW_become_0 rfl rfl ?_
  refine ab_callV (as := []) X (fun h => by cases h) (x_RW_start u r h hr) lk_RW_30 d_RW_become_1 rfl rfl (by first | assumption | decide | (show _ < 124; omega) | (show _ < 61; omega) | (show _ < 20; omega)) ⟨by first | exact Nat.le_of_ble_eq_true rfl | (simp only [ab_rm]; omega), by first | exact Nat.le_of_ble_eq_true rfl | (simp only [ab_rm]; omega)⟩ ⟨by first | exact Nat.le_of_ble_eq_true rfl | (simp only [ab_rm]; omega), by first | exact Nat.le_of_ble_eq_true rfl | (simp only [ab_rm]; omega)⟩ (Nat.le_of_ble_eq_true rfl) (fun u1 r1 h1 => ?_)
  obtain ⟨⟨q1, o1, r1⟩, rfl⟩ := h1
  have P1 := P0.trans q1 (by decide)
  refine ab_aload_n X 0 d_RW_become_4 rfl rfl ?_
  refine ab_aload_n X 1 d_RW_become_5 rfl rfl ?_
  refine ab_callV (as := [ab_O 4 o]) X (fun h => by cases h) (x_RW_joinO u1 r o (some []) b r1 (B.fr o1 (fun z => hn z.symm)) hn (fun xs ys ex ey => by cases ex; have := hl ys ey; exact Nat.le_trans (Nat.le_of_eq (Nat.zero_add _)) this) P1.1 hr ho) lk_RW_33 d_RW_become_6 rfl rfl (by first | assumption | decide | (show _ < 124; omega) | (show _ < 61; omega) | (show _ < 20; omega)) ⟨by first | exact Nat.le_of_ble_eq_true rfl | (simp only [ab_rm]; omega), by first | exact Nat.le_of_ble_eq_true rfl | (simp only [ab_rm]; omega)⟩ ⟨by first | exact Nat.le_of_ble_eq_true rfl | (simp only [ab_rm]; omega), by first | exact Nat.le_of_ble_eq_true rfl | (simp only [ab_rm]; omega)⟩ (Nat.le_of_ble_eq_true rfl) (fun u6 r6 h6 => ?_)
  obtain ⟨⟨q6, o6, r6⟩, rfl⟩ := h6
  have P6 := P1.trans q6 (by decide)
  exact ab_retv X hr0 hlk d_RW_become_9 ⟨⟨P6, o1.trans o6, by rw [jn_nil] at r6; exact r6⟩, rfl⟩
set_option maxRecDepth 100000 in
set_option maxHeartbeats 1000000 in
theorem t_RW_isLesserX (u : ab_S) (r o : Nat) (xs ys : List Nat) (A : Rw u r xs) (B : Rw u o ys) (bx : xs.length ≤ 40 ∧ ∀ x, x ∈ xs → itm x) (bz : ys.length ≤ 40 ∧ ∀ x, x ∈ ys → itm x) (h : CI u) (hr : r < 124) (ho : o < 124) : ab_C false l D ca y_RW_isLesser b_RW_isLesser 3 (some FieldType.boolean) 0 ab_nQ u [ab_O 4 r, ab_O 4 o] (fun u' v => u' = u ∧ v = some (ab_I (if les xs ys = true then 1 else 0))) := by
  refine ab_C.of (by decide) (Nat.le_of_ble_eq_true rfl) ?_
  intro p e s m args below meth c ad X hZ hr0 hlk
  have P0 : cP [4, 8] u u := cQ.rf h
  have l1 := ab_ln8b o
  have l2 := ab_ln8b r
  have lx := A.len h hr (by omega)
  have ly := B.len h ho (by omega)
  have wx := wgt_le xs
  have wy := wgt_le ys
  obtain ⟨a1, a2, a3, a4⟩ := A
  obtain ⟨b1, b2, b3, b4⟩ := B
  have loop : ∀ (k j : Nat), k + j = 41 → j ≤ xs.length → j ≤ ys.length → les xs ys = lxl (xs.drop j) (ys.drop j) → ab_J p l e (ab_rm 0 0 0) s m args below meth c (MQ below (ab_Q D ca ad ab_nQ s.heap.size (fun u' v => u' = u ∧ v = some (ab_I (if les xs ys = true then 1 else 0)))) args s 0 0 (ab_A ad ab_nQ s.heap.size)) D ca (ab_A ad ab_nQ s.heap.size) s.heap 3 0 0 ad ab_nQ u 30 [(2, ab_I (nI j)), (0, ab_O 4 r), (1, ab_O 4 o)] [] := by
    intro k
    induction k with
    | zero => intro j hj h1; exfalso; omega
    | succ k ih =>
      intro j hj h1 h2 he
      refine ab_iload_n X 0 d_RW_isLesser_30 rfl rfl ?_
      refine ab_aload_n X 1 d_RW_isLesser_31 rfl rfl ?_
      refine ab_gI X fl_RW_9 d_RW_isLesser_32 (by first | assumption | decide | (show _ < 124; omega) | (show _ < 61; omega) | (show _ < 20; omega)) (a1) ?_
      refine ab_icmp_ge X 88 d_RW_isLesser_35 rfl (fun h35 => ?_) (fun h35 => ?_)
      ·
        have hE := lx_end h1 h2 (Or.inl (by have := nI_le_of h35 (by omega); omega))
        refine ab_aload_n X 1 d_RW_isLesser_88 rfl rfl ?_
        refine ab_gI X fl_RW_9 d_RW_isLesser_89 (by first | assumption | decide | (show _ < 124; omega) | (show _ < 61; omega) | (show _ < 20; omega)) (a1) ?_
        refine ab_aload_n X 2 d_RW_isLesser_92 rfl rfl ?_
        refine ab_gI X fl_RW_9 d_RW_isLesser_93 (by first | assumption | decide | (show _ < 124; omega) | (show _ < 61; omega) | (show _ < 20; omega)) (b1) ?_
        refine ab_icmp_ge X 103 d_RW_isLesser_96 rfl (fun h96 => ?_) (fun h96 => ?_)
        ·
          have hv : les xs ys = false := by rw [he, hE]; exact decide_eq_false (by have := nI_le_of h96 (by omega); omega)
          refine ab_iconst (v := 0) X d_RW_isLesser_103 (by decide) ?_
          exact ab_retz X hr0 hlk (by first | exact Or.inl rfl | exact Or.inr rfl) d_RW_isLesser_104 ⟨rfl, by rw [hv]; rfl⟩
        ·
          have hv : les xs ys = true := by rw [he, hE]; exact decide_eq_true (nI_lt_of h96 (by omega))
          refine ab_iconst (v := 1) X d_RW_isLesser_99 (by decide) ?_
          refine ab_goto X 104 d_RW_isLesser_100 rfl ?_
          exact ab_retz X hr0 hlk (by first | exact Or.inl rfl | exact Or.inr rfl) d_RW_isLesser_104 ⟨rfl, by rw [hv]; rfl⟩
      ·
        have j1 := nI_lt_of h35 (by omega)
        refine ab_iload_n X 0 d_RW_isLesser_38 rfl rfl ?_
        refine ab_aload_n X 2 d_RW_isLesser_39 rfl rfl ?_
        refine ab_gI X fl_RW_9 d_RW_isLesser_40 (by first | assumption | decide | (show _ < 124; omega) | (show _ < 61; omega) | (show _ < 20; omega)) (b1) ?_
        refine ab_icmp_ge X 88 d_RW_isLesser_43 rfl (fun h43 => ?_) (fun h43 => ?_)
        ·
          have hE := lx_end h1 h2 (Or.inr (by have := nI_le_of h43 (by omega); omega))
          refine ab_aload_n X 1 d_RW_isLesser_88 rfl rfl ?_
          refine ab_gI X fl_RW_9 d_RW_isLesser_89 (by first | assumption | decide | (show _ < 124; omega) | (show _ < 61; omega) | (show _ < 20; omega)) (a1) ?_
          refine ab_aload_n X 2 d_RW_isLesser_92 rfl rfl ?_
          refine ab_gI X fl_RW_9 d_RW_isLesser_93 (by first | assumption | decide | (show _ < 124; omega) | (show _ < 61; omega) | (show _ < 20; omega)) (b1) ?_
          refine ab_icmp_ge X 103 d_RW_isLesser_96 rfl (fun h96 => ?_) (fun h96 => ?_)
          ·
            have hv : les xs ys = false := by rw [he, hE]; exact decide_eq_false (by have := nI_le_of h96 (by omega); omega)
            refine ab_iconst (v := 0) X d_RW_isLesser_103 (by decide) ?_
            exact ab_retz X hr0 hlk (by first | exact Or.inl rfl | exact Or.inr rfl) d_RW_isLesser_104 ⟨rfl, by rw [hv]; rfl⟩
          ·
            have hv : les xs ys = true := by rw [he, hE]; exact decide_eq_true (nI_lt_of h96 (by omega))
            refine ab_iconst (v := 1) X d_RW_isLesser_99 (by decide) ?_
            refine ab_goto X 104 d_RW_isLesser_100 rfl ?_
            exact ab_retz X hr0 hlk (by first | exact Or.inl rfl | exact Or.inr rfl) d_RW_isLesser_104 ⟨rfl, by rw [hv]; rfl⟩
        ·
          have j2 := nI_lt_of h43 (by omega)
          have ix := (gd_itm bx.2 j1).lt
          have iy := (gd_itm bz.2 j2).lt
          refine ab_aload_n X 1 d_RW_isLesser_46 rfl rfl ?_
          refine ab_gR X fl_RW_22 d_RW_isLesser_47 (by first | assumption | decide | (show _ < 124; omega) | (show _ < 61; omega) | (show _ < 20; omega)) (P0.1.rw (by first | assumption | decide | omega)) ?_
          refine ab_iload_n X 0 d_RW_isLesser_50 rfl rfl ?_
          refine ab_iald X (j) ⟨rfl, rfl⟩ d_RW_isLesser_51 (by first | assumption | decide | (show _ < 124; omega) | (show _ < 61; omega) | (show _ < 20; omega)) (rfl) (by omega) (ab_ln_lt _ _) ?_
          refine ab_top (a2 j j1) ?_
          refine ab_aload_n X 2 d_RW_isLesser_52 rfl rfl ?_
          refine ab_gR X fl_RW_22 d_RW_isLesser_53 (by first | assumption | decide | (show _ < 124; omega) | (show _ < 61; omega) | (show _ < 20; omega)) (P0.1.rw (by first | assumption | decide | omega)) ?_
          refine ab_iload_n X 0 d_RW_isLesser_56 rfl rfl ?_
          refine ab_iald X (j) ⟨rfl, rfl⟩ d_RW_isLesser_57 (by first | assumption | decide | (show _ < 124; omega) | (show _ < 61; omega) | (show _ < 20; omega)) (rfl) (by omega) (ab_ln_lt _ _) ?_
          refine ab_top (b2 j j2) ?_
          refine ab_icmp_eq X 82 d_RW_isLesser_58 rfl (fun h58 => ?_) (fun h58 => ?_)
          ·
            have eq : xs.getD j 0 = ys.getD j 0 := (nI_eq (by omega) (by omega)).mp h58
            refine ab_iinc2 X 0 1 2 d_RW_isLesser_82 rfl (by decide) rfl rfl rfl rfl ?_
            refine ab_goto X 30 d_RW_isLesser_85 rfl ?_
            rw [show nI j + Int32.ofInt 1 = nI (j + 1) from nI_1 j]
            exact ih (j + 1) (by omega) (by omega) (by omega) (by rw [he, lx_eq j1 j2 eq])
          ·
            have ne : ¬ xs.getD j 0 = ys.getD j 0 := fun z => h58 (by rw [z])
            refine ab_aload_n X 1 d_RW_isLesser_61 rfl rfl ?_
            refine ab_gR X fl_RW_22 d_RW_isLesser_62 (by first | assumption | decide | (show _ < 124; omega) | (show _ < 61; omega) | (show _ < 20; omega)) (P0.1.rw (by first | assumption | decide | omega)) ?_
            refine ab_iload_n X 0 d_RW_isLesser_65 rfl rfl ?_
            refine ab_iald X (j) ⟨rfl, rfl⟩ d_RW_isLesser_66 (by first | assumption | decide | (show _ < 124; omega) | (show _ < 61; omega) | (show _ < 20; omega)) (rfl) (by omega) (ab_ln_lt _ _) ?_
            refine ab_top (a2 j j1) ?_
            refine ab_aload_n X 2 d_RW_isLesser_67 rfl rfl ?_
            refine ab_gR X fl_RW_22 d_RW_isLesser_68 (by first | assumption | decide | (show _ < 124; omega) | (show _ < 61; omega) | (show _ < 20; omega)) (P0.1.rw (by first | assumption | decide | omega)) ?_
            refine ab_iload_n X 0 d_RW_isLesser_71 rfl rfl ?_
            refine ab_iald X (j) ⟨rfl, rfl⟩ d_RW_isLesser_72 (by first | assumption | decide | (show _ < 124; omega) | (show _ < 61; omega) | (show _ < 20; omega)) (rfl) (by omega) (ab_ln_lt _ _) ?_
            refine ab_top (b2 j j2) ?_
            refine ab_icmp_ge X 80 d_RW_isLesser_73 rfl (fun h73 => ?_) (fun h73 => ?_)
            ·
              have hv : les xs ys = false := by rw [he, lx_ne j1 j2 ne]; exact decide_eq_false (by have := nI_le_of h73 (by omega); omega)
              refine ab_iconst (v := 0) X d_RW_isLesser_80 (by decide) ?_
              exact ab_retz X hr0 hlk (by first | exact Or.inl rfl | exact Or.inr rfl) d_RW_isLesser_81 ⟨rfl, by rw [hv]; rfl⟩
            ·
              have hv : les xs ys = true := by rw [he, lx_ne j1 j2 ne]; exact decide_eq_true (nI_lt_of h73 (by omega))
              refine ab_iconst (v := 1) X d_RW_isLesser_76 (by decide) ?_
              refine ab_goto X 81 d_RW_isLesser_77 rfl ?_
              exact ab_retz X hr0 hlk (by first | exact Or.inl rfl | exact Or.inr rfl) d_RW_isLesser_81 ⟨rfl, by rw [hv]; rfl⟩
  refine ab_aload_n X 0 d_RW_isLesser_0 rfl rfl ?_
  refine ab_gI X fl_RW_15 d_RW_isLesser_1 (by first | assumption | decide | (show _ < 124; omega) | (show _ < 61; omega) | (show _ < 20; omega)) (a3) ?_
  refine ab_aload_n X 1 d_RW_isLesser_4 rfl rfl ?_
  refine ab_gI X fl_RW_15 d_RW_isLesser_5 (by first | assumption | decide | (show _ < 124; omega) | (show _ < 61; omega) | (show _ < 20; omega)) (b3) ?_
  refine ab_icmp_eq X 28 d_RW_isLesser_8 rfl (fun h8 => ?_) (fun h8 => ?_)
  ·
    have eq : wgt xs = wgt ys := (nI_eq (by omega) (by omega)).mp h8
    refine ab_iconst (v := 0) X d_RW_isLesser_28 (by decide) ?_
    refine ab_istore_n2 X 0 1 d_RW_isLesser_29 rfl (by decide) rfl rfl rfl rfl ?_
    exact loop 41 0 rfl (Nat.zero_le _) (Nat.zero_le _) (by unfold les; rw [if_pos eq]; rfl)
  ·
    have ne : ¬ wgt xs = wgt ys := fun z => h8 (by rw [z])
    refine ab_aload_n X 0 d_RW_isLesser_11 rfl rfl ?_
    refine ab_gI X fl_RW_15 d_RW_isLesser_12 (by first | assumption | decide | (show _ < 124; omega) | (show _ < 61; omega) | (show _ < 20; omega)) (a3) ?_
    refine ab_aload_n X 1 d_RW_isLesser_15 rfl rfl ?_
    refine ab_gI X fl_RW_15 d_RW_isLesser_16 (by first | assumption | decide | (show _ < 124; omega) | (show _ < 61; omega) | (show _ < 20; omega)) (b3) ?_
    refine ab_icmp_ge X 26 d_RW_isLesser_19 rfl (fun h19 => ?_) (fun h19 => ?_)
    ·
      have hv : les xs ys = false := by unfold les; rw [if_neg ne]; exact decide_eq_false (by have := nI_le_of h19 (by omega); omega)
      refine ab_iconst (v := 0) X d_RW_isLesser_26 (by decide) ?_
      exact ab_retz X hr0 hlk (by first | exact Or.inl rfl | exact Or.inr rfl) d_RW_isLesser_27 ⟨rfl, by rw [hv]; rfl⟩
    ·
      have hv : les xs ys = true := by unfold les; rw [if_neg ne]; exact decide_eq_true (nI_lt_of h19 (by omega))
      refine ab_iconst (v := 1) X d_RW_isLesser_22 (by decide) ?_
      refine ab_goto X 27 d_RW_isLesser_23 rfl ?_
      exact ab_retz X hr0 hlk (by first | exact Or.inl rfl | exact Or.inr rfl) d_RW_isLesser_27 ⟨rfl, by rw [hv]; rfl⟩
set_option maxRecDepth 100000 in
set_option maxHeartbeats 1000000 in
theorem x_RW_bil (u : ab_S) (r o : Nat) (a b : Option (List Nat)) (A : Ro u r a) (B : Ro u o b) (ba : oB 40 a) (bb : oB 40 b) (hl : ab_ln 8 r = 40) (hn : r ≠ o) (h : CI u) (hr : r < 124) (ho : o < 124) : ab_C false l D ca y_RW_becomeIfLesser b_RW_becomeIfLesser 2 none 3 ab_nQ u [ab_O 4 r, ab_O 4 o] (fun u' v => (cP [4, 8] u u' ∧ rO (fun i => i = r) u u' ∧ Ro u' r (bet a b)) ∧ v = none) := by
  refine ab_C.of (by decide) (Nat.le_of_ble_eq_true rfl) ?_
  intro p e s m args below meth c ad X hZ hr0 hlk
  have P0 : cP [4, 8] u u := cQ.rf h
  cases b with
  | none =>
    have z1 : u.1 4 o 3 = 0 := B
    refine ab_aload_n X 1 d_RW_becomeIfLesser_0 rfl rfl ?_
    refine ab_gI X fl_RW_18 d_RW_becomeIfLesser_1 (by first | assumption | decide | (show _ < 124; omega) | (show _ < 61; omega) | (show _ < 20; omega)) (z1) ?_
    refine ab_if_eq X 27 d_RW_becomeIfLesser_4 rfl (fun _ => ?_) (fun hb => absurd (rfl) hb)
    exact ab_retv X hr0 hlk d_RW_becomeIfLesser_27 ⟨⟨P0, rO.rf, A⟩, rfl⟩
  | some ys =>
    have B1 : Rw u o ys := B
    cases a with
    | none =>
      have z2 : u.1 4 r 3 = 0 := A
      refine ab_aload_n X 1 d_RW_becomeIfLesser_0 rfl rfl ?_
      refine ab_gI X fl_RW_18 d_RW_becomeIfLesser_1 (by first | assumption | decide | (show _ < 124; omega) | (show _ < 61; omega) | (show _ < 20; omega)) (B1.2.2.2) ?_
      refine ab_if_eq X 27 d_RW_becomeIfLesser_4 rfl (fun hb => absurd hb ((by decide))) (fun _ => ?_)
      refine ab_aload_n X 0 d_RW_becomeIfLesser_7 rfl rfl ?_
      refine ab_gI X fl_RW_18 d_RW_becomeIfLesser_8 (by first | assumption | decide | (show _ < 124; omega) | (show _ < 61; omega) | (show _ < 20; omega)) (z2) ?_
      refine ab_if_eq X 22 d_RW_becomeIfLesser_11 rfl (fun _ => ?_) (fun hb => absurd (rfl) hb)
      refine ab_aload_n X 0 d_RW_becomeIfLesser_22 rfl rfl ?_
      refine ab_aload_n X 1 d_RW_becomeIfLesser_23 rfl rfl ?_
      refine ab_callV (as := [ab_O 4 o]) X (fun h => by cases h) (x_RW_become u r o (some ys) B hn (fun zs e => by rw [hl]; exact (bb zs e).1) h hr ho) lk_RW_41 d_RW_becomeIfLesser_24 rfl rfl (by first | assumption | decide | (show _ < 124; omega) | (show _ < 61; omega) | (show _ < 20; omega)) ⟨by first | exact Nat.le_of_ble_eq_true rfl | (simp only [ab_rm]; omega), by first | exact Nat.le_of_ble_eq_true rfl | (simp only [ab_rm]; omega)⟩ ⟨by first | exact Nat.le_of_ble_eq_true rfl | (simp only [ab_rm]; omega), by first | exact Nat.le_of_ble_eq_true rfl | (simp only [ab_rm]; omega)⟩ (Nat.le_of_ble_eq_true rfl) (fun u24 r24 h24 => ?_)
      obtain ⟨⟨q24, o24, r24⟩, rfl⟩ := h24
      have P24 := P0.trans q24 (by decide)
      exact ab_retv X hr0 hlk d_RW_becomeIfLesser_27 ⟨⟨P24, o24, r24⟩, rfl⟩
    | some xs =>
      have A1 : Rw u r xs := A
      by_cases hv : les ys xs = true
      · have eb : bet (some xs) (some ys) = some ys := if_pos hv
        refine ab_aload_n X 1 d_RW_becomeIfLesser_0 rfl rfl ?_
        refine ab_gI X fl_RW_18 d_RW_becomeIfLesser_1 (by first | assumption | decide | (show _ < 124; omega) | (show _ < 61; omega) | (show _ < 20; omega)) (B1.2.2.2) ?_
        refine ab_if_eq X 27 d_RW_becomeIfLesser_4 rfl (fun hb => absurd hb ((by decide))) (fun _ => ?_)
        refine ab_aload_n X 0 d_RW_becomeIfLesser_7 rfl rfl ?_
        refine ab_gI X fl_RW_18 d_RW_becomeIfLesser_8 (by first | assumption | decide | (show _ < 124; omega) | (show _ < 61; omega) | (show _ < 20; omega)) (A1.2.2.2) ?_
        refine ab_if_eq X 22 d_RW_becomeIfLesser_11 rfl (fun hb => absurd hb ((by decide))) (fun _ => ?_)
        refine ab_aload_n X 1 d_RW_becomeIfLesser_14 rfl rfl ?_
        refine ab_aload_n X 0 d_RW_becomeIfLesser_15 rfl rfl ?_
        refine ab_callV (as := [ab_O 4 r]) X (fun h => by cases h) (t_RW_isLesserX u o r ys xs B1 A1 (bb ys rfl) (ba xs rfl) h ho hr) lk_RW_37 d_RW_becomeIfLesser_16 rfl rfl (by first | assumption | decide | (show _ < 124; omega) | (show _ < 61; omega) | (show _ < 20; omega)) ⟨by first | exact Nat.le_of_ble_eq_true rfl | (simp only [ab_rm]; omega), by first | exact Nat.le_of_ble_eq_true rfl | (simp only [ab_rm]; omega)⟩ ⟨by first | exact Nat.le_of_ble_eq_true rfl | (simp only [ab_rm]; omega), by first | exact Nat.le_of_ble_eq_true rfl | (simp only [ab_rm]; omega)⟩ (Nat.le_of_ble_eq_true rfl) (fun u16 r16 h16 => ?_)
        obtain ⟨e16, rfl⟩ := h16
        subst u16
        rw [if_pos hv]
        refine ab_if_eq X 27 d_RW_becomeIfLesser_19 rfl (fun hb => absurd hb ((by decide))) (fun _ => ?_)
        refine ab_aload_n X 0 d_RW_becomeIfLesser_22 rfl rfl ?_
        refine ab_aload_n X 1 d_RW_becomeIfLesser_23 rfl rfl ?_
        refine ab_callV (as := [ab_O 4 o]) X (fun h => by cases h) (x_RW_become u r o (some ys) B hn (fun zs e => by rw [hl]; exact (bb zs e).1) h hr ho) lk_RW_41 d_RW_becomeIfLesser_24 rfl rfl (by first | assumption | decide | (show _ < 124; omega) | (show _ < 61; omega) | (show _ < 20; omega)) ⟨by first | exact Nat.le_of_ble_eq_true rfl | (simp only [ab_rm]; omega), by first | exact Nat.le_of_ble_eq_true rfl | (simp only [ab_rm]; omega)⟩ ⟨by first | exact Nat.le_of_ble_eq_true rfl | (simp only [ab_rm]; omega), by first | exact Nat.le_of_ble_eq_true rfl | (simp only [ab_rm]; omega)⟩ (Nat.le_of_ble_eq_true rfl) (fun u24 r24 h24 => ?_)
        obtain ⟨⟨q24, o24, r24⟩, rfl⟩ := h24
        have P24 := P0.trans q24 (by decide)
        exact ab_retv X hr0 hlk d_RW_becomeIfLesser_27 ⟨⟨P24, o24, by rw [eb]; exact r24⟩, rfl⟩
      · have eb : bet (some xs) (some ys) = some xs := if_neg hv
        refine ab_aload_n X 1 d_RW_becomeIfLesser_0 rfl rfl ?_
        refine ab_gI X fl_RW_18 d_RW_becomeIfLesser_1 (by first | assumption | decide | (show _ < 124; omega) | (show _ < 61; omega) | (show _ < 20; omega)) (B1.2.2.2) ?_
        refine ab_if_eq X 27 d_RW_becomeIfLesser_4 rfl (fun hb => absurd hb ((by decide))) (fun _ => ?_)
        refine ab_aload_n X 0 d_RW_becomeIfLesser_7 rfl rfl ?_
        refine ab_gI X fl_RW_18 d_RW_becomeIfLesser_8 (by first | assumption | decide | (show _ < 124; omega) | (show _ < 61; omega) | (show _ < 20; omega)) (A1.2.2.2) ?_
        refine ab_if_eq X 22 d_RW_becomeIfLesser_11 rfl (fun hb => absurd hb ((by decide))) (fun _ => ?_)
        refine ab_aload_n X 1 d_RW_becomeIfLesser_14 rfl rfl ?_
        refine ab_aload_n X 0 d_RW_becomeIfLesser_15 rfl rfl ?_
        refine ab_callV (as := [ab_O 4 r]) X (fun h => by cases h) (t_RW_isLesserX u o r ys xs B1 A1 (bb ys rfl) (ba xs rfl) h ho hr) lk_RW_37 d_RW_becomeIfLesser_16 rfl rfl (by first | assumption | decide | (show _ < 124; omega) | (show _ < 61; omega) | (show _ < 20; omega)) ⟨by first | exact Nat.le_of_ble_eq_true rfl | (simp only [ab_rm]; omega), by first | exact Nat.le_of_ble_eq_true rfl | (simp only [ab_rm]; omega)⟩ ⟨by first | exact Nat.le_of_ble_eq_true rfl | (simp only [ab_rm]; omega), by first | exact Nat.le_of_ble_eq_true rfl | (simp only [ab_rm]; omega)⟩ (Nat.le_of_ble_eq_true rfl) (fun u16 r16 h16 => ?_)
        obtain ⟨e16, rfl⟩ := h16
        subst u16
        rw [if_neg hv]
        refine ab_if_eq X 27 d_RW_becomeIfLesser_19 rfl (fun _ => ?_) (fun hb => absurd (rfl) hb)
        exact ab_retv X hr0 hlk d_RW_becomeIfLesser_27 ⟨⟨P0, rO.rf, by rw [eb]; exact A⟩, rfl⟩
end SaSRow

