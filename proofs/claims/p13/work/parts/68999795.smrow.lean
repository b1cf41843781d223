/-! The reference's rows, item by item. -/
/-- the row in the making: at most m items, at most c times none; none, or its items -/
def mr (u : ab_S) (m c : Nat) (o : Option (List Nat)) : Prop := ∃ r n, u.1 17 0 26 = nI r ∧ u.1 17 0 27 = nI n ∧ r ≤ m ∧ n ≤ 100000 * c + 9 * r ∧
  match o with
  | none => 100000 ≤ n
  | some xs => r = xs.length ∧ n = wgt xs ∧ ∀ i, i < xs.length → u.1 18 15 i = nI (xs.getD i 0)
/-- the best row so far -/
def mBs (u : ab_S) (o : Option (List Nat)) : Prop :=
  match o with
  | none => u.1 17 0 29 = -1 ∧ u.1 17 0 30 = 100000
  | some xs => u.1 17 0 29 = nI xs.length ∧ u.1 17 0 30 = nI (wgt xs) ∧ ∀ i, i < xs.length → u.1 18 16 i = nI (xs.getD i 0)
/-- a form's lightest row -/
def ms (u : ab_S) (f : Nat) (o : Option (List Nat)) : Prop :=
  match o with
  | none => u.1 18 11 f = -1
  | some xs => u.1 18 11 f = nI xs.length ∧ u.1 18 12 f = nI (wgt xs) ∧ ∀ i, i < xs.length → u.1 18 10 (50 * f + i) = nI (xs.getD i 0)
/-- what refuses a part's form D -/
def md (u : ab_S) (p : Nat) (xs : List Nat) : Prop := u.1 18 14 p = nI xs.length ∧ ∀ i, i < xs.length → u.1 18 13 (50 * p + i) = nI (xs.getD i 0)
theorem mr.fr {F : List Nat} {u u' : ab_S} {m c : Nat} {o : Option (List Nat)} (h : mr u m c o) (g : gP F u u') (h26 : ¬ 26 ∈ F) (h27 : ¬ 27 ∈ F) (h15 : ¬ 100 + 15 ∈ F) : mr u' m c o := by
  obtain ⟨r, n, a1, a2, a3, a4, a5⟩ := h
  refine ⟨r, n, g.fi h26 a1, g.fi h27 a2, a3, a4, ?_⟩
  cases o with
  | none => exact a5
  | some xs => exact ⟨a5.1, a5.2.1, fun i hi => g.ai h15 (a5.2.2 i hi)⟩
theorem mBs.fr {F : List Nat} {u u' : ab_S} {o : Option (List Nat)} (h : mBs u o) (g : gP F u u') (h29 : ¬ 29 ∈ F) (h30 : ¬ 30 ∈ F) (h16 : ¬ 100 + 16 ∈ F) : mBs u' o := by
  cases o with
  | none => exact ⟨g.fi h29 h.1, g.fi h30 h.2⟩
  | some xs => exact ⟨g.fi h29 h.1, g.fi h30 h.2.1, fun i hi => g.ai h16 (h.2.2 i hi)⟩
theorem ms.fr {F : List Nat} {u u' : ab_S} {f : Nat} {o : Option (List Nat)} (h : ms u f o) (g : gP F u u') (h10 : ¬ 100 + 10 ∈ F) (h11 : ¬ 100 + 11 ∈ F) (h12 : ¬ 100 + 12 ∈ F) : ms u' f o := by
  cases o with
  | none => exact g.ai h11 h
  | some xs => exact ⟨g.ai h11 h.1, g.ai h12 h.2.1, fun i hi => g.ai h10 (h.2.2 i hi)⟩
theorem md.fr {F : List Nat} {u u' : ab_S} {p : Nat} {xs : List Nat} (h : md u p xs) (g : gP F u u') (h13 : ¬ 100 + 13 ∈ F) (h14 : ¬ 100 + 14 ∈ F) : md u' p xs := ⟨g.ai h14 h.1, fun i hi => g.ai h13 (h.2 i hi)⟩
theorem jn_assoc (o : Option (List Nat)) (xs ys : List Nat) : jn (jn o (some xs)) (some ys) = jn o (some (xs ++ ys)) := by
  cases o with
  | none => rfl
  | some a => show some (a ++ xs ++ ys) = some (a ++ (xs ++ ys)); rw [List.append_assoc]
theorem jn_r (o : Option (List Nat)) : jn o (some []) = o := by
  cases o with
  | none => rfl
  | some a => show some (a ++ []) = some a; rw [List.append_nil]
theorem tk_1 {xs : List Nat} {j : Nat} (h : j < xs.length) : xs.take j ++ [xs.getD j 0] = xs.take (j + 1) := by
  rw [List.getD_eq_getElem?_getD, List.getElem?_eq_getElem h]
  exact (List.take_succ_eq_append_getElem h).symm
section SaSMRow
variable {l : Launch} {D : va_G} {ca : Nat → ClassId}
set_option maxRecDepth 100000 in
set_option maxHeartbeats 1000000 in
theorem t_MO_weightX (u : ab_S) (a : Nat) (ha : itm a) : ab_C false l D ca y_MO_weightOf b_MO_weightOf 1 (some FieldType.int) 0 ab_nQ u [ab_I (nI a)] (fun u' v => u' = u ∧ v = some (ab_I (nI (wo a)))) := by
  refine ab_C.of (by decide) (Nat.le_of_ble_eq_true rfl) ?_
  intro p e s m args below meth c ad X hZ hr0 hlk
  have hl := ha.lt
  unfold itm at ha
  refine ab_iload_n X 0 d_MO_weightOf_0 rfl rfl ?_
  refine ab_iconst (v := 2) X d_MO_weightOf_1 (by decide) ?_
  refine ab_icmp_ge X 9 d_MO_weightOf_2 rfl (fun h2 => ?_) (fun h2 => ?_)
  ·
    have a2 : 2 ≤ a := nI_le_of (b := 2) h2 (by decide)
    refine ab_iload_n X 0 d_MO_weightOf_9 rfl rfl ?_
    refine ab_bipush (v := 20) X d_MO_weightOf_10 (by decide) ?_
    refine ab_icmp_ge X 20 d_MO_weightOf_12 rfl (fun h12 => ?_) (fun h12 => ?_)
    ·
      have a3 : 20 ≤ a := nI_le_of (b := 20) h12 (by decide)
      refine ab_iconst (v := 5) X d_MO_weightOf_20 (by decide) ?_
      exact ab_reti X hr0 hlk d_MO_weightOf_21 ⟨rfl, congrArg (fun z => some (ab_I z)) (show _ = nI (wo a) by first | (rw [show wo a = 1 from (if_neg (by omega)).trans (if_neg (by omega))]; rfl) | (rw [show wo a = 9 from (if_neg (by omega)).trans (if_pos (by omega))]; rfl) | (rw [show wo a = 5 from if_pos (by omega)]; rfl))⟩
    ·
      have a3 : a < 20 := nI_lt_of (b := 20) h12 (by omega)
      refine ab_bipush (v := 9) X d_MO_weightOf_15 (by decide) ?_
      refine ab_goto X 21 d_MO_weightOf_17 rfl ?_
      exact ab_reti X hr0 hlk d_MO_weightOf_21 ⟨rfl, congrArg (fun z => some (ab_I z)) (show _ = nI (wo a) by first | (rw [show wo a = 1 from (if_neg (by omega)).trans (if_neg (by omega))]; rfl) | (rw [show wo a = 9 from (if_neg (by omega)).trans (if_pos (by omega))]; rfl) | (rw [show wo a = 5 from if_pos (by omega)]; rfl))⟩
  ·
    have a2 : a < 2 := nI_lt_of (b := 2) h2 (by omega)
    refine ab_iconst (v := 1) X d_MO_weightOf_5 (by decide) ?_
    refine ab_goto X 21 d_MO_weightOf_6 rfl ?_
    exact ab_reti X hr0 hlk d_MO_weightOf_21 ⟨rfl, congrArg (fun z => some (ab_I z)) (show _ = nI (wo a) by first | (rw [show wo a = 1 from (if_neg (by omega)).trans (if_neg (by omega))]; rfl) | (rw [show wo a = 9 from (if_neg (by omega)).trans (if_pos (by omega))]; rfl) | (rw [show wo a = 5 from if_pos (by omega)]; rfl))⟩
set_option maxRecDepth 100000 in
set_option maxHeartbeats 1000000 in
theorem x_MO_newRow (u : ab_S) (h : mR u.2.1) : ab_C false l D ca y_MO_newRow b_MO_newRow 1 none 0 ab_nQ u [ab_O 17 0] (fun u' v => (gP [26, 27, 115] u u' ∧ mr u' 0 0 (some [])) ∧ v = none) := by
  refine ab_C.of (by decide) (Nat.le_of_ble_eq_true rfl) ?_
  intro p e s m args below meth c ad X hZ hr0 hlk
  have P0 : gP [26, 27, 115] u u := gP.rf h
  refine ab_aload_n X 0 d_MO_newRow_0 rfl rfl ?_
  refine ab_iconst (v := 0) X d_MO_newRow_1 (by decide) ?_
  refine ab_putI X fp_MO_90 d_MO_newRow_2 (by first | assumption | decide | (show _ < 124; omega) | (show _ < 61; omega) | (show _ < 20; omega)) rfl rfl ?_
  refine ab_gen (fun u2 e2 => ?_)
  have P2 : gP [26, 27, 115] u u2 := by rw [e2]; exact P0.ui rfl (by decide)
  refine ab_aload_n X 0 d_MO_newRow_5 rfl rfl ?_
  refine ab_iconst (v := 0) X d_MO_newRow_6 (by decide) ?_
  refine ab_putI X fp_MO_93 d_MO_newRow_7 (by first | assumption | decide | (show _ < 124; omega) | (show _ < 61; omega) | (show _ < 20; omega)) rfl rfl ?_
  refine ab_gen (fun u7 e7 => ?_)
  have P7 : gP [26, 27, 115] u u7 := by rw [e7]; exact P2.ui rfl (by decide)
  exact ab_retv X hr0 hlk d_MO_newRow_10 ⟨⟨P7, 0, 0, by rw [e7, e2]; simp [ab_up]; rfl, by rw [e7]; simp [ab_up]; rfl, Nat.le_refl _, Nat.zero_le _, rfl, rfl, fun i hi => absurd hi (Nat.not_lt_zero i)⟩, rfl⟩
set_option maxRecDepth 100000 in
set_option maxHeartbeats 1000000 in
theorem x_MO_item1 (u : ab_S) (a m1 c1 : Nat) (o : Option (List Nat)) (h : mR u.2.1) (A : mr u m1 c1 o) (ha : itm a) (hm : m1 < 64) (hc : c1 ≤ 10) : ab_C false l D ca y_MO_item1 b_MO_item1 2 none 1 ab_nQ u [ab_O 17 0, ab_I (nI a)] (fun u' v => (gP [26, 27, 115] u u' ∧ mr u' (m1 + 1) c1 (jn o (some [a]))) ∧ v = none) := by
  refine ab_C.of (by decide) (Nat.le_of_ble_eq_true rfl) ?_
  intro p e s m args below meth c ad X hZ hr0 hlk
  have P0 : gP [26, 27, 115] u u := gP.rf h
  have wl := wo_le a
  obtain ⟨r, n, a1, a2, a3, a4, a5⟩ := A
  refine ab_aload_n X 0 d_MO_item1_0 rfl rfl ?_
  refine ab_gR X fl_MO_87 d_MO_item1_1 (by first | assumption | decide | (show _ < 124; omega) | (show _ < 61; omega) | (show _ < 20; omega)) (P0.1.mo25) ?_
  refine ab_aload_n X 0 d_MO_item1_4 rfl rfl ?_
  refine ab_gI X fl_MO_90 d_MO_item1_5 (by first | assumption | decide | (show _ < 124; omega) | (show _ < 61; omega) | (show _ < 20; omega)) (a1) ?_
  refine ab_iload_n X 1 d_MO_item1_8 rfl rfl ?_
  refine ab_iast X (r) ⟨rfl, rfl⟩ d_MO_item1_9 (by first | assumption | decide | (show _ < 124; omega) | (show _ < 61; omega) | (show _ < 20; omega)) (rfl) (show r < 64 by omega) (ab_ln_lt _ _) ?_
  refine ab_gen (fun u9 e9 => ?_)
  have P9 : gP [26, 27, 115] u u9 := by rw [e9]; exact P0.ui rfl (by decide)
  refine ab_aload_n X 0 d_MO_item1_10 rfl rfl ?_
  refine ab_dup X d_MO_item1_11 rfl ?_
  refine ab_gI X fl_MO_90 d_MO_item1_12 (by first | assumption | decide | (show _ < 124; omega) | (show _ < 61; omega) | (show _ < 20; omega)) ((show _ = nI r by rw [e9]; exact (ui_n _ (by omega)).trans a1)) ?_
  refine ab_iconst (v := 1) X d_MO_item1_15 (by decide) ?_
  refine ab_iadd X d_MO_item1_16 ?_
  refine ab_top (nI_1 _) ?_
  refine ab_putI X fp_MO_90 d_MO_item1_17 (by first | assumption | decide | (show _ < 124; omega) | (show _ < 61; omega) | (show _ < 20; omega)) rfl rfl ?_
  refine ab_gen (fun u17 e17 => ?_)
  have P17 : gP [26, 27, 115] u u17 := by rw [e17]; exact P9.ui rfl (by decide)
  refine ab_aload_n X 0 d_MO_item1_20 rfl rfl ?_
  refine ab_dup X d_MO_item1_21 rfl ?_
  refine ab_gI X fl_MO_93 d_MO_item1_22 (by first | assumption | decide | (show _ < 124; omega) | (show _ < 61; omega) | (show _ < 20; omega)) ((show _ = nI n by rw [e17, e9]; exact (ui_n _ (by omega)).trans ((ui_n _ (by omega)).trans a2))) ?_
  refine ab_iload_n X 1 d_MO_item1_25 rfl rfl ?_
  refine ab_callS (as := [ab_I (nI a)]) X (fun h => by cases h) (t_MO_weightX u17 a ha) ls_MO_260 d_MO_item1_26 rfl rfl ⟨by first | exact Nat.le_of_ble_eq_true rfl | (simp only [ab_rm]; omega), by first | exact Nat.le_of_ble_eq_true rfl | (simp only [ab_rm]; omega)⟩ ⟨by first | exact Nat.le_of_ble_eq_true rfl | (simp only [ab_rm]; omega), by first | exact Nat.le_of_ble_eq_true rfl | (simp only [ab_rm]; omega)⟩ (Nat.le_of_ble_eq_true rfl) (fun u26 r26 h26 => ?_)
  obtain ⟨e26, rfl⟩ := h26
  subst u26
  refine ab_iadd X d_MO_item1_29 ?_
  refine ab_top (nI_add n (wo a)) ?_
  refine ab_putI X fp_MO_93 d_MO_item1_30 (by first | assumption | decide | (show _ < 124; omega) | (show _ < 61; omega) | (show _ < 20; omega)) rfl rfl ?_
  refine ab_gen (fun u30 e30 => ?_)
  have P30 : gP [26, 27, 115] u u30 := by rw [e30]; exact P17.ui rfl (by decide)
  refine ab_retv X hr0 hlk d_MO_item1_33 ⟨⟨P30, r + 1, n + wo a, by rw [e30, e17]; exact (ui_n _ (by omega)).trans (ui_s _), by rw [e30]; exact ui_s _, by omega, by omega, ?_⟩, rfl⟩
  cases o with
  | none => exact Nat.le_trans a5 (Nat.le_add_right _ _)
  | some xs =>
    obtain ⟨b1, b2, b3⟩ := a5
    refine ⟨by rw [List.length_append, b1]; rfl, by rw [wgt_app, b2]; rfl, fun i hi => ?_⟩
    rw [List.length_append] at hi
    have hi : i < xs.length + 1 := hi
    rw [e30, e17, e9]
    by_cases z : i = xs.length
    · rw [z, ← b1]; exact (ui_n _ (by omega)).trans ((ui_n _ (by omega)).trans ((ui_s _).trans (by rw [b1, show xs.length = xs.length + 0 from rfl, gd_app]; rfl)))
    · exact (ui_n _ (by omega)).trans ((ui_n _ (by omega)).trans ((ui_n _ (by omega)).trans ((b3 i (by omega)).trans (by rw [gd_appl (by omega)]))))
set_option maxRecDepth 100000 in
set_option maxHeartbeats 1000000 in
theorem x_MO_no (u : ab_S) (g m1 c1 : Nat) (o : Option (List Nat)) (xs : List Nat) (h : mR u.2.1) (A : mr u m1 c1 o) (B : md u g xs) (hx : xs.length ≤ 50 ∧ ∀ x, x ∈ xs → itm x) (hg : g < 24) (hm : m1 + xs.length ≤ 64) (hc : c1 ≤ 10) : ab_C false l D ca y_MO_no b_MO_no 3 none 2 ab_nQ u [ab_O 17 0, ab_I (nI g)] (fun u' v => (gP [26, 27, 115] u u' ∧ mr u' (m1 + xs.length) c1 (jn o (some xs))) ∧ v = none) := by
  refine ab_C.of (by decide) (Nat.le_of_ble_eq_true rfl) ?_
  intro p e s m args below meth c ad X hZ hr0 hlk
  have P0 : gP [26, 27, 115] u u := gP.rf h
  obtain ⟨b1, b2⟩ := B
  have loop : ∀ (k j : Nat) (u1 : ab_S), k + j = xs.length → gP [26, 27, 115] u u1 → mr u1 (m1 + j) c1 (jn o (some (xs.take j))) → ab_J p l e (ab_rm 2 0 0) s m args below meth c (MQ below (ab_Q D ca ad ab_nQ s.heap.size (fun u' v => (gP [26, 27, 115] u u' ∧ mr u' (m1 + xs.length) c1 (jn o (some xs))) ∧ v = none)) args s 0 0 (ab_A ad ab_nQ s.heap.size)) D ca (ab_A ad ab_nQ s.heap.size) s.heap 3 0 0 ad ab_nQ u1 2 [(2, ab_I (nI j)), (0, ab_O 17 0), (1, ab_I (nI g))] [] := by
    intro k
    induction k with
    | zero =>
      intro j u1 hj P1 A1
      obtain rfl : j = xs.length := by omega
      rw [List.take_length] at A1
      refine ab_iload_n X 0 d_MO_no_2 rfl rfl ?_
      refine ab_aload_n X 1 d_MO_no_3 rfl rfl ?_
      refine ab_gR X fl_MO_84 d_MO_no_4 (by first | assumption | decide | (show _ < 124; omega) | (show _ < 61; omega) | (show _ < 20; omega)) (P1.1.mo24) ?_
      refine ab_iload_n X 2 d_MO_no_7 rfl rfl ?_
      refine ab_iald X (g) ⟨rfl, rfl⟩ d_MO_no_8 (by first | assumption | decide | (show _ < 124; omega) | (show _ < 61; omega) | (show _ < 20; omega)) (rfl) (show g < 24 by omega) (ab_ln_lt _ _) ?_
      refine ab_top (P1.ai (by decide) b1) ?_
      refine ab_icmp_ge X 33 d_MO_no_9 rfl (fun _ => ?_) (fun hb => absurd ((nI_le (by omega) (by omega))) hb)
      exact ab_retv X hr0 hlk d_MO_no_33 ⟨⟨P1, A1⟩, rfl⟩
    | succ k ih =>
      intro j u1 hj P1 A1
      have hj1 : j < xs.length := by omega
      refine ab_iload_n X 0 d_MO_no_2 rfl rfl ?_
      refine ab_aload_n X 1 d_MO_no_3 rfl rfl ?_
      refine ab_gR X fl_MO_84 d_MO_no_4 (by first | assumption | decide | (show _ < 124; omega) | (show _ < 61; omega) | (show _ < 20; omega)) (P1.1.mo24) ?_
      refine ab_iload_n X 2 d_MO_no_7 rfl rfl ?_
      refine ab_iald X (g) ⟨rfl, rfl⟩ d_MO_no_8 (by first | assumption | decide | (show _ < 124; omega) | (show _ < 61; omega) | (show _ < 20; omega)) (rfl) (show g < 24 by omega) (ab_ln_lt _ _) ?_
      refine ab_top (P1.ai (by decide) b1) ?_
      refine ab_icmp_ge X 33 d_MO_no_9 rfl (fun hb => absurd hb ((nI_ge (by omega) (by omega)))) (fun _ => ?_)
      refine ab_aload_n X 1 d_MO_no_12 rfl rfl ?_
      refine ab_aload_n X 1 d_MO_no_13 rfl rfl ?_
      refine ab_gR X fl_MO_81 d_MO_no_14 (by first | assumption | decide | (show _ < 124; omega) | (show _ < 61; omega) | (show _ < 20; omega)) (P1.1.mo23) ?_
      refine ab_bipush (v := 50) X d_MO_no_17 (by decide) ?_
      refine ab_iload_n X 2 d_MO_no_19 rfl rfl ?_
      refine ab_imul X d_MO_no_20 ?_
      refine ab_iload_n X 0 d_MO_no_21 rfl rfl ?_
      refine ab_iadd X d_MO_no_22 ?_
      refine ab_iald X (50 * g + j) ⟨rfl, rfl⟩ d_MO_no_23 (by first | assumption | decide | (show _ < 124; omega) | (show _ < 61; omega) | (show _ < 20; omega)) (nI_50a g j) (show 50 * g + j < 1200 by omega) (ab_ln_lt _ _) ?_
      refine ab_top (P1.ai (by decide) (b2 j hj1)) ?_
      refine ab_callV (as := [ab_I (nI (xs.getD j 0))]) X (fun h => by cases h) (x_MO_item1 u1 (xs.getD j 0) (m1 + j) c1 (jn o (some (xs.take j))) P1.1 A1 (gd_itm hx.2 hj1) (by omega) hc) lk_MO_264 d_MO_no_24 rfl rfl (by first | assumption | decide | (show _ < 124; omega) | (show _ < 61; omega) | (show _ < 20; omega)) ⟨by first | exact Nat.le_of_ble_eq_true rfl | (simp only [ab_rm]; omega), by first | exact Nat.le_of_ble_eq_true rfl | (simp only [ab_rm]; omega)⟩ ⟨by first | exact Nat.le_of_ble_eq_true rfl | (simp only [ab_rm]; omega), by first | exact Nat.le_of_ble_eq_true rfl | (simp only [ab_rm]; omega)⟩ (Nat.le_of_ble_eq_true rfl) (fun u24 r24 h24 => ?_)
      obtain ⟨⟨q24, r24⟩, rfl⟩ := h24
      have P24 := P1.trans q24 (by decide)
      refine ab_iinc2 X 0 1 2 d_MO_no_27 rfl (by decide) rfl rfl rfl rfl ?_
      refine ab_goto X 2 d_MO_no_30 rfl ?_
      rw [show nI j + Int32.ofInt 1 = nI (j + 1) from nI_1 j]
      rw [jn_assoc, tk_1 hj1] at r24
      exact ih (j + 1) _ (by omega) P24 r24
  refine ab_iconst (v := 0) X d_MO_no_0 (by decide) ?_
  refine ab_istore_n2 X 0 1 d_MO_no_1 rfl (by decide) rfl rfl rfl rfl ?_
  exact loop xs.length 0 _ (by omega) P0 (by rw [List.take_zero, jn_r]; exact A)
set_option maxRecDepth 100000 in
set_option maxHeartbeats 1000000 in
theorem x_MO_yes (u : ab_S) (f m1 c1 q : Nat) (o s1 : Option (List Nat)) (h : mR u.2.1) (A : mr u m1 c1 o) (B : ms u f s1) (hx : oB q s1) (hq : q ≤ 50) (hf : f < 72) (hm : m1 + q ≤ 64) (hc : c1 < 10) : ab_C false l D ca y_MO_yes b_MO_yes 3 none 2 ab_nQ u [ab_O 17 0, ab_I (nI f)] (fun u' v => (gP [26, 27, 115] u u' ∧ mr u' (m1 + q) (c1 + 1) (jn o s1)) ∧ v = none) := by
  refine ab_C.of (by decide) (Nat.le_of_ble_eq_true rfl) ?_
  intro p e s m args below meth c ad X hZ hr0 hlk
  have P0 : gP [26, 27, 115] u u := gP.rf h
  obtain es1 | ⟨xs, es1⟩ : s1 = none ∨ ∃ xs, s1 = some xs := by
    cases s1 with
    | none => exact Or.inl rfl
    | some xs => exact Or.inr ⟨xs, rfl⟩
  · rw [es1] at B hx
    have b1 : u.1 18 11 f = -1 := B
    obtain ⟨r, n, a1, a2, a3, a4, a5⟩ := A
    have en : jn o none = none := by cases o <;> rfl
    refine ab_aload_n X 0 d_MO_yes_0 rfl rfl ?_
    refine ab_gR X fl_MO_75 d_MO_yes_1 (by first | assumption | decide | (show _ < 124; omega) | (show _ < 61; omega) | (show _ < 20; omega)) (P0.1.mo21) ?_
    refine ab_iload_n X 1 d_MO_yes_4 rfl rfl ?_
    refine ab_iald X (f) ⟨rfl, rfl⟩ d_MO_yes_5 (by first | assumption | decide | (show _ < 124; omega) | (show _ < 61; omega) | (show _ < 20; omega)) (rfl) (show f < 72 by omega) (ab_ln_lt _ _) ?_
    refine ab_top b1 ?_
    refine ab_if_ge X 21 d_MO_yes_6 rfl (fun hb => absurd hb ((by decide))) (fun _ => ?_)
    refine ab_aload_n X 0 d_MO_yes_9 rfl rfl ?_
    refine ab_dup X d_MO_yes_10 rfl ?_
    refine ab_gI X fl_MO_93 d_MO_yes_11 (by first | assumption | decide | (show _ < 124; omega) | (show _ < 61; omega) | (show _ < 20; omega)) (a2) ?_
    refine ab_ldcw X (v := 100000) (ab_in 1248 (by decide +kernel) (by decide +kernel)) d_MO_yes_14 ?_
    refine ab_iadd X d_MO_yes_17 ?_
    refine ab_top (nI_add n 100000) ?_
    refine ab_putI X fp_MO_93 d_MO_yes_18 (by first | assumption | decide | (show _ < 124; omega) | (show _ < 61; omega) | (show _ < 20; omega)) rfl rfl ?_
    refine ab_gen (fun u18 e18 => ?_)
    have P18 : gP [26, 27, 115] u u18 := by rw [e18]; exact P0.ui rfl (by decide)
    refine ab_iconst (v := 0) X d_MO_yes_21 (by decide) ?_
    refine ab_istore_n2 X 0 1 d_MO_yes_22 rfl (by decide) rfl rfl rfl rfl ?_
    refine ab_iload_n X 0 d_MO_yes_23 rfl rfl ?_
    refine ab_aload_n X 1 d_MO_yes_24 rfl rfl ?_
    refine ab_gR X fl_MO_75 d_MO_yes_25 (by first | assumption | decide | (show _ < 124; omega) | (show _ < 61; omega) | (show _ < 20; omega)) (P18.1.mo21) ?_
    refine ab_iload_n X 2 d_MO_yes_28 rfl rfl ?_
    refine ab_iald X (f) ⟨rfl, rfl⟩ d_MO_yes_29 (by first | assumption | decide | (show _ < 124; omega) | (show _ < 61; omega) | (show _ < 20; omega)) (rfl) (show f < 72 by omega) (ab_ln_lt _ _) ?_
    refine ab_top (P18.ai (by decide) b1) ?_
    refine ab_icmp_ge X 54 d_MO_yes_30 rfl (fun _ => ?_) (fun hb => absurd ((by decide)) hb)
    exact ab_retv X hr0 hlk d_MO_yes_54 ⟨⟨P18, by rw [es1, en]; exact ⟨r, n + 100000, by rw [e18]; exact (ui_n _ (by omega)).trans a1, by rw [e18]; exact ui_s _, by omega, by omega, Nat.le_add_left _ _⟩⟩, rfl⟩
  · rw [es1] at B hx
    obtain ⟨b1, b2, b3⟩ : u.1 18 11 f = nI xs.length ∧ u.1 18 12 f = nI (wgt xs) ∧ ∀ i, i < xs.length → u.1 18 10 (50 * f + i) = nI (xs.getD i 0) := B
    obtain ⟨x1, x2⟩ := hx xs rfl
    have loop : ∀ (k j : Nat) (u1 : ab_S), k + j = xs.length → gP [26, 27, 115] u u1 → mr u1 (m1 + j) c1 (jn o (some (xs.take j))) → ab_J p l e (ab_rm 2 0 0) s m args below meth c (MQ below (ab_Q D ca ad ab_nQ s.heap.size (fun u' v => (gP [26, 27, 115] u u' ∧ mr u' (m1 + q) (c1 + 1) (jn o s1)) ∧ v = none)) args s 0 0 (ab_A ad ab_nQ s.heap.size)) D ca (ab_A ad ab_nQ s.heap.size) s.heap 3 0 0 ad ab_nQ u1 23 [(2, ab_I (nI j)), (0, ab_O 17 0), (1, ab_I (nI f))] [] := by
      intro k
      induction k with
      | zero =>
        intro j u1 hj P1 A1
        obtain rfl : j = xs.length := by omega
        rw [List.take_length] at A1
        obtain ⟨r, n, a1, a2, a3, a4, a5⟩ := A1
        refine ab_iload_n X 0 d_MO_yes_23 rfl rfl ?_
        refine ab_aload_n X 1 d_MO_yes_24 rfl rfl ?_
        refine ab_gR X fl_MO_75 d_MO_yes_25 (by first | assumption | decide | (show _ < 124; omega) | (show _ < 61; omega) | (show _ < 20; omega)) (P1.1.mo21) ?_
        refine ab_iload_n X 2 d_MO_yes_28 rfl rfl ?_
        refine ab_iald X (f) ⟨rfl, rfl⟩ d_MO_yes_29 (by first | assumption | decide | (show _ < 124; omega) | (show _ < 61; omega) | (show _ < 20; omega)) (rfl) (show f < 72 by omega) (ab_ln_lt _ _) ?_
        refine ab_top (P1.ai (by decide) b1) ?_
        refine ab_icmp_ge X 54 d_MO_yes_30 rfl (fun _ => ?_) (fun hb => absurd ((nI_le (by omega) (by omega))) hb)
        exact ab_retv X hr0 hlk d_MO_yes_54 ⟨⟨P1, by rw [es1]; exact ⟨r, n, a1, a2, by omega, by omega, a5⟩⟩, rfl⟩
      | succ k ih =>
        intro j u1 hj P1 A1
        have hj1 : j < xs.length := by omega
        refine ab_iload_n X 0 d_MO_yes_23 rfl rfl ?_
        refine ab_aload_n X 1 d_MO_yes_24 rfl rfl ?_
        refine ab_gR X fl_MO_75 d_MO_yes_25 (by first | assumption | decide | (show _ < 124; omega) | (show _ < 61; omega) | (show _ < 20; omega)) (P1.1.mo21) ?_
        refine ab_iload_n X 2 d_MO_yes_28 rfl rfl ?_
        refine ab_iald X (f) ⟨rfl, rfl⟩ d_MO_yes_29 (by first | assumption | decide | (show _ < 124; omega) | (show _ < 61; omega) | (show _ < 20; omega)) (rfl) (show f < 72 by omega) (ab_ln_lt _ _) ?_
        refine ab_top (P1.ai (by decide) b1) ?_
        refine ab_icmp_ge X 54 d_MO_yes_30 rfl (fun hb => absurd hb ((nI_ge (by omega) (by omega)))) (fun _ => ?_)
        refine ab_aload_n X 1 d_MO_yes_33 rfl rfl ?_
        refine ab_aload_n X 1 d_MO_yes_34 rfl rfl ?_
        refine ab_gR X fl_MO_72 d_MO_yes_35 (by first | assumption | decide | (show _ < 124; omega) | (show _ < 61; omega) | (show _ < 20; omega)) (P1.1.mo20) ?_
        refine ab_bipush (v := 50) X d_MO_yes_38 (by decide) ?_
        refine ab_iload_n X 2 d_MO_yes_40 rfl rfl ?_
        refine ab_imul X d_MO_yes_41 ?_
        refine ab_iload_n X 0 d_MO_yes_42 rfl rfl ?_
        refine ab_iadd X d_MO_yes_43 ?_
        refine ab_iald X (50 * f + j) ⟨rfl, rfl⟩ d_MO_yes_44 (by first | assumption | decide | (show _ < 124; omega) | (show _ < 61; omega) | (show _ < 20; omega)) (nI_50a f j) (show 50 * f + j < 3600 by omega) (ab_ln_lt _ _) ?_
        refine ab_top (P1.ai (by decide) (b3 j hj1)) ?_
        refine ab_callV (as := [ab_I (nI (xs.getD j 0))]) X (fun h => by cases h) (x_MO_item1 u1 (xs.getD j 0) (m1 + j) c1 (jn o (some (xs.take j))) P1.1 A1 (gd_itm x2 hj1) (by omega) (by omega)) lk_MO_264 d_MO_yes_45 rfl rfl (by first | assumption | decide | (show _ < 124; omega) | (show _ < 61; omega) | (show _ < 20; omega)) ⟨by first | exact Nat.le_of_ble_eq_true rfl | (simp only [ab_rm]; omega), by first | exact Nat.le_of_ble_eq_true rfl | (simp only [ab_rm]; omega)⟩ ⟨by first | exact Nat.le_of_ble_eq_true rfl | (simp only [ab_rm]; omega), by first | exact Nat.le_of_ble_eq_true rfl | (simp only [ab_rm]; omega)⟩ (Nat.le_of_ble_eq_true rfl) (fun u45 r45 h45 => ?_)
        obtain ⟨⟨q45, r45⟩, rfl⟩ := h45
        have P45 := P1.trans q45 (by decide)
        refine ab_iinc2 X 0 1 2 d_MO_yes_48 rfl (by decide) rfl rfl rfl rfl ?_
        refine ab_goto X 23 d_MO_yes_51 rfl ?_
        rw [show nI j + Int32.ofInt 1 = nI (j + 1) from nI_1 j]
        rw [jn_assoc, tk_1 hj1] at r45
        exact ih (j + 1) _ (by omega) P45 r45
    refine ab_aload_n X 0 d_MO_yes_0 rfl rfl ?_
    refine ab_gR X fl_MO_75 d_MO_yes_1 (by first | assumption | decide | (show _ < 124; omega) | (show _ < 61; omega) | (show _ < 20; omega)) (P0.1.mo21) ?_
    refine ab_iload_n X 1 d_MO_yes_4 rfl rfl ?_
    refine ab_iald X (f) ⟨rfl, rfl⟩ d_MO_yes_5 (by first | assumption | decide | (show _ < 124; omega) | (show _ < 61; omega) | (show _ < 20; omega)) (rfl) (show f < 72 by omega) (ab_ln_lt _ _) ?_
    refine ab_top b1 ?_
    refine ab_if_ge X 21 d_MO_yes_6 rfl (fun _ => ?_) (fun hb => absurd ((nI_pos' (by omega))) hb)
    refine ab_iconst (v := 0) X d_MO_yes_21 (by decide) ?_
    refine ab_istore_n2 X 0 1 d_MO_yes_22 rfl (by decide) rfl rfl rfl rfl ?_
    exact loop xs.length 0 _ (by omega) P0 (by rw [List.take_zero, jn_r]; exact A)
end SaSMRow
section SaSMOffer
variable {l : Launch} {D : va_G} {ca : Nat → ClassId}
set_option maxRecDepth 100000 in
set_option maxHeartbeats 1000000 in
theorem x_MO_offer (u : ab_S) (m1 c1 : Nat) (o b : Option (List Nat)) (h : mR u.2.1) (A : mr u m1 c1 o) (B : mBs u b) (hx : oB 50 o) (hy : oB 50 b) (hm : m1 ≤ 64) (hc : c1 ≤ 10) : ab_C false l D ca y_MO_offer b_MO_offer 3 none 0 ab_nQ u [ab_O 17 0] (fun u' v => (gP [29, 30, 116] u u' ∧ mBs u' (bet b o)) ∧ v = none) := by
  refine ab_C.of (by decide) (Nat.le_of_ble_eq_true rfl) ?_
  intro p e s m args below meth c ad X hZ hr0 hlk
  have P0 : gP [29, 30, 116] u u := gP.rf h
  obtain ⟨r, n, a1, a2, a3, a4, a5⟩ := A
  obtain eo | ⟨xs, eo⟩ : o = none ∨ ∃ xs, o = some xs := by
    cases o with
    | none => exact Or.inl rfl
    | some xs => exact Or.inr ⟨xs, rfl⟩
  · rw [eo] at a5
    have a5 : 100000 ≤ n := a5
    refine ab_aload_n X 0 d_MO_offer_0 rfl rfl ?_
    refine ab_gI X fl_MO_93 d_MO_offer_1 (by first | assumption | decide | (show _ < 124; omega) | (show _ < 61; omega) | (show _ < 20; omega)) (a2) ?_
    refine ab_ldcw X (v := 100000) (ab_in 1248 (by decide +kernel) (by decide +kernel)) d_MO_offer_4 ?_
    refine ab_icmp_lt X 11 d_MO_offer_7 rfl (fun hb => absurd hb ((nI_nlt (a := n) (b := 100000) a5 (by omega)))) (fun _ => ?_)
    exact ab_retv X hr0 hlk d_MO_offer_10 ⟨⟨P0, by rw [eo]; exact B⟩, rfl⟩
  · rw [eo] at a5 hx
    obtain ⟨rfl, rfl, a6⟩ : r = xs.length ∧ n = wgt xs ∧ ∀ i, i < xs.length → u.1 18 15 i = nI (xs.getD i 0) := a5
    obtain ⟨x1, x2⟩ := hx xs rfl
    have wx := wgt_le xs
    have copy : ∀ (k j : Nat) (u1 : ab_S) (y : Int32), k + j = xs.length → gP [29, 30, 116] u u1 → u1.1 17 0 29 = nI xs.length → u1.1 17 0 30 = nI (wgt xs) → (∀ i, i < j → u1.1 18 16 i = nI (xs.getD i 0)) → bet b (some xs) = some xs → ab_J p l e (ab_rm 0 0 0) s m args below meth c (MQ below (ab_Q D ca ad ab_nQ s.heap.size (fun u' v => (gP [29, 30, 116] u u' ∧ mBs u' (bet b o)) ∧ v = none)) args s 0 0 (ab_A ad ab_nQ s.heap.size)) D ca (ab_A ad ab_nQ s.heap.size) s.heap 3 0 0 ad ab_nQ u1 138 [(2, ab_I (nI j)), (1, ab_I y), (0, ab_O 17 0)] [] := by
      intro k
      induction k with
      | zero =>
        intro j u1 y hj P1 d1 d2 d3 eb
        obtain rfl : j = xs.length := by omega
        refine ab_iload_n X 0 d_MO_offer_138 rfl rfl ?_
        refine ab_aload_n X 2 d_MO_offer_139 rfl rfl ?_
        refine ab_gI X fl_MO_90 d_MO_offer_140 (by first | assumption | decide | (show _ < 124; omega) | (show _ < 61; omega) | (show _ < 20; omega)) (P1.fi (by decide) a1) ?_
        refine ab_icmp_ge X 164 d_MO_offer_143 rfl (fun _ => ?_) (fun hb => absurd ((nI_le (by omega) (by omega))) hb)
        exact ab_retv X hr0 hlk d_MO_offer_164 ⟨⟨P1, by rw [eo, eb]; exact ⟨d1, d2, d3⟩⟩, rfl⟩
      | succ k ih =>
        intro j u1 y hj P1 d1 d2 d3 eb
        refine ab_iload_n X 0 d_MO_offer_138 rfl rfl ?_
        refine ab_aload_n X 2 d_MO_offer_139 rfl rfl ?_
        refine ab_gI X fl_MO_90 d_MO_offer_140 (by first | assumption | decide | (show _ < 124; omega) | (show _ < 61; omega) | (show _ < 20; omega)) (P1.fi (by decide) a1) ?_
        refine ab_icmp_ge X 164 d_MO_offer_143 rfl (fun hb => absurd hb ((nI_ge (by omega) (by omega)))) (fun _ => ?_)
        refine ab_aload_n X 2 d_MO_offer_146 rfl rfl ?_
        refine ab_gR X fl_MO_96 d_MO_offer_147 (by first | assumption | decide | (show _ < 124; omega) | (show _ < 61; omega) | (show _ < 20; omega)) (P1.1.mo28) ?_
        refine ab_iload_n X 0 d_MO_offer_150 rfl rfl ?_
        refine ab_aload_n X 2 d_MO_offer_151 rfl rfl ?_
        refine ab_gR X fl_MO_87 d_MO_offer_152 (by first | assumption | decide | (show _ < 124; omega) | (show _ < 61; omega) | (show _ < 20; omega)) (P1.1.mo25) ?_
        refine ab_iload_n X 0 d_MO_offer_155 rfl rfl ?_
        refine ab_iald X (j) ⟨rfl, rfl⟩ d_MO_offer_156 (by first | assumption | decide | (show _ < 124; omega) | (show _ < 61; omega) | (show _ < 20; omega)) (rfl) (show j < 64 by omega) (ab_ln_lt _ _) ?_
        refine ab_top (P1.ai (by decide) (a6 j (by omega))) ?_
        refine ab_iast X (j) ⟨rfl, rfl⟩ d_MO_offer_157 (by first | assumption | decide | (show _ < 124; omega) | (show _ < 61; omega) | (show _ < 20; omega)) (rfl) (show j < 64 by omega) (ab_ln_lt _ _) ?_
        refine ab_gen (fun u157 e157 => ?_)
        have P157 : gP [29, 30, 116] u u157 := by rw [e157]; exact P1.ui rfl (by decide)
        refine ab_iinc2 X 0 1 2 d_MO_offer_158 rfl (by decide) rfl rfl rfl rfl ?_
        refine ab_goto X 138 d_MO_offer_161 rfl ?_
        rw [show nI j + Int32.ofInt 1 = nI (j + 1) from nI_1 j]
        refine ih (j + 1) _ _ (by omega) P157 (by rw [e157]; exact (ui_n _ (by omega)).trans d1) (by rw [e157]; exact (ui_n _ (by omega)).trans d2) (fun i hi => ?_) eb
        rw [e157]
        by_cases z : i = j
        · subst z; exact ui_s _
        · exact (ui_n _ (by omega)).trans (d3 i (by omega))
    have fin1 : bet b (some xs) = some xs → ab_J p l e (ab_rm 0 0 0) s m args below meth c (MQ below (ab_Q D ca ad ab_nQ s.heap.size (fun u' v => (gP [29, 30, 116] u u' ∧ mBs u' (bet b o)) ∧ v = none)) args s 0 0 (ab_A ad ab_nQ s.heap.size)) D ca (ab_A ad ab_nQ s.heap.size) s.heap 3 0 0 ad ab_nQ u 115 [(1, ab_I 1), (0, ab_O 17 0)] [] := by
      intro eb
      refine ab_iload_n X 0 d_MO_offer_115 rfl rfl ?_
      refine ab_if_ne X 120 d_MO_offer_116 rfl (fun _ => ?_) (fun hb => absurd hb ((by decide)))
      refine ab_aload_n X 1 d_MO_offer_120 rfl rfl ?_
      refine ab_aload_n X 1 d_MO_offer_121 rfl rfl ?_
      refine ab_gI X fl_MO_93 d_MO_offer_122 (by first | assumption | decide | (show _ < 124; omega) | (show _ < 61; omega) | (show _ < 20; omega)) (a2) ?_
      refine ab_putI X fp_MO_102 d_MO_offer_125 (by first | assumption | decide | (show _ < 124; omega) | (show _ < 61; omega) | (show _ < 20; omega)) rfl rfl ?_
      refine ab_gen (fun u125 e125 => ?_)
      have P125 : gP [29, 30, 116] u u125 := by rw [e125]; exact P0.ui rfl (by decide)
      refine ab_aload_n X 1 d_MO_offer_128 rfl rfl ?_
      refine ab_aload_n X 1 d_MO_offer_129 rfl rfl ?_
      refine ab_gI X fl_MO_90 d_MO_offer_130 (by first | assumption | decide | (show _ < 124; omega) | (show _ < 61; omega) | (show _ < 20; omega)) ((show _ = nI xs.length by rw [e125]; exact (ui_n _ (by omega)).trans a1)) ?_
      refine ab_putI X fp_MO_99 d_MO_offer_133 (by first | assumption | decide | (show _ < 124; omega) | (show _ < 61; omega) | (show _ < 20; omega)) rfl rfl ?_
      refine ab_gen (fun u133 e133 => ?_)
      have P133 : gP [29, 30, 116] u u133 := by rw [e133]; exact P125.ui rfl (by decide)
      refine ab_iconst (v := 0) X d_MO_offer_136 (by decide) ?_
      refine ab_istore_n2 X 0 1 d_MO_offer_137 rfl (by decide) rfl rfl rfl rfl ?_
      exact copy xs.length 0 _ _ (by omega) P133 (by rw [e133]; exact ui_s _) (by rw [e133, e125]; exact (ui_n _ (by omega)).trans (ui_s _)) (fun i hi => absurd hi (Nat.not_lt_zero i)) eb
    have fin0 : bet b (some xs) = b → ab_J p l e (ab_rm 0 0 0) s m args below meth c (MQ below (ab_Q D ca ad ab_nQ s.heap.size (fun u' v => (gP [29, 30, 116] u u' ∧ mBs u' (bet b o)) ∧ v = none)) args s 0 0 (ab_A ad ab_nQ s.heap.size)) D ca (ab_A ad ab_nQ s.heap.size) s.heap 3 0 0 ad ab_nQ u 115 [(1, ab_I 0), (0, ab_O 17 0)] [] := by
      intro eb
      refine ab_iload_n X 0 d_MO_offer_115 rfl rfl ?_
      refine ab_if_ne X 120 d_MO_offer_116 rfl (fun hb => absurd ((by decide)) hb) (fun _ => ?_)
      exact ab_retv X hr0 hlk d_MO_offer_119 ⟨⟨P0, by rw [eo, eb]; exact B⟩, rfl⟩
    obtain ebn | ⟨ys, ebn⟩ : b = none ∨ ∃ ys, b = some ys := by
      cases b with
      | none => exact Or.inl rfl
      | some ys => exact Or.inr ⟨ys, rfl⟩
    · rw [ebn] at B
      obtain ⟨b1, b2⟩ : u.1 17 0 29 = -1 ∧ u.1 17 0 30 = 100000 := B
      have ne : ¬ nI (wgt xs) = 100000 := fun z => by have := (nI_eq (a := wgt xs) (b := 100000) (by omega) (by decide)).mp z; omega
      refine ab_aload_n X 0 d_MO_offer_0 rfl rfl ?_
      refine ab_gI X fl_MO_93 d_MO_offer_1 (by first | assumption | decide | (show _ < 124; omega) | (show _ < 61; omega) | (show _ < 20; omega)) (a2) ?_
      refine ab_ldcw X (v := 100000) (ab_in 1248 (by decide +kernel) (by decide +kernel)) d_MO_offer_4 ?_
      refine ab_icmp_lt X 11 d_MO_offer_7 rfl (fun _ => ?_) (fun hb => absurd ((nI_lt (a := wgt xs) (b := 100000) (by omega) (by decide))) hb)
      refine ab_aload_n X 0 d_MO_offer_11 rfl rfl ?_
      refine ab_gI X fl_MO_93 d_MO_offer_12 (by first | assumption | decide | (show _ < 124; omega) | (show _ < 61; omega) | (show _ < 20; omega)) (a2) ?_
      refine ab_aload_n X 0 d_MO_offer_15 rfl rfl ?_
      refine ab_gI X fl_MO_102 d_MO_offer_16 (by first | assumption | decide | (show _ < 124; omega) | (show _ < 61; omega) | (show _ < 20; omega)) (b2) ?_
      refine ab_icmp_ge X 26 d_MO_offer_19 rfl (fun hb => absurd hb ((nI_ge (a := wgt xs) (b := 100000) (by omega) (by decide)))) (fun _ => ?_)
      refine ab_iconst (v := 1) X d_MO_offer_22 (by decide) ?_
      refine ab_goto X 27 d_MO_offer_23 rfl ?_
      refine ab_istore_n1 X 0 d_MO_offer_27 rfl (by decide) rfl rfl ?_
      refine ab_aload_n X 1 d_MO_offer_28 rfl rfl ?_
      refine ab_gI X fl_MO_93 d_MO_offer_29 (by first | assumption | decide | (show _ < 124; omega) | (show _ < 61; omega) | (show _ < 20; omega)) (a2) ?_
      refine ab_aload_n X 1 d_MO_offer_32 rfl rfl ?_
      refine ab_gI X fl_MO_102 d_MO_offer_33 (by first | assumption | decide | (show _ < 124; omega) | (show _ < 61; omega) | (show _ < 20; omega)) (b2) ?_
      refine ab_icmp_ne X 115 d_MO_offer_36 rfl (fun _ => ?_) (fun hb => absurd hb (ne))
      exact fin1 (by rw [ebn]; rfl)
    · rw [ebn] at B hy
      obtain ⟨b1, b2, b3⟩ : u.1 17 0 29 = nI ys.length ∧ u.1 17 0 30 = nI (wgt ys) ∧ ∀ i, i < ys.length → u.1 18 16 i = nI (ys.getD i 0) := B
      obtain ⟨y1, y2⟩ := hy ys rfl
      have wy := wgt_le ys
      have bT : les xs ys = true → bet b (some xs) = some xs := fun z => by rw [ebn]; exact if_pos z
      have bF : les xs ys = false → bet b (some xs) = b := fun z => by rw [ebn]; exact if_neg (by rw [z]; decide)
      have cmp : ∀ (k j : Nat) (y : Int32), k + j = 51 → j ≤ xs.length → j ≤ ys.length → les xs ys = lxl (xs.drop j) (ys.drop j) → ab_J p l e (ab_rm 0 0 0) s m args below meth c (MQ below (ab_Q D ca ad ab_nQ s.heap.size (fun u' v => (gP [29, 30, 116] u u' ∧ mBs u' (bet b o)) ∧ v = none)) args s 0 0 (ab_A ad ab_nQ s.heap.size)) D ca (ab_A ad ab_nQ s.heap.size) s.heap 3 0 0 ad ab_nQ u 41 [(2, ab_I (nI j)), (1, ab_I y), (0, ab_O 17 0)] [] := by
        intro k
        induction k with
        | zero => intro j y hj h1; exfalso; omega
        | succ k ih =>
          intro j y hj h1 h2 he
          by_cases ex : j = xs.length
          · have hE := lx_end h1 h2 (Or.inl ex)
            by_cases ey : j < ys.length
            · have hv : les xs ys = true := by rw [he, hE]; exact decide_eq_true (by omega)
              refine ab_iload_n X 0 d_MO_offer_41 rfl rfl ?_
              refine ab_aload_n X 2 d_MO_offer_42 rfl rfl ?_
              refine ab_gI X fl_MO_90 d_MO_offer_43 (by first | assumption | decide | (show _ < 124; omega) | (show _ < 61; omega) | (show _ < 20; omega)) (a1) ?_
              refine ab_icmp_ge X 78 d_MO_offer_46 rfl (fun _ => ?_) (fun hb => absurd ((nI_le (by omega) (by omega))) hb)
              refine ab_iload_n X 0 d_MO_offer_78 rfl rfl ?_
              refine ab_aload_n X 2 d_MO_offer_79 rfl rfl ?_
              refine ab_gI X fl_MO_99 d_MO_offer_80 (by first | assumption | decide | (show _ < 124; omega) | (show _ < 61; omega) | (show _ < 20; omega)) (b1) ?_
              refine ab_icmp_ge X 113 d_MO_offer_83 rfl (fun hb => absurd hb ((nI_ge (by omega) (by omega)))) (fun _ => ?_)
              refine ab_iload_n X 0 d_MO_offer_86 rfl rfl ?_
              refine ab_aload_n X 2 d_MO_offer_87 rfl rfl ?_
              refine ab_gI X fl_MO_90 d_MO_offer_88 (by first | assumption | decide | (show _ < 124; omega) | (show _ < 61; omega) | (show _ < 20; omega)) (a1) ?_
              refine ab_icmp_eq X 109 d_MO_offer_91 rfl (fun _ => ?_) (fun hb => absurd ((by rw [ex])) hb)
              refine ab_iconst (v := 1) X d_MO_offer_109 (by decide) ?_
              refine ab_goto X 114 d_MO_offer_110 rfl ?_
              refine ab_istore_n2 X 0 2 d_MO_offer_114 rfl (by decide) rfl rfl rfl rfl ?_
              refine ab_lv (List.forall_mem_cons.mpr ⟨List.mem_of_getElem? (i := 0) rfl, List.forall_mem_cons.mpr ⟨List.mem_of_getElem? (i := 2) rfl, fun _ h => absurd h List.not_mem_nil⟩⟩) ?_
              exact fin1 (bT hv)
            · have hv : les xs ys = false := by rw [he, hE]; exact decide_eq_false (by omega)
              refine ab_iload_n X 0 d_MO_offer_41 rfl rfl ?_
              refine ab_aload_n X 2 d_MO_offer_42 rfl rfl ?_
              refine ab_gI X fl_MO_90 d_MO_offer_43 (by first | assumption | decide | (show _ < 124; omega) | (show _ < 61; omega) | (show _ < 20; omega)) (a1) ?_
              refine ab_icmp_ge X 78 d_MO_offer_46 rfl (fun _ => ?_) (fun hb => absurd ((nI_le (by omega) (by omega))) hb)
              refine ab_iload_n X 0 d_MO_offer_78 rfl rfl ?_
              refine ab_aload_n X 2 d_MO_offer_79 rfl rfl ?_
              refine ab_gI X fl_MO_99 d_MO_offer_80 (by first | assumption | decide | (show _ < 124; omega) | (show _ < 61; omega) | (show _ < 20; omega)) (b1) ?_
              refine ab_icmp_ge X 113 d_MO_offer_83 rfl (fun _ => ?_) (fun hb => absurd ((nI_le (by omega) (by omega))) hb)
              refine ab_iconst (v := 0) X d_MO_offer_113 (by decide) ?_
              refine ab_istore_n2 X 0 2 d_MO_offer_114 rfl (by decide) rfl rfl rfl rfl ?_
              refine ab_lv (List.forall_mem_cons.mpr ⟨List.mem_of_getElem? (i := 0) rfl, List.forall_mem_cons.mpr ⟨List.mem_of_getElem? (i := 2) rfl, fun _ h => absurd h List.not_mem_nil⟩⟩) ?_
              exact fin0 (bF hv)
          · by_cases ey : j = ys.length
            · have hE := lx_end h1 h2 (Or.inr ey)
              have hv : les xs ys = false := by rw [he, hE]; exact decide_eq_false (by omega)
              refine ab_iload_n X 0 d_MO_offer_41 rfl rfl ?_
              refine ab_aload_n X 2 d_MO_offer_42 rfl rfl ?_
              refine ab_gI X fl_MO_90 d_MO_offer_43 (by first | assumption | decide | (show _ < 124; omega) | (show _ < 61; omega) | (show _ < 20; omega)) (a1) ?_
              refine ab_icmp_ge X 78 d_MO_offer_46 rfl (fun hb => absurd hb ((nI_ge (by omega) (by omega)))) (fun _ => ?_)
              refine ab_iload_n X 0 d_MO_offer_49 rfl rfl ?_
              refine ab_aload_n X 2 d_MO_offer_50 rfl rfl ?_
              refine ab_gI X fl_MO_99 d_MO_offer_51 (by first | assumption | decide | (show _ < 124; omega) | (show _ < 61; omega) | (show _ < 20; omega)) (b1) ?_
              refine ab_icmp_ge X 78 d_MO_offer_54 rfl (fun _ => ?_) (fun hb => absurd ((nI_le (by omega) (by omega))) hb)
              refine ab_iload_n X 0 d_MO_offer_78 rfl rfl ?_
              refine ab_aload_n X 2 d_MO_offer_79 rfl rfl ?_
              refine ab_gI X fl_MO_99 d_MO_offer_80 (by first | assumption | decide | (show _ < 124; omega) | (show _ < 61; omega) | (show _ < 20; omega)) (b1) ?_
              refine ab_icmp_ge X 113 d_MO_offer_83 rfl (fun _ => ?_) (fun hb => absurd ((nI_le (by omega) (by omega))) hb)
              refine ab_iconst (v := 0) X d_MO_offer_113 (by decide) ?_
              refine ab_istore_n2 X 0 2 d_MO_offer_114 rfl (by decide) rfl rfl rfl rfl ?_
              refine ab_lv (List.forall_mem_cons.mpr ⟨List.mem_of_getElem? (i := 0) rfl, List.forall_mem_cons.mpr ⟨List.mem_of_getElem? (i := 2) rfl, fun _ h => absurd h List.not_mem_nil⟩⟩) ?_
              exact fin0 (bF hv)
            · have j1 : j < xs.length := by omega
              have j2 : j < ys.length := by omega
              have ix := (gd_itm x2 j1).lt
              have iy := (gd_itm y2 j2).lt
              by_cases eq : xs.getD j 0 = ys.getD j 0
              ·
                refine ab_iload_n X 0 d_MO_offer_41 rfl rfl ?_
                refine ab_aload_n X 2 d_MO_offer_42 rfl rfl ?_
                refine ab_gI X fl_MO_90 d_MO_offer_43 (by first | assumption | decide | (show _ < 124; omega) | (show _ < 61; omega) | (show _ < 20; omega)) (a1) ?_
                refine ab_icmp_ge X 78 d_MO_offer_46 rfl (fun hb => absurd hb ((nI_ge (by omega) (by omega)))) (fun _ => ?_)
                refine ab_iload_n X 0 d_MO_offer_49 rfl rfl ?_
                refine ab_aload_n X 2 d_MO_offer_50 rfl rfl ?_
                refine ab_gI X fl_MO_99 d_MO_offer_51 (by first | assumption | decide | (show _ < 124; omega) | (show _ < 61; omega) | (show _ < 20; omega)) (b1) ?_
                refine ab_icmp_ge X 78 d_MO_offer_54 rfl (fun hb => absurd hb ((nI_ge (by omega) (by omega)))) (fun _ => ?_)
                refine ab_aload_n X 2 d_MO_offer_57 rfl rfl ?_
                refine ab_gR X fl_MO_87 d_MO_offer_58 (by first | assumption | decide | (show _ < 124; omega) | (show _ < 61; omega) | (show _ < 20; omega)) (P0.1.mo25) ?_
                refine ab_iload_n X 0 d_MO_offer_61 rfl rfl ?_
                refine ab_iald X (j) ⟨rfl, rfl⟩ d_MO_offer_62 (by first | assumption | decide | (show _ < 124; omega) | (show _ < 61; omega) | (show _ < 20; omega)) (rfl) (show j < 64 by omega) (ab_ln_lt _ _) ?_
                refine ab_top (a6 j j1) ?_
                refine ab_aload_n X 2 d_MO_offer_63 rfl rfl ?_
                refine ab_gR X fl_MO_96 d_MO_offer_64 (by first | assumption | decide | (show _ < 124; omega) | (show _ < 61; omega) | (show _ < 20; omega)) (P0.1.mo28) ?_
                refine ab_iload_n X 0 d_MO_offer_67 rfl rfl ?_
                refine ab_iald X (j) ⟨rfl, rfl⟩ d_MO_offer_68 (by first | assumption | decide | (show _ < 124; omega) | (show _ < 61; omega) | (show _ < 20; omega)) (rfl) (show j < 64 by omega) (ab_ln_lt _ _) ?_
                refine ab_top (b3 j j2) ?_
                refine ab_icmp_ne X 78 d_MO_offer_69 rfl (fun hb => absurd ((by rw [eq])) hb) (fun _ => ?_)
                refine ab_iinc2 X 0 1 2 d_MO_offer_72 rfl (by decide) rfl rfl rfl rfl ?_
                refine ab_goto X 41 d_MO_offer_75 rfl ?_
                rw [show nI j + Int32.ofInt 1 = nI (j + 1) from nI_1 j]
                exact ih (j + 1) _ (by omega) (by omega) (by omega) (by rw [he, lx_eq j1 j2 eq])
              · have nn : ¬ nI j = nI xs.length := fun z => ex ((nI_eq (by omega) (by omega)).mp z)
                have nq : ¬ nI (xs.getD j 0) = nI (ys.getD j 0) := fun z => eq ((nI_eq (by omega) (by omega)).mp z)
                by_cases lt : xs.getD j 0 < ys.getD j 0
                · have hv : les xs ys = true := by rw [he, lx_ne j1 j2 eq]; exact decide_eq_true lt
                  refine ab_iload_n X 0 d_MO_offer_41 rfl rfl ?_
                  refine ab_aload_n X 2 d_MO_offer_42 rfl rfl ?_
                  refine ab_gI X fl_MO_90 d_MO_offer_43 (by first | assumption | decide | (show _ < 124; omega) | (show _ < 61; omega) | (show _ < 20; omega)) (a1) ?_
                  refine ab_icmp_ge X 78 d_MO_offer_46 rfl (fun hb => absurd hb ((nI_ge (by omega) (by omega)))) (fun _ => ?_)
                  refine ab_iload_n X 0 d_MO_offer_49 rfl rfl ?_
                  refine ab_aload_n X 2 d_MO_offer_50 rfl rfl ?_
                  refine ab_gI X fl_MO_99 d_MO_offer_51 (by first | assumption | decide | (show _ < 124; omega) | (show _ < 61; omega) | (show _ < 20; omega)) (b1) ?_
                  refine ab_icmp_ge X 78 d_MO_offer_54 rfl (fun hb => absurd hb ((nI_ge (by omega) (by omega)))) (fun _ => ?_)
                  refine ab_aload_n X 2 d_MO_offer_57 rfl rfl ?_
                  refine ab_gR X fl_MO_87 d_MO_offer_58 (by first | assumption | decide | (show _ < 124; omega) | (show _ < 61; omega) | (show _ < 20; omega)) (P0.1.mo25) ?_
                  refine ab_iload_n X 0 d_MO_offer_61 rfl rfl ?_
                  refine ab_iald X (j) ⟨rfl, rfl⟩ d_MO_offer_62 (by first | assumption | decide | (show _ < 124; omega) | (show _ < 61; omega) | (show _ < 20; omega)) (rfl) (show j < 64 by omega) (ab_ln_lt _ _) ?_
                  refine ab_top (a6 j j1) ?_
                  refine ab_aload_n X 2 d_MO_offer_63 rfl rfl ?_
                  refine ab_gR X fl_MO_96 d_MO_offer_64 (by first | assumption | decide | (show _ < 124; omega) | (show _ < 61; omega) | (show _ < 20; omega)) (P0.1.mo28) ?_
                  refine ab_iload_n X 0 d_MO_offer_67 rfl rfl ?_
                  refine ab_iald X (j) ⟨rfl, rfl⟩ d_MO_offer_68 (by first | assumption | decide | (show _ < 124; omega) | (show _ < 61; omega) | (show _ < 20; omega)) (rfl) (show j < 64 by omega) (ab_ln_lt _ _) ?_
                  refine ab_top (b3 j j2) ?_
                  refine ab_icmp_ne X 78 d_MO_offer_69 rfl (fun _ => ?_) (fun hb => absurd hb (nq))
                  refine ab_iload_n X 0 d_MO_offer_78 rfl rfl ?_
                  refine ab_aload_n X 2 d_MO_offer_79 rfl rfl ?_
                  refine ab_gI X fl_MO_99 d_MO_offer_80 (by first | assumption | decide | (show _ < 124; omega) | (show _ < 61; omega) | (show _ < 20; omega)) (b1) ?_
                  refine ab_icmp_ge X 113 d_MO_offer_83 rfl (fun hb => absurd hb ((nI_ge (by omega) (by omega)))) (fun _ => ?_)
                  refine ab_iload_n X 0 d_MO_offer_86 rfl rfl ?_
                  refine ab_aload_n X 2 d_MO_offer_87 rfl rfl ?_
                  refine ab_gI X fl_MO_90 d_MO_offer_88 (by first | assumption | decide | (show _ < 124; omega) | (show _ < 61; omega) | (show _ < 20; omega)) (a1) ?_
                  refine ab_icmp_eq X 109 d_MO_offer_91 rfl (fun hb => absurd hb (nn)) (fun _ => ?_)
                  refine ab_aload_n X 2 d_MO_offer_94 rfl rfl ?_
                  refine ab_gR X fl_MO_87 d_MO_offer_95 (by first | assumption | decide | (show _ < 124; omega) | (show _ < 61; omega) | (show _ < 20; omega)) (P0.1.mo25) ?_
                  refine ab_iload_n X 0 d_MO_offer_98 rfl rfl ?_
                  refine ab_iald X (j) ⟨rfl, rfl⟩ d_MO_offer_99 (by first | assumption | decide | (show _ < 124; omega) | (show _ < 61; omega) | (show _ < 20; omega)) (rfl) (show j < 64 by omega) (ab_ln_lt _ _) ?_
                  refine ab_top (a6 j j1) ?_
                  refine ab_aload_n X 2 d_MO_offer_100 rfl rfl ?_
                  refine ab_gR X fl_MO_96 d_MO_offer_101 (by first | assumption | decide | (show _ < 124; omega) | (show _ < 61; omega) | (show _ < 20; omega)) (P0.1.mo28) ?_
                  refine ab_iload_n X 0 d_MO_offer_104 rfl rfl ?_
                  refine ab_iald X (j) ⟨rfl, rfl⟩ d_MO_offer_105 (by first | assumption | decide | (show _ < 124; omega) | (show _ < 61; omega) | (show _ < 20; omega)) (rfl) (show j < 64 by omega) (ab_ln_lt _ _) ?_
                  refine ab_top (b3 j j2) ?_
                  refine ab_icmp_ge X 113 d_MO_offer_106 rfl (fun hb => absurd hb ((nI_ge (by omega) (by omega)))) (fun _ => ?_)
                  refine ab_iconst (v := 1) X d_MO_offer_109 (by decide) ?_
                  refine ab_goto X 114 d_MO_offer_110 rfl ?_
                  refine ab_istore_n2 X 0 2 d_MO_offer_114 rfl (by decide) rfl rfl rfl rfl ?_
                  refine ab_lv (List.forall_mem_cons.mpr ⟨List.mem_of_getElem? (i := 0) rfl, List.forall_mem_cons.mpr ⟨List.mem_of_getElem? (i := 2) rfl, fun _ h => absurd h List.not_mem_nil⟩⟩) ?_
                  exact fin1 (bT hv)
                · have hv : les xs ys = false := by rw [he, lx_ne j1 j2 eq]; exact decide_eq_false lt
                  refine ab_iload_n X 0 d_MO_offer_41 rfl rfl ?_
                  refine ab_aload_n X 2 d_MO_offer_42 rfl rfl ?_
                  refine ab_gI X fl_MO_90 d_MO_offer_43 (by first | assumption | decide | (show _ < 124; omega) | (show _ < 61; omega) | (show _ < 20; omega)) (a1) ?_
                  refine ab_icmp_ge X 78 d_MO_offer_46 rfl (fun hb => absurd hb ((nI_ge (by omega) (by omega)))) (fun _ => ?_)
                  refine ab_iload_n X 0 d_MO_offer_49 rfl rfl ?_
                  refine ab_aload_n X 2 d_MO_offer_50 rfl rfl ?_
                  refine ab_gI X fl_MO_99 d_MO_offer_51 (by first | assumption | decide | (show _ < 124; omega) | (show _ < 61; omega) | (show _ < 20; omega)) (b1) ?_
                  refine ab_icmp_ge X 78 d_MO_offer_54 rfl (fun hb => absurd hb ((nI_ge (by omega) (by omega)))) (fun _ => ?_)
                  refine ab_aload_n X 2 d_MO_offer_57 rfl rfl ?_
                  refine ab_gR X fl_MO_87 d_MO_offer_58 (by first | assumption | decide | (show _ < 124; omega) | (show _ < 61; omega) | (show _ < 20; omega)) (P0.1.mo25) ?_
                  refine ab_iload_n X 0 d_MO_offer_61 rfl rfl ?_
                  refine ab_iald X (j) ⟨rfl, rfl⟩ d_MO_offer_62 (by first | assumption | decide | (show _ < 124; omega) | (show _ < 61; omega) | (show _ < 20; omega)) (rfl) (show j < 64 by omega) (ab_ln_lt _ _) ?_
                  refine ab_top (a6 j j1) ?_
                  refine ab_aload_n X 2 d_MO_offer_63 rfl rfl ?_
                  refine ab_gR X fl_MO_96 d_MO_offer_64 (by first | assumption | decide | (show _ < 124; omega) | (show _ < 61; omega) | (show _ < 20; omega)) (P0.1.mo28) ?_
                  refine ab_iload_n X 0 d_MO_offer_67 rfl rfl ?_
                  refine ab_iald X (j) ⟨rfl, rfl⟩ d_MO_offer_68 (by first | assumption | decide | (show _ < 124; omega) | (show _ < 61; omega) | (show _ < 20; omega)) (rfl) (show j < 64 by omega) (ab_ln_lt _ _) ?_
                  refine ab_top (b3 j j2) ?_
                  refine ab_icmp_ne X 78 d_MO_offer_69 rfl (fun _ => ?_) (fun hb => absurd hb (nq))
                  refine ab_iload_n X 0 d_MO_offer_78 rfl rfl ?_
                  refine ab_aload_n X 2 d_MO_offer_79 rfl rfl ?_
                  refine ab_gI X fl_MO_99 d_MO_offer_80 (by first | assumption | decide | (show _ < 124; omega) | (show _ < 61; omega) | (show _ < 20; omega)) (b1) ?_
                  refine ab_icmp_ge X 113 d_MO_offer_83 rfl (fun hb => absurd hb ((nI_ge (by omega) (by omega)))) (fun _ => ?_)
                  refine ab_iload_n X 0 d_MO_offer_86 rfl rfl ?_
                  refine ab_aload_n X 2 d_MO_offer_87 rfl rfl ?_
                  refine ab_gI X fl_MO_90 d_MO_offer_88 (by first | assumption | decide | (show _ < 124; omega) | (show _ < 61; omega) | (show _ < 20; omega)) (a1) ?_
                  refine ab_icmp_eq X 109 d_MO_offer_91 rfl (fun hb => absurd hb (nn)) (fun _ => ?_)
                  refine ab_aload_n X 2 d_MO_offer_94 rfl rfl ?_
                  refine ab_gR X fl_MO_87 d_MO_offer_95 (by first | assumption | decide | (show _ < 124; omega) | (show _ < 61; omega) | (show _ < 20; omega)) (P0.1.mo25) ?_
                  refine ab_iload_n X 0 d_MO_offer_98 rfl rfl ?_
                  refine ab_iald X (j) ⟨rfl, rfl⟩ d_MO_offer_99 (by first | assumption | decide | (show _ < 124; omega) | (show _ < 61; omega) | (show _ < 20; omega)) (rfl) (show j < 64 by omega) (ab_ln_lt _ _) ?_
                  refine ab_top (a6 j j1) ?_
                  refine ab_aload_n X 2 d_MO_offer_100 rfl rfl ?_
                  refine ab_gR X fl_MO_96 d_MO_offer_101 (by first | assumption | decide | (show _ < 124; omega) | (show _ < 61; omega) | (show _ < 20; omega)) (P0.1.mo28) ?_
                  refine ab_iload_n X 0 d_MO_offer_104 rfl rfl ?_
                  refine ab_iald X (j) ⟨rfl, rfl⟩ d_MO_offer_105 (by first | assumption | decide | (show _ < 124; omega) | (show _ < 61; omega) | (show _ < 20; omega)) (rfl) (show j < 64 by omega) (ab_ln_lt _ _) ?_
                  refine ab_top (b3 j j2) ?_
                  refine ab_icmp_ge X 113 d_MO_offer_106 rfl (fun _ => ?_) (fun hb => absurd ((nI_le (by omega) (by omega))) hb)
                  refine ab_iconst (v := 0) X d_MO_offer_113 (by decide) ?_
                  refine ab_istore_n2 X 0 2 d_MO_offer_114 rfl (by decide) rfl rfl rfl rfl ?_
                  refine ab_lv (List.forall_mem_cons.mpr ⟨List.mem_of_getElem? (i := 0) rfl, List.forall_mem_cons.mpr ⟨List.mem_of_getElem? (i := 2) rfl, fun _ h => absurd h List.not_mem_nil⟩⟩) ?_
                  exact fin0 (bF hv)
      by_cases we : wgt xs = wgt ys
      ·
        refine ab_aload_n X 0 d_MO_offer_0 rfl rfl ?_
        refine ab_gI X fl_MO_93 d_MO_offer_1 (by first | assumption | decide | (show _ < 124; omega) | (show _ < 61; omega) | (show _ < 20; omega)) (a2) ?_
        refine ab_ldcw X (v := 100000) (ab_in 1248 (by decide +kernel) (by decide +kernel)) d_MO_offer_4 ?_
        refine ab_icmp_lt X 11 d_MO_offer_7 rfl (fun _ => ?_) (fun hb => absurd ((nI_lt (a := wgt xs) (b := 100000) (by omega) (by decide))) hb)
        refine ab_aload_n X 0 d_MO_offer_11 rfl rfl ?_
        refine ab_gI X fl_MO_93 d_MO_offer_12 (by first | assumption | decide | (show _ < 124; omega) | (show _ < 61; omega) | (show _ < 20; omega)) (a2) ?_
        refine ab_aload_n X 0 d_MO_offer_15 rfl rfl ?_
        refine ab_gI X fl_MO_102 d_MO_offer_16 (by first | assumption | decide | (show _ < 124; omega) | (show _ < 61; omega) | (show _ < 20; omega)) (b2) ?_
        refine ab_icmp_ge X 26 d_MO_offer_19 rfl (fun _ => ?_) (fun hb => absurd ((nI_le (by omega) (by omega))) hb)
        refine ab_iconst (v := 0) X d_MO_offer_26 (by decide) ?_
        refine ab_istore_n1 X 0 d_MO_offer_27 rfl (by decide) rfl rfl ?_
        refine ab_aload_n X 1 d_MO_offer_28 rfl rfl ?_
        refine ab_gI X fl_MO_93 d_MO_offer_29 (by first | assumption | decide | (show _ < 124; omega) | (show _ < 61; omega) | (show _ < 20; omega)) (a2) ?_
        refine ab_aload_n X 1 d_MO_offer_32 rfl rfl ?_
        refine ab_gI X fl_MO_102 d_MO_offer_33 (by first | assumption | decide | (show _ < 124; omega) | (show _ < 61; omega) | (show _ < 20; omega)) (b2) ?_
        refine ab_icmp_ne X 115 d_MO_offer_36 rfl (fun hb => absurd ((by rw [we])) hb) (fun _ => ?_)
        refine ab_iconst (v := 0) X d_MO_offer_39 (by decide) ?_
        refine ab_istore_n2 X 0 1 d_MO_offer_40 rfl (by decide) rfl rfl rfl rfl ?_
        exact cmp 51 0 _ rfl (Nat.zero_le _) (Nat.zero_le _) (by unfold les; rw [if_pos we]; rfl)
      · have nw : ¬ nI (wgt xs) = nI (wgt ys) := fun z => we ((nI_eq (by omega) (by omega)).mp z)
        by_cases wl : wgt xs < wgt ys
        · have hv : les xs ys = true := by unfold les; rw [if_neg we]; exact decide_eq_true wl
          refine ab_aload_n X 0 d_MO_offer_0 rfl rfl ?_
          refine ab_gI X fl_MO_93 d_MO_offer_1 (by first | assumption | decide | (show _ < 124; omega) | (show _ < 61; omega) | (show _ < 20; omega)) (a2) ?_
          refine ab_ldcw X (v := 100000) (ab_in 1248 (by decide +kernel) (by decide +kernel)) d_MO_offer_4 ?_
          refine ab_icmp_lt X 11 d_MO_offer_7 rfl (fun _ => ?_) (fun hb => absurd ((nI_lt (a := wgt xs) (b := 100000) (by omega) (by decide))) hb)
          refine ab_aload_n X 0 d_MO_offer_11 rfl rfl ?_
          refine ab_gI X fl_MO_93 d_MO_offer_12 (by first | assumption | decide | (show _ < 124; omega) | (show _ < 61; omega) | (show _ < 20; omega)) (a2) ?_
          refine ab_aload_n X 0 d_MO_offer_15 rfl rfl ?_
          refine ab_gI X fl_MO_102 d_MO_offer_16 (by first | assumption | decide | (show _ < 124; omega) | (show _ < 61; omega) | (show _ < 20; omega)) (b2) ?_
          refine ab_icmp_ge X 26 d_MO_offer_19 rfl (fun hb => absurd hb ((nI_ge (by omega) (by omega)))) (fun _ => ?_)
          refine ab_iconst (v := 1) X d_MO_offer_22 (by decide) ?_
          refine ab_goto X 27 d_MO_offer_23 rfl ?_
          refine ab_istore_n1 X 0 d_MO_offer_27 rfl (by decide) rfl rfl ?_
          refine ab_aload_n X 1 d_MO_offer_28 rfl rfl ?_
          refine ab_gI X fl_MO_93 d_MO_offer_29 (by first | assumption | decide | (show _ < 124; omega) | (show _ < 61; omega) | (show _ < 20; omega)) (a2) ?_
          refine ab_aload_n X 1 d_MO_offer_32 rfl rfl ?_
          refine ab_gI X fl_MO_102 d_MO_offer_33 (by first | assumption | decide | (show _ < 124; omega) | (show _ < 61; omega) | (show _ < 20; omega)) (b2) ?_
          refine ab_icmp_ne X 115 d_MO_offer_36 rfl (fun _ => ?_) (fun hb => absurd hb (nw))
          exact fin1 (bT hv)
        · have hv : les xs ys = false := by unfold les; rw [if_neg we]; exact decide_eq_false wl
          refine ab_aload_n X 0 d_MO_offer_0 rfl rfl ?_
          refine ab_gI X fl_MO_93 d_MO_offer_1 (by first | assumption | decide | (show _ < 124; omega) | (show _ < 61; omega) | (show _ < 20; omega)) (a2) ?_
          refine ab_ldcw X (v := 100000) (ab_in 1248 (by decide +kernel) (by decide +kernel)) d_MO_offer_4 ?_
          refine ab_icmp_lt X 11 d_MO_offer_7 rfl (fun _ => ?_) (fun hb => absurd ((nI_lt (a := wgt xs) (b := 100000) (by omega) (by decide))) hb)
          refine ab_aload_n X 0 d_MO_offer_11 rfl rfl ?_
          refine ab_gI X fl_MO_93 d_MO_offer_12 (by first | assumption | decide | (show _ < 124; omega) | (show _ < 61; omega) | (show _ < 20; omega)) (a2) ?_
          refine ab_aload_n X 0 d_MO_offer_15 rfl rfl ?_
          refine ab_gI X fl_MO_102 d_MO_offer_16 (by first | assumption | decide | (show _ < 124; omega) | (show _ < 61; omega) | (show _ < 20; omega)) (b2) ?_
          refine ab_icmp_ge X 26 d_MO_offer_19 rfl (fun _ => ?_) (fun hb => absurd ((nI_le (by omega) (by omega))) hb)
          refine ab_iconst (v := 0) X d_MO_offer_26 (by decide) ?_
          refine ab_istore_n1 X 0 d_MO_offer_27 rfl (by decide) rfl rfl ?_
          refine ab_aload_n X 1 d_MO_offer_28 rfl rfl ?_
          refine ab_gI X fl_MO_93 d_MO_offer_29 (by first | assumption | decide | (show _ < 124; omega) | (show _ < 61; omega) | (show _ < 20; omega)) (a2) ?_
          refine ab_aload_n X 1 d_MO_offer_32 rfl rfl ?_
          refine ab_gI X fl_MO_102 d_MO_offer_33 (by first | assumption | decide | (show _ < 124; omega) | (show _ < 61; omega) | (show _ < 20; omega)) (b2) ?_
          refine ab_icmp_ne X 115 d_MO_offer_36 rfl (fun _ => ?_) (fun hb => absurd hb (nw))
          exact fin0 (bF hv)
end SaSMOffer

