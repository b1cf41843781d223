/-! Rows, item by item. -/
def wo (a : Nat) : Nat := if 20 ≤ a then 5 else if 10 ≤ a then 9 else 1
def wgt : List Nat → Nat
  | [] => 0
  | a :: xs => wo a + wgt xs
theorem wgt_app : ∀ xs ys : List Nat, wgt (xs ++ ys) = wgt xs + wgt ys := by
  intro xs ys
  induction xs with
  | nil => exact (Nat.zero_add _).symm
  | cons a xs ih =>
    show wo a + wgt (xs ++ ys) = wo a + wgt xs + wgt ys
    rw [ih]; omega
theorem wgt_01 : ∀ xs : List Nat, (∀ x, x ∈ xs → x = 0 ∨ x = 1) → wgt xs = xs.length := by
  intro xs
  induction xs with
  | nil => intro _; rfl
  | cons a xs ih =>
    intro h
    have e : wo a = 1 := by rcases h a List.mem_cons_self with rfl | rfl <;> rfl
    show wo a + wgt xs = xs.length + 1
    rw [e, ih (fun x hx => h x (List.mem_cons_of_mem _ hx))]; omega
theorem wo_nI {a : Nat} (h : a < 1000) : (if 20 ≤ nI a then (5 : Int32) else if 10 ≤ nI a then 9 else 1) = nI (wo a) := by
  unfold wo
  by_cases z : 20 ≤ a
  · have y : (20 : Int32) ≤ nI a := nI_le (a := 20) (b := a) z (by omega)
    rw [if_pos y, if_pos z]; rfl
  · have y : ¬ (20 : Int32) ≤ nI a := nI_ge (a := a) (b := 20) (by omega) (by decide)
    rw [if_neg y, if_neg z]
    by_cases x : 10 ≤ a
    · have t : (10 : Int32) ≤ nI a := nI_le (a := 10) (b := a) x (by omega)
      rw [if_pos t, if_pos x]; rfl
    · have t : ¬ (10 : Int32) ≤ nI a := nI_ge (a := a) (b := 10) (by omega) (by decide)
      rw [if_neg t, if_neg x]; rfl
/-- a row that is made, its items from the top on -/
def Rw (u : ab_S) (r : Nat) (xs : List Nat) : Prop := u.1 4 r 1 = nI xs.length ∧ (∀ i, i < xs.length → u.1 8 r i = nI (xs.getD i 0)) ∧ u.1 4 r 2 = nI (wgt xs) ∧ u.1 4 r 3 = 1
/-- only these rows have changed -/
def rO (A : Nat → Prop) (u u' : ab_S) : Prop := (∀ c i k, ¬ ((c = 4 ∨ c = 8) ∧ A i) → u'.1 c i k = u.1 c i k) ∧ u'.2 = u.2
theorem rO.rf {A : Nat → Prop} {u : ab_S} : rO A u u := ⟨fun _ _ _ _ => rfl, rfl⟩
theorem rO.trans {A : Nat → Prop} {u u1 u2 : ab_S} (h : rO A u u1) (g : rO A u1 u2) : rO A u u2 := ⟨fun c i k z => (g.1 c i k z).trans (h.1 c i k z), g.2.trans h.2⟩
theorem rO.wk {A B : Nat → Prop} {u u1 : ab_S} (h : rO A u u1) (g : ∀ i, A i → B i) : rO B u u1 := ⟨fun c i k z => h.1 c i k (fun y => z ⟨y.1, g i y.2⟩), h.2⟩
theorem Rw.fr {A : Nat → Prop} {u u' : ab_S} {r : Nat} {xs : List Nat} (h : Rw u r xs) (o : rO A u u') (hr : ¬ A r) : Rw u' r xs := by
  obtain ⟨a1, a2, a3, a4⟩ := h
  exact ⟨(o.1 _ _ _ (fun z => hr z.2)).trans a1, fun i hi => (o.1 _ _ _ (fun z => hr z.2)).trans (a2 i hi), (o.1 _ _ _ (fun z => hr z.2)).trans a3, (o.1 _ _ _ (fun z => hr z.2)).trans a4⟩
theorem Rw.cong {u u' : ab_S} {r : Nat} {xs : List Nat} (h : Rw u r xs) (e4 : ∀ k, u'.1 4 r k = u.1 4 r k) (e8 : ∀ k, u'.1 8 r k = u.1 8 r k) : Rw u' r xs := by
  obtain ⟨a1, a2, a3, a4⟩ := h
  exact ⟨(e4 _).trans a1, fun i hi => (e8 _).trans (a2 i hi), (e4 _).trans a3, (e4 _).trans a4⟩
theorem Rw.len {u : ab_S} {r : Nat} {xs : List Nat} (h : Rw u r xs) (hc : CI u) (hr : r < 124) (hx : xs.length < 2 ^ 31) : xs.length ≤ ab_ln 8 r := by
  obtain ⟨n, hn, en⟩ := hc.row hr
  have l := ab_ln8b r
  have : n = xs.length := (nI_eq (by omega) hx).mp (en.symm.trans h.1)
  omega
theorem gd_app {xs ys : List Nat} {j : Nat} : (xs ++ ys).getD (xs.length + j) 0 = ys.getD j 0 := by
  rw [List.getD_eq_getElem?_getD, List.getD_eq_getElem?_getD, List.getElem?_append_right (by omega), show xs.length + j - xs.length = j by omega]
theorem gd_appl {xs ys : List Nat} {i : Nat} (h : i < xs.length) : (xs ++ ys).getD i 0 = xs.getD i 0 := by
  rw [List.getD_eq_getElem?_getD, List.getD_eq_getElem?_getD, List.getElem?_append_left h]
section SaXRow
variable {l : Launch} {D : va_G} {ca : Nat → ClassId}
theorem x_RW_start (u : ab_S) (r : Nat) (h : CI u) (hr : r < 124) : ab_C false l D ca y_RW_start b_RW_start 1 none 0 ab_nQ u [ab_O 4 r] (fun u' v => (cP [4, 8] u u' ∧ rO (fun i => i = r) u u' ∧ Rw u' r []) ∧ v = none) := by
  have hr4 : r < ab_nQ 4 := hr
  refine ab_C_mono (c_RW_start u r hr4) ?_
  rintro u' v ⟨rfl, rfl⟩
  have P0 : cP [4, 8] u u := cQ.rf h
  refine ⟨⟨((P0.row0 (by decide) (r := r)).ui rfl (by decide)).ui rfl (by decide), ⟨fun c i k z => (ui_n _ (by omega)).trans ((ui_n _ (by omega)).trans (ui_n _ (by omega))), rfl⟩, ?_, fun i hi => absurd hi (Nat.not_lt_zero i), ?_, ui_s _⟩, rfl⟩
  · exact (ui_n _ (by omega)).trans ((ui_n _ (by omega)).trans (ui_s _))
  · exact (ui_n _ (by omega)).trans (ui_s _)
set_option maxRecDepth 100000 in
set_option maxHeartbeats 1000000 in
theorem x_RW_add (u : ab_S) (r a : Nat) (xs : List Nat) (A : Rw u r xs) (ha : a < 1000) (hl : xs.length < ab_ln 8 r) (h : CI u) (hr : r < 124) : ab_C false l D ca y_RW_add b_RW_add 2 none 1 ab_nQ u [ab_O 4 r, ab_I (nI a)] (fun u' v => (cP [4, 8] u u' ∧ rO (fun i => i = r) u u' ∧ Rw u' r (xs ++ [a])) ∧ v = none) := by
  refine ab_C.of (by decide) (Nat.le_of_ble_eq_true rfl) ?_
  intro p e s m args below meth c ad X hZ hr0 hlk
  have P0 : cP [4, 8] u u := cQ.rf h
  have l2 := ab_ln8b r
  obtain ⟨a1, a2, a3, a4⟩ := A
  refine ab_aload_n X 0 d_RW_add_0 rfl rfl ?_
  refine ab_gI X fl_RW_9 d_RW_add_1 (by first | assumption | decide | (show _ < 124; omega) | (show _ < 61; omega) | (show _ < 20; omega)) (a1) ?_
  refine ab_aload_n X 0 d_RW_add_4 rfl rfl ?_
  refine ab_gR X fl_RW_22 d_RW_add_5 (by first | assumption | decide | (show _ < 124; omega) | (show _ < 61; omega) | (show _ < 20; omega)) (P0.1.rw (by first | assumption | decide | omega)) ?_
  refine ab_alen X ⟨by decide, _, fun _ => rfl⟩ d_RW_add_8 (by first | assumption | decide | (show _ < 124; omega) | (show _ < 61; omega) | (show _ < 20; omega)) (rfl) ?_
  refine ab_icmp_ge X 45 d_RW_add_9 rfl (fun hb => absurd hb ((nI_ge (by omega) (by omega)))) (fun _ => ?_)
  refine ab_aload_n X 0 d_RW_add_12 rfl rfl ?_
  refine ab_gR X fl_RW_22 d_RW_add_13 (by first | assumption | decide | (show _ < 124; omega) | (show _ < 61; omega) | (show _ < 20; omega)) (P0.1.rw (by first | assumption | decide | omega)) ?_
  refine ab_aload_n X 0 d_RW_add_16 rfl rfl ?_
  refine ab_gI X fl_RW_9 d_RW_add_17 (by first | assumption | decide | (show _ < 124; omega) | (show _ < 61; omega) | (show _ < 20; omega)) (a1) ?_
  refine ab_iload_n X 1 d_RW_add_20 rfl rfl ?_
  refine ab_iast X (xs.length) ⟨rfl, rfl⟩ d_RW_add_21 (by first | assumption | decide | (show _ < 124; omega) | (show _ < 61; omega) | (show _ < 20; omega)) (rfl) (hl) (ab_ln_lt _ _) ?_
  refine ab_gen (fun u21 e21 => ?_)
  have P21 : cP [4, 8] u u21 := by rw [e21]; exact P0.ui rfl (by decide)
  refine ab_aload_n X 0 d_RW_add_22 rfl rfl ?_
  refine ab_dup X d_RW_add_23 rfl ?_
  refine ab_gI X fl_RW_9 d_RW_add_24 (by first | assumption | decide | (show _ < 124; omega) | (show _ < 61; omega) | (show _ < 20; omega)) ((show _ = nI xs.length by rw [e21]; exact (ui_n _ (by omega)).trans a1)) ?_
  refine ab_iconst (v := 1) X d_RW_add_27 (by decide) ?_
  refine ab_iadd X d_RW_add_28 ?_
  refine ab_top (nI_1 _) ?_
  refine ab_putI X fp_RW_9 d_RW_add_29 (by first | assumption | decide | (show _ < 124; omega) | (show _ < 61; omega) | (show _ < 20; omega)) rfl rfl ?_
  refine ab_gen (fun u29 e29 => ?_)
  have P29 : cP [4, 8] u u29 := by rw [e29]; exact P21.row (by decide) (by omega)
  refine ab_aload_n X 0 d_RW_add_32 rfl rfl ?_
  refine ab_dup X d_RW_add_33 rfl ?_
  refine ab_gI X fl_RW_15 d_RW_add_34 (by first | assumption | decide | (show _ < 124; omega) | (show _ < 61; omega) | (show _ < 20; omega)) ((show _ = nI (wgt xs) by rw [e29, e21]; exact (ui_n _ (by omega)).trans ((ui_n _ (by omega)).trans a3))) ?_
  refine ab_iload_n X 1 d_RW_add_37 rfl rfl ?_
  refine ab_callS (as := [ab_I (nI a)]) X (fun h => by cases h) (c_RW_weightOf (N := ab_nQ) u29 (nI a)) ls_RW_26 d_RW_add_38 rfl rfl ⟨by first | exact Nat.le_of_ble_eq_true rfl | (simp only [ab_rm]; omega), by first | exact Nat.le_of_ble_eq_true rfl | (simp only [ab_rm]; omega)⟩ ⟨by first | exact Nat.le_of_ble_eq_true rfl | (simp only [ab_rm]; omega), by first | exact Nat.le_of_ble_eq_true rfl | (simp only [ab_rm]; omega)⟩ (Nat.le_of_ble_eq_true rfl) (fun u38 r38 h38 => ?_)
  obtain ⟨e38, rfl⟩ := h38
  subst u38
  rw [wo_nI ha]
  refine ab_iadd X d_RW_add_41 ?_
  refine ab_top (nI_add _ _) ?_
  refine ab_putI X fp_RW_15 d_RW_add_42 (by first | assumption | decide | (show _ < 124; omega) | (show _ < 61; omega) | (show _ < 20; omega)) rfl rfl ?_
  refine ab_gen (fun u42 e42 => ?_)
  have P42 : cP [4, 8] u u42 := by rw [e42]; exact P29.ui rfl (by decide)
  exact ab_retv X hr0 hlk d_RW_add_45 ⟨⟨P42, ⟨fun c i k z => by rw [e42, e29, e21]; exact (ui_n _ (by omega)).trans ((ui_n _ (by omega)).trans (ui_n _ (by omega))), by rw [e42, e29, e21]⟩, by rw [e42, e29, List.length_append]; exact (ui_n _ (by omega)).trans (ui_s _), fun i hi => by
      rw [List.length_append] at hi
      have hi : i < xs.length + 1 := hi
      rw [e42, e29, e21]
      by_cases q : i = xs.length
      · rw [q]; exact (ui_n _ (by omega)).trans ((ui_n _ (by omega)).trans ((ui_s _).trans (by rw [show xs.length = xs.length + 0 from rfl, gd_app]; rfl)))
      · exact (ui_n _ (by omega)).trans ((ui_n _ (by omega)).trans ((ui_n _ (by omega)).trans ((a2 i (by omega)).trans (by rw [gd_appl (by omega)])))), by rw [e42, wgt_app]; exact ui_s _, by rw [e42, e29, e21]; exact (ui_n _ (by omega)).trans ((ui_n _ (by omega)).trans ((ui_n _ (by omega)).trans a4))⟩, rfl⟩
set_option maxRecDepth 100000 in
set_option maxHeartbeats 1000000 in
theorem x_RW_join (u : ab_S) (r o : Nat) (xs ys : List Nat) (A : Rw u r xs) (B : Rw u o ys) (hn : r ≠ o) (hl : xs.length + ys.length ≤ ab_ln 8 r) (h : CI u) (hr : r < 124) (ho : o < 124) : ab_C false l D ca y_RW_join b_RW_join 3 none 1 ab_nQ u [ab_O 4 r, ab_O 4 o] (fun u' v => (cP [4, 8] u u' ∧ rO (fun i => i = r) u u' ∧ Rw u' r (xs ++ ys)) ∧ v = none) := by
  refine ab_C.of (by decide) (Nat.le_of_ble_eq_true rfl) ?_
  intro p e s m args below meth c ad X hZ hr0 hlk
  have P0 : cP [4, 8] u u := cQ.rf h
  have l1 := ab_ln8b o
  have l2 := ab_ln8b r
  have lo := B.len h ho (by omega)
  obtain ⟨a1, a2, a3, a4⟩ := A
  obtain ⟨b1, b2, b3, b4⟩ := B
  have loop : ∀ (k j : Nat) (u1 : ab_S), k + j = ys.length → cP [4, 8] u u1 → rO (fun i => i = r) u u1 → u1.1 4 r 1 = nI (xs.length + j) → (∀ i, i < xs.length + j → u1.1 8 r i = nI ((xs ++ ys).getD i 0)) → u1.1 4 r 2 = nI (wgt (xs ++ ys)) → u1.1 4 r 3 = 1 → ab_J p l e (ab_rm 1 0 0) s m args below meth c (MQ below (ab_Q D ca ad ab_nQ s.heap.size (fun u' v => (cP [4, 8] u u' ∧ rO (fun i => i = r) u u' ∧ Rw u' r (xs ++ ys)) ∧ v = none)) args s 0 0 (ab_A ad ab_nQ s.heap.size)) D ca (ab_A ad ab_nQ s.heap.size) s.heap 3 0 0 ad ab_nQ u1 38 [(2, ab_I (nI j)), (0, ab_O 4 r), (1, ab_O 4 o)] [] := by
    intro k
    induction k with
    | zero =>
      intro j u1 hj P1 O1 c1 c2 c3 c4
      obtain rfl : j = ys.length := by omega
      refine ab_iload_n X 0 d_RW_join_38 rfl rfl ?_
      refine ab_aload_n X 2 d_RW_join_39 rfl rfl ?_
      refine ab_gI X fl_RW_9 d_RW_join_40 (by first | assumption | decide | (show _ < 124; omega) | (show _ < 61; omega) | (show _ < 20; omega)) ((O1.1 _ _ _ (fun z => hn z.2.symm)).trans b1) ?_
      refine ab_icmp_ge X 89 d_RW_join_43 rfl (fun _ => ?_) (fun hb => absurd ((nI_le (by omega) (by omega))) hb)
      exact ab_retv X hr0 hlk d_RW_join_89 ⟨⟨P1, O1, by rw [List.length_append]; exact c1, fun i hi => c2 i (by rw [List.length_append] at hi; exact hi), c3, c4⟩, rfl⟩
    | succ k ih =>
      intro j u1 hj P1 O1 c1 c2 c3 c4
      refine ab_iload_n X 0 d_RW_join_38 rfl rfl ?_
      refine ab_aload_n X 2 d_RW_join_39 rfl rfl ?_
      refine ab_gI X fl_RW_9 d_RW_join_40 (by first | assumption | decide | (show _ < 124; omega) | (show _ < 61; omega) | (show _ < 20; omega)) ((O1.1 _ _ _ (fun z => hn z.2.symm)).trans b1) ?_
      refine ab_icmp_ge X 89 d_RW_join_43 rfl (fun hb => absurd hb ((nI_ge (by omega) (by omega)))) (fun _ => ?_)
      refine ab_aload_n X 1 d_RW_join_46 rfl rfl ?_
      refine ab_gI X fl_RW_9 d_RW_join_47 (by first | assumption | decide | (show _ < 124; omega) | (show _ < 61; omega) | (show _ < 20; omega)) (c1) ?_
      refine ab_aload_n X 1 d_RW_join_50 rfl rfl ?_
      refine ab_gR X fl_RW_22 d_RW_join_51 (by first | assumption | decide | (show _ < 124; omega) | (show _ < 61; omega) | (show _ < 20; omega)) (P1.1.rw (by first | assumption | decide | omega)) ?_
      refine ab_alen X ⟨by decide, _, fun _ => rfl⟩ d_RW_join_54 (by first | assumption | decide | (show _ < 124; omega) | (show _ < 61; omega) | (show _ < 20; omega)) (rfl) ?_
      refine ab_icmp_ge X 89 d_RW_join_55 rfl (fun hb => absurd hb ((nI_ge (by omega) (by omega)))) (fun _ => ?_)
      refine ab_aload_n X 1 d_RW_join_58 rfl rfl ?_
      refine ab_gR X fl_RW_22 d_RW_join_59 (by first | assumption | decide | (show _ < 124; omega) | (show _ < 61; omega) | (show _ < 20; omega)) (P1.1.rw (by first | assumption | decide | omega)) ?_
      refine ab_aload_n X 1 d_RW_join_62 rfl rfl ?_
      refine ab_gI X fl_RW_9 d_RW_join_63 (by first | assumption | decide | (show _ < 124; omega) | (show _ < 61; omega) | (show _ < 20; omega)) (c1) ?_
      refine ab_aload_n X 2 d_RW_join_66 rfl rfl ?_
      refine ab_gR X fl_RW_22 d_RW_join_67 (by first | assumption | decide | (show _ < 124; omega) | (show _ < 61; omega) | (show _ < 20; omega)) (P1.1.rw (by first | assumption | decide | omega)) ?_
      refine ab_iload_n X 0 d_RW_join_70 rfl rfl ?_
      refine ab_iald X (j) ⟨rfl, rfl⟩ d_RW_join_71 (by first | assumption | decide | (show _ < 124; omega) | (show _ < 61; omega) | (show _ < 20; omega)) (rfl) (by omega) (ab_ln_lt _ _) ?_
      refine ab_top ((O1.1 _ _ _ (fun z => hn z.2.symm)).trans (b2 j (by omega))) ?_
      refine ab_iast X (xs.length + j) ⟨rfl, rfl⟩ d_RW_join_72 (by first | assumption | decide | (show _ < 124; omega) | (show _ < 61; omega) | (show _ < 20; omega)) (rfl) (by omega) (ab_ln_lt _ _) ?_
      refine ab_gen (fun u72 e72 => ?_)
      have P72 : cP [4, 8] u u72 := by rw [e72]; exact P1.ui rfl (by decide)
      refine ab_aload_n X 1 d_RW_join_73 rfl rfl ?_
      refine ab_dup X d_RW_join_74 rfl ?_
      refine ab_gI X fl_RW_9 d_RW_join_75 (by first | assumption | decide | (show _ < 124; omega) | (show _ < 61; omega) | (show _ < 20; omega)) ((show _ = nI (xs.length + j) by rw [e72]; exact (ui_n _ (by omega)).trans c1)) ?_
      refine ab_iconst (v := 1) X d_RW_join_78 (by decide) ?_
      refine ab_iadd X d_RW_join_79 ?_
      refine ab_top (nI_1 _) ?_
      refine ab_putI X fp_RW_9 d_RW_join_80 (by first | assumption | decide | (show _ < 124; omega) | (show _ < 61; omega) | (show _ < 20; omega)) rfl rfl ?_
      refine ab_gen (fun u80 e80 => ?_)
      have P80 : cP [4, 8] u u80 := by rw [e80]; exact P72.row (by decide) (by omega)
      refine ab_iinc2 X 0 1 2 d_RW_join_83 rfl (by decide) rfl rfl rfl rfl ?_
      refine ab_goto X 38 d_RW_join_86 rfl ?_
      rw [show nI j + Int32.ofInt 1 = nI (j + 1) from nI_1 j]
      refine ih (j + 1) _ (by omega) P80 (O1.trans ⟨fun c i k z => by rw [e80, e72]; exact (ui_n _ (by omega)).trans (ui_n _ (by omega)), by rw [e80, e72]⟩) (by rw [e80]; exact ui_s _) (fun i hi => ?_) (by rw [e80, e72]; exact (ui_n _ (by omega)).trans ((ui_n _ (by omega)).trans c3)) (by rw [e80, e72]; exact (ui_n _ (by omega)).trans ((ui_n _ (by omega)).trans c4))
      rw [e80, e72]
      by_cases q : i = xs.length + j
      · rw [q, gd_app]; exact (ui_n _ (by omega)).trans (ui_s _)
      · exact (ui_n _ (by omega)).trans ((ui_n _ (by omega)).trans (c2 i (by omega)))
  refine ab_aload_n X 0 d_RW_join_0 rfl rfl ?_
  refine ab_aload_n X 0 d_RW_join_1 rfl rfl ?_
  refine ab_gI X fl_RW_18 d_RW_join_2 (by first | assumption | decide | (show _ < 124; omega) | (show _ < 61; omega) | (show _ < 20; omega)) (a4) ?_
  refine ab_if_eq X 19 d_RW_join_5 rfl (fun hb => absurd hb ((by decide))) (fun _ => ?_)
  refine ab_aload_n X 1 d_RW_join_8 rfl rfl ?_
  refine ab_gI X fl_RW_18 d_RW_join_9 (by first | assumption | decide | (show _ < 124; omega) | (show _ < 61; omega) | (show _ < 20; omega)) (b4) ?_
  refine ab_if_eq X 19 d_RW_join_12 rfl (fun hb => absurd hb ((by decide))) (fun _ => ?_)
  refine ab_iconst (v := 1) X d_RW_join_15 (by decide) ?_
  refine ab_goto X 20 d_RW_join_16 rfl ?_
  refine ab_putI X fp_RW_18 d_RW_join_20 (by first | assumption | decide | (show _ < 124; omega) | (show _ < 61; omega) | (show _ < 20; omega)) rfl rfl ?_
  refine ab_gen (fun u20 e20 => ?_)
  have P20 : cP [4, 8] u u20 := by rw [e20]; exact P0.ui rfl (by decide)
  refine ab_aload_n X 0 d_RW_join_23 rfl rfl ?_
  refine ab_dup X d_RW_join_24 rfl ?_
  refine ab_gI X fl_RW_15 d_RW_join_25 (by first | assumption | decide | (show _ < 124; omega) | (show _ < 61; omega) | (show _ < 20; omega)) ((show _ = nI (wgt xs) by rw [e20]; exact (ui_n _ (by omega)).trans a3)) ?_
  refine ab_aload_n X 1 d_RW_join_28 rfl rfl ?_
  refine ab_gI X fl_RW_15 d_RW_join_29 (by first | assumption | decide | (show _ < 124; omega) | (show _ < 61; omega) | (show _ < 20; omega)) ((show _ = nI (wgt ys) by rw [e20]; exact (ui_n _ (by omega)).trans b3)) ?_
  refine ab_iadd X d_RW_join_32 ?_
  refine ab_top (nI_add _ _) ?_
  refine ab_putI X fp_RW_15 d_RW_join_33 (by first | assumption | decide | (show _ < 124; omega) | (show _ < 61; omega) | (show _ < 20; omega)) rfl rfl ?_
  refine ab_gen (fun u33 e33 => ?_)
  have P33 : cP [4, 8] u u33 := by rw [e33]; exact P20.ui rfl (by decide)
  refine ab_iconst (v := 0) X d_RW_join_36 (by decide) ?_
  refine ab_istore_n2 X 0 1 d_RW_join_37 rfl (by decide) rfl rfl rfl rfl ?_
  exact loop ys.length 0 _ (by omega) P33 ⟨fun c i k z => by rw [e33, e20]; exact (ui_n _ (by omega)).trans (ui_n _ (by omega)), by rw [e33, e20]⟩ (by rw [e33, e20]; exact (ui_n _ (by omega)).trans ((ui_n _ (by omega)).trans a1)) (fun i hi => by rw [e33, e20, gd_appl (by omega)]; exact (ui_n _ (by omega)).trans ((ui_n _ (by omega)).trans (a2 i (by omega)))) (by rw [e33, wgt_app]; exact ui_s _) (by rw [e33, e20]; exact (ui_n _ (by omega)).trans (ui_s _))
end SaXRow

