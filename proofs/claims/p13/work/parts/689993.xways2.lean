/-! The ways of B, D and V. -/
section SaXWays2
variable {l : Launch} {D : va_G} {ca : Nat → ClassId}
/-- a leaf is offered -/
theorem x_FM_leaf (u : ab_S) (M : Nat) (kd ar cn lf : Nat → Nat) (ch : Nat → Nat → Nat) (Y : Nat → Nat → Nat × Nat × Nat) (R : Nat → List Nat) (W : tW M kd ar cn lf ch) (hB : ∀ q, q < M → xB lf Y R q) (pq : Nat) (hpM : pq < M) (w j f : Nat) (o : Option (Nat × Nat × Nat)) (hw : wok (kd pq) (ar pq) (cn pq) j w) (hl : w = 1 ∨ w = 11 ∨ w = 12) (F : FD u 60 1 (nI (1000 * kd pq + ar pq)) 0 0 z1f) (B : xO kd ar cn ch u pq f o) (h : CI u) (hf : f < 60) : ab_C false l D ca y_FM_offer b_FM_offer 6 none 3 ab_nQ u [ab_O 3 f, ab_O 3 60] (fun u' v => (cP [3, 9] u u' ∧ fO (fun i => i = f) u u' ∧ xO kd ar cn ch u' pq f (pk o w ((tL cn ch (xL Y) pq) w) ((tG kd ar cn ch (xG Y) R pq) w))) ∧ v = none) := by
  have hc : ct cn w pq = 0 := if_pos hl
  have hr : rul w = 1 := if_pos hl
  have hF : Fw kd ar cn ch u pq 60 w := by
    have e1 : mrk kd ar w pq = nI (1000 * kd pq + ar pq) := if_pos hr
    have e2 : ned kd ar cn w pq = 0 := if_pos hr
    unfold Fw
    rw [hr, e1, e2, hc]
    exact F.co (fun i hi => absurd hi (Nat.not_lt_zero i))
  exact x_FM_off u M kd ar cn lf ch Y R W hB pq hpM w j f o hw hF (fun i hi => absurd hi (by omega)) B h hf
set_option maxRecDepth 100000 in
set_option maxHeartbeats 1000000 in
theorem x_PT_waysD (u : ab_S) (M : Nat) (kd ar cn lf : Nat → Nat) (ch : Nat → Nat → Nat) (Y : Nat → Nat → Nat × Nat × Nat) (R : Nat → List Nat) (W : tW M kd ar cn lf ch) (hB : ∀ q, q < M → xB lf Y R q) (pq : Nat) (hpM : pq < M) (mm : pm kd ar cn ch pq u) (h : CI u) (f : Nat) (o : Option (Nat × Nat × Nat)) (B : xO kd ar cn ch u pq f o) (hf : f < 3 * (pq + 2)) (K : cK M Y R (pq + 1) u) : ab_C false l D ca y_PT_offerWaysOfD b_PT_offerWaysOfD 3 none 5 ab_nQ u [ab_O 2 (pq + 1), ab_O 3 f, ab_O 3 60] (fun u' v => (cP [3, 9] u u' ∧ fO (fun i => i = f ∨ i = 60) u u' ∧ xO kd ar cn ch u' pq f (pks (tL cn ch (xL Y) pq) (tG kd ar cn ch (xG Y) R pq) o (wD1 (kd pq)))) ∧ v = none) := by
  refine ab_C.of (by decide) (Nat.le_of_ble_eq_true rfl) ?_
  intro p e s m args below meth c ad X hZ hr0 hlk
  have P0 : cP [3, 9] u u := cQ.rf h
  have hP19 := W.2.1
  have hf60 : f < 60 := by omega
  obtain ⟨⟨l1, l2, k1, k7, r9⟩, -, kb⟩ := W.2.2 pq hpM
  obtain ⟨m4, m5, m6, m7⟩ := id mm
  have ek : u.1 2 (pq + 1) 4 = ab_kinds (kd pq - 1) := by rw [m4, ck_kd (kd pq - 1) (by omega), show kd pq - 1 + 1 = kd pq by omega]
  have cs : kd pq = 1 ∨ (kd pq ≠ 1 ∧ kd pq < 5) ∨ kd pq = 5 ∨ kd pq = 6 ∨ kd pq = 7 := by omega
  rcases cs with q1 | ⟨q1, q5⟩ | q5 | q6 | q7
  · have e4 : u.1 2 (pq + 1) 4 = nI 1 := by rw [m4, q1]; rfl
    have e5 : u.1 2 (pq + 1) 5 = nI (ar pq) := by rw [m5, q1]; rfl
    have eW : wD1 (kd pq) = [1] := if_pos q1
    have hw : wok (kd pq) (ar pq) (cn pq) 0 1 := wys_ok ⟨k1, k7⟩ (by decide) (by rw [q1]; show 1 ∈ [1]; decide)
    refine ab_aload_n X 0 d_PT_offerWaysOfD_0 rfl rfl ?_
    refine ab_gI X fl_PT_30 d_PT_offerWaysOfD_1 (by first | assumption | decide | (show _ < 124; omega) | (show _ < 61; omega) | (show _ < 20; omega)) (e4) ?_
    refine ab_iconst (v := 1) X d_PT_offerWaysOfD_4 (by decide) ?_
    refine ab_icmp_ne X 34 d_PT_offerWaysOfD_5 rfl (fun hb => absurd (rfl) hb) (fun _ => ?_)
    refine ab_aload_n X 1 d_PT_offerWaysOfD_8 rfl rfl ?_
    refine ab_aload_n X 2 d_PT_offerWaysOfD_9 rfl rfl ?_
    refine ab_iconst (v := 1) X d_PT_offerWaysOfD_10 (by decide) ?_
    refine ab_sipush (v := 1000) X d_PT_offerWaysOfD_11 (by decide) ?_
    refine ab_aload_n X 0 d_PT_offerWaysOfD_14 rfl rfl ?_
    refine ab_gI X fl_PT_30 d_PT_offerWaysOfD_15 (by first | assumption | decide | (show _ < 124; omega) | (show _ < 61; omega) | (show _ < 20; omega)) (e4) ?_
    refine ab_imul X d_PT_offerWaysOfD_18 ?_
    refine ab_top (show _ = nI (1000 * kd pq) from (pk_mul 1000 1).trans (by rw [q1])) ?_
    refine ab_aload_n X 0 d_PT_offerWaysOfD_19 rfl rfl ?_
    refine ab_gI X fl_PT_34 d_PT_offerWaysOfD_20 (by first | assumption | decide | (show _ < 124; omega) | (show _ < 61; omega) | (show _ < 20; omega)) (e5) ?_
    refine ab_iadd X d_PT_offerWaysOfD_23 ?_
    refine ab_top (nI_add _ _) ?_
    refine ab_iconst (v := 0) X d_PT_offerWaysOfD_24 (by decide) ?_
    refine ab_callV (as := [ab_I (nI 1), ab_I (nI (1000 * kd pq + ar pq)), ab_I 0]) X (fun h => by cases h) (f_FM_start u 60 1 _ 0 z1f (P0.ex 60).1 (by decide)) lk_PT_65 d_PT_offerWaysOfD_25 rfl rfl (by first | assumption | decide | (show _ < 124; omega) | (show _ < 61; omega) | (show _ < 20; omega)) ⟨by first | exact Nat.le_of_ble_eq_true rfl | (simp only [ab_rm]; omega), by first | exact Nat.le_of_ble_eq_true rfl | (simp only [ab_rm]; omega)⟩ ⟨by first | exact Nat.le_of_ble_eq_true rfl | (simp only [ab_rm]; omega), by first | exact Nat.le_of_ble_eq_true rfl | (simp only [ab_rm]; omega)⟩ (Nat.le_of_ble_eq_true rfl) (fun u25 r25 h25 => ?_)
    obtain ⟨⟨q25, o25, d25, w25, x25⟩, rfl⟩ := h25
    have P25 := P0.trans q25 (by decide)
    have R28 := ci_done P25 d25.1 d25.2.2.2.1 (by decide) ci_cl1
    refine ab_callV (as := [ab_O 3 60]) X (fun h => by cases h) (x_FM_leaf u25 M kd ar cn lf ch Y R W hB pq hpM 1 0 f o hw (Or.inl rfl) d25 (B.fr o25 (by omega)) R28.1 hf60) lk_PT_73 d_PT_offerWaysOfD_28 rfl rfl (by first | assumption | decide | (show _ < 124; omega) | (show _ < 61; omega) | (show _ < 20; omega)) ⟨by first | exact Nat.le_of_ble_eq_true rfl | (simp only [ab_rm]; omega), by first | exact Nat.le_of_ble_eq_true rfl | (simp only [ab_rm]; omega)⟩ ⟨by first | exact Nat.le_of_ble_eq_true rfl | (simp only [ab_rm]; omega), by first | exact Nat.le_of_ble_eq_true rfl | (simp only [ab_rm]; omega)⟩ (Nat.le_of_ble_eq_true rfl) (fun u28 r28 h28 => ?_)
    obtain ⟨⟨q28, o28, b28⟩, rfl⟩ := h28
    have P28 := R28.trans q28 (by decide)
    refine ab_goto X 50 d_PT_offerWaysOfD_31 rfl ?_
    refine ab_aload_n X 0 d_PT_offerWaysOfD_50 rfl rfl ?_
    refine ab_gI X fl_PT_30 d_PT_offerWaysOfD_51 (by first | assumption | decide | (show _ < 124; omega) | (show _ < 61; omega) | (show _ < 20; omega)) (P28.ii (by decide) e4) ?_
    refine ab_bipush (v := 7) X d_PT_offerWaysOfD_54 (by decide) ?_
    refine ab_icmp_ne X 140 d_PT_offerWaysOfD_56 rfl (fun _ => ?_) (fun hb => absurd hb ((by decide)))
    exact ab_retv X hr0 hlk d_PT_offerWaysOfD_140 ⟨⟨P28, (o25.wk (fun _ z => Or.inr z)).trans (o28.wk (fun _ z => Or.inl z)), by rw [eW]; exact b28⟩, rfl⟩
  · have eW : wD1 (kd pq) = [] := (if_neg q1).trans (if_pos q5)
    have n1 : ¬ u.1 2 (pq + 1) 4 = 1 := fun z => by rw [m4] at z; unfold ck at z; rw [if_pos q5] at z; exact q1 ((nI_eq (b := 1) (by omega) (by decide)).mp z)
    have n7 : ¬ u.1 2 (pq + 1) 4 = 7 := fun z => by rw [m4] at z; unfold ck at z; rw [if_pos q5] at z; exact absurd ((nI_eq (b := 7) (by omega) (by decide)).mp z) (by omega)
    refine ab_aload_n X 0 d_PT_offerWaysOfD_0 rfl rfl ?_
    refine ab_gI X fl_PT_30 d_PT_offerWaysOfD_1 (by first | assumption | decide | (show _ < 124; omega) | (show _ < 61; omega) | (show _ < 20; omega)) (rfl) ?_
    refine ab_iconst (v := 1) X d_PT_offerWaysOfD_4 (by decide) ?_
    refine ab_icmp_ne X 34 d_PT_offerWaysOfD_5 rfl (fun _ => ?_) (fun hb => absurd hb (n1))
    refine ab_aload_n X 0 d_PT_offerWaysOfD_34 rfl rfl ?_
    refine ab_gI X fl_PT_30 d_PT_offerWaysOfD_35 (by first | assumption | decide | (show _ < 124; omega) | (show _ < 61; omega) | (show _ < 20; omega)) (ek) ?_
    refine ab_callSN (as := [ab_I (ab_kinds (kd pq - 1))]) X (fun h => by cases h) (t_PF_leafk u (kd pq - 1) h (by omega)) ls_PT_44 d_PT_offerWaysOfD_38 rfl rfl ⟨by first | exact Nat.le_of_ble_eq_true rfl | (simp only [ab_rm]; omega), by first | exact Nat.le_of_ble_eq_true rfl | (simp only [ab_rm]; omega)⟩ ⟨by first | exact Nat.le_of_ble_eq_true rfl | (simp only [ab_rm]; omega), by first | exact Nat.le_of_ble_eq_true rfl | (simp only [ab_rm]; omega)⟩ (Nat.le_of_ble_eq_true rfl) (fun u38 r38 h38 => ?_)
    obtain ⟨e38, rfl⟩ := h38
    subst u38
    refine ab_if_ne X 50 d_PT_offerWaysOfD_41 rfl (fun _ => ?_) (fun hb => absurd hb ((by rw [if_pos (by omega)]; decide)))
    refine ab_aload_n X 0 d_PT_offerWaysOfD_50 rfl rfl ?_
    refine ab_gI X fl_PT_30 d_PT_offerWaysOfD_51 (by first | assumption | decide | (show _ < 124; omega) | (show _ < 61; omega) | (show _ < 20; omega)) (rfl) ?_
    refine ab_bipush (v := 7) X d_PT_offerWaysOfD_54 (by decide) ?_
    refine ab_icmp_ne X 140 d_PT_offerWaysOfD_56 rfl (fun _ => ?_) (fun hb => absurd hb (n7))
    exact ab_retv X hr0 hlk d_PT_offerWaysOfD_140 ⟨⟨P0, fO.rf, by rw [eW]; exact B⟩, rfl⟩
  · have e4 : u.1 2 (pq + 1) 4 = nI 6 := by rw [m4, q5]; rfl
    have eW : wD1 (kd pq) = [2] := by rw [q5]; rfl
    have hw : wok (kd pq) (ar pq) (cn pq) 0 2 := wys_ok ⟨k1, k7⟩ (by decide) (by rw [q5]; show 2 ∈ [13, 14, 2]; decide)
    refine ab_aload_n X 0 d_PT_offerWaysOfD_0 rfl rfl ?_
    refine ab_gI X fl_PT_30 d_PT_offerWaysOfD_1 (by first | assumption | decide | (show _ < 124; omega) | (show _ < 61; omega) | (show _ < 20; omega)) (e4) ?_
    refine ab_iconst (v := 1) X d_PT_offerWaysOfD_4 (by decide) ?_
    refine ab_icmp_ne X 34 d_PT_offerWaysOfD_5 rfl (fun _ => ?_) (fun hb => absurd hb ((by decide)))
    refine ab_aload_n X 0 d_PT_offerWaysOfD_34 rfl rfl ?_
    refine ab_gI X fl_PT_30 d_PT_offerWaysOfD_35 (by first | assumption | decide | (show _ < 124; omega) | (show _ < 61; omega) | (show _ < 20; omega)) (ek) ?_
    refine ab_callSN (as := [ab_I (ab_kinds (kd pq - 1))]) X (fun h => by cases h) (t_PF_leafk u (kd pq - 1) h (by omega)) ls_PT_44 d_PT_offerWaysOfD_38 rfl rfl ⟨by first | exact Nat.le_of_ble_eq_true rfl | (simp only [ab_rm]; omega), by first | exact Nat.le_of_ble_eq_true rfl | (simp only [ab_rm]; omega)⟩ ⟨by first | exact Nat.le_of_ble_eq_true rfl | (simp only [ab_rm]; omega), by first | exact Nat.le_of_ble_eq_true rfl | (simp only [ab_rm]; omega)⟩ (Nat.le_of_ble_eq_true rfl) (fun u38 r38 h38 => ?_)
    obtain ⟨e38, rfl⟩ := h38
    subst u38
    refine ab_if_ne X 50 d_PT_offerWaysOfD_41 rfl (fun hb => absurd ((by rw [if_neg (by omega)])) hb) (fun _ => ?_)
    refine ab_aload_n X 0 d_PT_offerWaysOfD_44 rfl rfl ?_
    refine ab_aload_n X 1 d_PT_offerWaysOfD_45 rfl rfl ?_
    refine ab_aload_n X 2 d_PT_offerWaysOfD_46 rfl rfl ?_
    refine ab_callV (as := [ab_O 3 f, ab_O 3 60]) X (fun h => by cases h) (x_PT_offerAside u M kd ar cn lf ch Y R W hB pq hpM mm h f o B hf K 2 0 hw (by omega)) lk_PT_89 d_PT_offerWaysOfD_47 rfl rfl (by first | assumption | decide | (show _ < 124; omega) | (show _ < 61; omega) | (show _ < 20; omega)) ⟨by first | exact Nat.le_of_ble_eq_true rfl | (simp only [ab_rm]; omega), by first | exact Nat.le_of_ble_eq_true rfl | (simp only [ab_rm]; omega)⟩ ⟨by first | exact Nat.le_of_ble_eq_true rfl | (simp only [ab_rm]; omega), by first | exact Nat.le_of_ble_eq_true rfl | (simp only [ab_rm]; omega)⟩ (Nat.le_of_ble_eq_true rfl) (fun u47 r47 h47 => ?_)
    obtain ⟨⟨q47, o47, b47⟩, rfl⟩ := h47
    have P47 := P0.trans q47 (by decide)
    refine ab_aload_n X 0 d_PT_offerWaysOfD_50 rfl rfl ?_
    refine ab_gI X fl_PT_30 d_PT_offerWaysOfD_51 (by first | assumption | decide | (show _ < 124; omega) | (show _ < 61; omega) | (show _ < 20; omega)) (P47.ii (by decide) e4) ?_
    refine ab_bipush (v := 7) X d_PT_offerWaysOfD_54 (by decide) ?_
    refine ab_icmp_ne X 140 d_PT_offerWaysOfD_56 rfl (fun _ => ?_) (fun hb => absurd hb ((by decide)))
    exact ab_retv X hr0 hlk d_PT_offerWaysOfD_140 ⟨⟨P47, o47, by rw [eW]; exact b47⟩, rfl⟩
  · have e4 : u.1 2 (pq + 1) 4 = nI 7 := by rw [m4, q6]; rfl
    have eW : wD1 (kd pq) = [3, 4, 5, 6] := by rw [q6]; rfl
    obtain ⟨n2, n4, n5, n7, b5, b6⟩ := kb (by omega)
    have c2 := n5 (by omega)
    have x0 := (b5 0 (by omega)).2
    have x1 := (b5 1 (by omega)).2
    have hw : wok (kd pq) (ar pq) (cn pq) 0 3 := wys_ok ⟨k1, k7⟩ (by decide) (by rw [q6]; show 3 ∈ [15, 16, 17, 3, 4, 5, 6]; decide)
    refine ab_aload_n X 0 d_PT_offerWaysOfD_0 rfl rfl ?_
    refine ab_gI X fl_PT_30 d_PT_offerWaysOfD_1 (by first | assumption | decide | (show _ < 124; omega) | (show _ < 61; omega) | (show _ < 20; omega)) (e4) ?_
    refine ab_iconst (v := 1) X d_PT_offerWaysOfD_4 (by decide) ?_
    refine ab_icmp_ne X 34 d_PT_offerWaysOfD_5 rfl (fun _ => ?_) (fun hb => absurd hb ((by decide)))
    refine ab_aload_n X 0 d_PT_offerWaysOfD_34 rfl rfl ?_
    refine ab_gI X fl_PT_30 d_PT_offerWaysOfD_35 (by first | assumption | decide | (show _ < 124; omega) | (show _ < 61; omega) | (show _ < 20; omega)) (ek) ?_
    refine ab_callSN (as := [ab_I (ab_kinds (kd pq - 1))]) X (fun h => by cases h) (t_PF_leafk u (kd pq - 1) h (by omega)) ls_PT_44 d_PT_offerWaysOfD_38 rfl rfl ⟨by first | exact Nat.le_of_ble_eq_true rfl | (simp only [ab_rm]; omega), by first | exact Nat.le_of_ble_eq_true rfl | (simp only [ab_rm]; omega)⟩ ⟨by first | exact Nat.le_of_ble_eq_true rfl | (simp only [ab_rm]; omega), by first | exact Nat.le_of_ble_eq_true rfl | (simp only [ab_rm]; omega)⟩ (Nat.le_of_ble_eq_true rfl) (fun u38 r38 h38 => ?_)
    obtain ⟨e38, rfl⟩ := h38
    subst u38
    refine ab_if_ne X 50 d_PT_offerWaysOfD_41 rfl (fun hb => absurd ((by rw [if_neg (by omega)])) hb) (fun _ => ?_)
    refine ab_aload_n X 0 d_PT_offerWaysOfD_44 rfl rfl ?_
    refine ab_aload_n X 1 d_PT_offerWaysOfD_45 rfl rfl ?_
    refine ab_aload_n X 2 d_PT_offerWaysOfD_46 rfl rfl ?_
    refine ab_callV (as := [ab_O 3 f, ab_O 3 60]) X (fun h => by cases h) (x_PT_offerAside u M kd ar cn lf ch Y R W hB pq hpM mm h f o B hf K 3 0 hw (by omega)) lk_PT_89 d_PT_offerWaysOfD_47 rfl rfl (by first | assumption | decide | (show _ < 124; omega) | (show _ < 61; omega) | (show _ < 20; omega)) ⟨by first | exact Nat.le_of_ble_eq_true rfl | (simp only [ab_rm]; omega), by first | exact Nat.le_of_ble_eq_true rfl | (simp only [ab_rm]; omega)⟩ ⟨by first | exact Nat.le_of_ble_eq_true rfl | (simp only [ab_rm]; omega), by first | exact Nat.le_of_ble_eq_true rfl | (simp only [ab_rm]; omega)⟩ (Nat.le_of_ble_eq_true rfl) (fun u47 r47 h47 => ?_)
    obtain ⟨⟨q47, o47, b47⟩, rfl⟩ := h47
    have P47 := P0.trans q47 (by decide)
    refine ab_aload_n X 0 d_PT_offerWaysOfD_50 rfl rfl ?_
    refine ab_gI X fl_PT_30 d_PT_offerWaysOfD_51 (by first | assumption | decide | (show _ < 124; omega) | (show _ < 61; omega) | (show _ < 20; omega)) (P47.ii (by decide) e4) ?_
    refine ab_bipush (v := 7) X d_PT_offerWaysOfD_54 (by decide) ?_
    refine ab_icmp_ne X 140 d_PT_offerWaysOfD_56 rfl (fun hb => absurd (rfl) hb) (fun _ => ?_)
    refine ab_aload_n X 0 d_PT_offerWaysOfD_59 rfl rfl ?_
    refine ab_gI X fl_PT_37 d_PT_offerWaysOfD_60 (by first | assumption | decide | (show _ < 124; omega) | (show _ < 61; omega) | (show _ < 20; omega)) (P47.ii (by decide) m6) ?_
    refine ab_iconst (v := 2) X d_PT_offerWaysOfD_63 (by decide) ?_
    refine ab_icmp_ne X 140 d_PT_offerWaysOfD_64 rfl (fun hb => absurd ((by rw [c2]; rfl)) hb) (fun _ => ?_)
    refine ab_aload_n X 1 d_PT_offerWaysOfD_67 rfl rfl ?_
    refine ab_aload_n X 2 d_PT_offerWaysOfD_68 rfl rfl ?_
    refine ab_bipush (v := 7) X d_PT_offerWaysOfD_69 (by decide) ?_
    refine ab_aload_n X 0 d_PT_offerWaysOfD_71 rfl rfl ?_
    refine ab_gR X fl_PT_11 d_PT_offerWaysOfD_72 (by first | assumption | decide | (show _ < 124; omega) | (show _ < 61; omega) | (show _ < 20; omega)) (P47.1.pt0 (by first | assumption | decide | omega)) ?_
    refine ab_iconst (v := 0) X d_PT_offerWaysOfD_75 (by decide) ?_
    refine ab_aalv X (0) ⟨rfl, _, fun _ => rfl⟩ d_PT_offerWaysOfD_76 (by first | assumption | decide | (show _ < 124; omega) | (show _ < 61; omega) | (show _ < 20; omega)) (rfl) (show 0 < 4 by decide) (ab_ln_lt _ _) (P47.rr (by decide) (m7 0 (by omega))) ?_
    refine ab_gR X fl_PT_24 d_PT_offerWaysOfD_77 (by first | assumption | decide | (show _ < 124; omega) | (show _ < 61; omega) | (show _ < 20; omega)) (P47.1.pt2 (by first | assumption | decide | omega)) ?_
    refine ab_aload_n X 0 d_PT_offerWaysOfD_80 rfl rfl ?_
    refine ab_gR X fl_PT_11 d_PT_offerWaysOfD_81 (by first | assumption | decide | (show _ < 124; omega) | (show _ < 61; omega) | (show _ < 20; omega)) (P47.1.pt0 (by first | assumption | decide | omega)) ?_
    refine ab_iconst (v := 1) X d_PT_offerWaysOfD_84 (by decide) ?_
    refine ab_aalv X (1) ⟨rfl, _, fun _ => rfl⟩ d_PT_offerWaysOfD_85 (by first | assumption | decide | (show _ < 124; omega) | (show _ < 61; omega) | (show _ < 20; omega)) (rfl) (show 1 < 4 by decide) (ab_ln_lt _ _) (P47.rr (by decide) (m7 1 (by omega))) ?_
    refine ab_gR X fl_PT_24 d_PT_offerWaysOfD_86 (by first | assumption | decide | (show _ < 124; omega) | (show _ < 61; omega) | (show _ < 20; omega)) (P47.1.pt2 (by first | assumption | decide | omega)) ?_
    refine ab_callS (as := [ab_O 3 f, ab_O 3 60, ab_I (nI 7), ab_O 3 (3 * (ch pq 0 + 1) + 1), ab_O 3 (3 * (ch pq 1 + 1) + 1)]) X (fun h => by cases h) (x_PT_offerTwo u47 M kd ar cn lf ch Y R W hB pq hpM P47.1 f _ b47 (by omega) (K.fr o47 (fun i hi => by omega) hP19) 4 0 _ _ (wys_ok ⟨k1, k7⟩ (by decide) (by rw [q6]; show 4 ∈ [15, 16, 17, 3, 4, 5, 6]; decide)) (by decide) rfl rfl rfl rfl rfl) ls_PT_82 d_PT_offerWaysOfD_89 rfl rfl ⟨by first | exact Nat.le_of_ble_eq_true rfl | (simp only [ab_rm]; omega), by first | exact Nat.le_of_ble_eq_true rfl | (simp only [ab_rm]; omega)⟩ ⟨by first | exact Nat.le_of_ble_eq_true rfl | (simp only [ab_rm]; omega), by first | exact Nat.le_of_ble_eq_true rfl | (simp only [ab_rm]; omega)⟩ (Nat.le_of_ble_eq_true rfl) (fun u89 r89 h89 => ?_)
    obtain ⟨⟨q89, o89, b89⟩, rfl⟩ := h89
    have P89 := P47.trans q89 (by decide)
    refine ab_aload_n X 1 d_PT_offerWaysOfD_92 rfl rfl ?_
    refine ab_aload_n X 2 d_PT_offerWaysOfD_93 rfl rfl ?_
    refine ab_iconst (v := 5) X d_PT_offerWaysOfD_94 (by decide) ?_
    refine ab_aload_n X 0 d_PT_offerWaysOfD_95 rfl rfl ?_
    refine ab_gR X fl_PT_11 d_PT_offerWaysOfD_96 (by first | assumption | decide | (show _ < 124; omega) | (show _ < 61; omega) | (show _ < 20; omega)) (P89.1.pt0 (by first | assumption | decide | omega)) ?_
    refine ab_iconst (v := 0) X d_PT_offerWaysOfD_99 (by decide) ?_
    refine ab_aalv X (0) ⟨rfl, _, fun _ => rfl⟩ d_PT_offerWaysOfD_100 (by first | assumption | decide | (show _ < 124; omega) | (show _ < 61; omega) | (show _ < 20; omega)) (rfl) (show 0 < 4 by decide) (ab_ln_lt _ _) (P89.rr (by decide) (m7 0 (by omega))) ?_
    refine ab_gR X fl_PT_24 d_PT_offerWaysOfD_101 (by first | assumption | decide | (show _ < 124; omega) | (show _ < 61; omega) | (show _ < 20; omega)) (P89.1.pt2 (by first | assumption | decide | omega)) ?_
    refine ab_aload_n X 0 d_PT_offerWaysOfD_104 rfl rfl ?_
    refine ab_gR X fl_PT_11 d_PT_offerWaysOfD_105 (by first | assumption | decide | (show _ < 124; omega) | (show _ < 61; omega) | (show _ < 20; omega)) (P89.1.pt0 (by first | assumption | decide | omega)) ?_
    refine ab_iconst (v := 1) X d_PT_offerWaysOfD_108 (by decide) ?_
    refine ab_aalv X (1) ⟨rfl, _, fun _ => rfl⟩ d_PT_offerWaysOfD_109 (by first | assumption | decide | (show _ < 124; omega) | (show _ < 61; omega) | (show _ < 20; omega)) (rfl) (show 1 < 4 by decide) (ab_ln_lt _ _) (P89.rr (by decide) (m7 1 (by omega))) ?_
    refine ab_gR X fl_PT_20 d_PT_offerWaysOfD_110 (by first | assumption | decide | (show _ < 124; omega) | (show _ < 61; omega) | (show _ < 20; omega)) (P89.1.pt1 (by first | assumption | decide | omega)) ?_
    refine ab_callS (as := [ab_O 3 f, ab_O 3 60, ab_I (nI 5), ab_O 3 (3 * (ch pq 0 + 1) + 1), ab_O 3 (3 * (ch pq 1 + 1) + 0)]) X (fun h => by cases h) (x_PT_offerTwo u89 M kd ar cn lf ch Y R W hB pq hpM P89.1 f _ b89 (by omega) (K.fr (o47.trans o89) (fun i hi => by omega) hP19) 5 0 _ _ (wys_ok ⟨k1, k7⟩ (by decide) (by rw [q6]; show 5 ∈ [15, 16, 17, 3, 4, 5, 6]; decide)) (by decide) rfl rfl rfl rfl rfl) ls_PT_82 d_PT_offerWaysOfD_113 rfl rfl ⟨by first | exact Nat.le_of_ble_eq_true rfl | (simp only [ab_rm]; omega), by first | exact Nat.le_of_ble_eq_true rfl | (simp only [ab_rm]; omega)⟩ ⟨by first | exact Nat.le_of_ble_eq_true rfl | (simp only [ab_rm]; omega), by first | exact Nat.le_of_ble_eq_true rfl | (simp only [ab_rm]; omega)⟩ (Nat.le_of_ble_eq_true rfl) (fun u113 r113 h113 => ?_)
    obtain ⟨⟨q113, o113, b113⟩, rfl⟩ := h113
    have P113 := P89.trans q113 (by decide)
    refine ab_aload_n X 1 d_PT_offerWaysOfD_116 rfl rfl ?_
    refine ab_aload_n X 2 d_PT_offerWaysOfD_117 rfl rfl ?_
    refine ab_iconst (v := 5) X d_PT_offerWaysOfD_118 (by decide) ?_
    refine ab_aload_n X 0 d_PT_offerWaysOfD_119 rfl rfl ?_
    refine ab_gR X fl_PT_11 d_PT_offerWaysOfD_120 (by first | assumption | decide | (show _ < 124; omega) | (show _ < 61; omega) | (show _ < 20; omega)) (P113.1.pt0 (by first | assumption | decide | omega)) ?_
    refine ab_iconst (v := 0) X d_PT_offerWaysOfD_123 (by decide) ?_
    refine ab_aalv X (0) ⟨rfl, _, fun _ => rfl⟩ d_PT_offerWaysOfD_124 (by first | assumption | decide | (show _ < 124; omega) | (show _ < 61; omega) | (show _ < 20; omega)) (rfl) (show 0 < 4 by decide) (ab_ln_lt _ _) (P113.rr (by decide) (m7 0 (by omega))) ?_
    refine ab_gR X fl_PT_20 d_PT_offerWaysOfD_125 (by first | assumption | decide | (show _ < 124; omega) | (show _ < 61; omega) | (show _ < 20; omega)) (P113.1.pt1 (by first | assumption | decide | omega)) ?_
    refine ab_aload_n X 0 d_PT_offerWaysOfD_128 rfl rfl ?_
    refine ab_gR X fl_PT_11 d_PT_offerWaysOfD_129 (by first | assumption | decide | (show _ < 124; omega) | (show _ < 61; omega) | (show _ < 20; omega)) (P113.1.pt0 (by first | assumption | decide | omega)) ?_
    refine ab_iconst (v := 1) X d_PT_offerWaysOfD_132 (by decide) ?_
    refine ab_aalv X (1) ⟨rfl, _, fun _ => rfl⟩ d_PT_offerWaysOfD_133 (by first | assumption | decide | (show _ < 124; omega) | (show _ < 61; omega) | (show _ < 20; omega)) (rfl) (show 1 < 4 by decide) (ab_ln_lt _ _) (P113.rr (by decide) (m7 1 (by omega))) ?_
    refine ab_gR X fl_PT_24 d_PT_offerWaysOfD_134 (by first | assumption | decide | (show _ < 124; omega) | (show _ < 61; omega) | (show _ < 20; omega)) (P113.1.pt2 (by first | assumption | decide | omega)) ?_
    refine ab_callS (as := [ab_O 3 f, ab_O 3 60, ab_I (nI 5), ab_O 3 (3 * (ch pq 0 + 1) + 0), ab_O 3 (3 * (ch pq 1 + 1) + 1)]) X (fun h => by cases h) (x_PT_offerTwo u113 M kd ar cn lf ch Y R W hB pq hpM P113.1 f _ b113 (by omega) (K.fr ((o47.trans o89).trans o113) (fun i hi => by omega) hP19) 6 0 _ _ (wys_ok ⟨k1, k7⟩ (by decide) (by rw [q6]; show 6 ∈ [15, 16, 17, 3, 4, 5, 6]; decide)) (by decide) rfl rfl rfl rfl rfl) ls_PT_82 d_PT_offerWaysOfD_137 rfl rfl ⟨by first | exact Nat.le_of_ble_eq_true rfl | (simp only [ab_rm]; omega), by first | exact Nat.le_of_ble_eq_true rfl | (simp only [ab_rm]; omega)⟩ ⟨by first | exact Nat.le_of_ble_eq_true rfl | (simp only [ab_rm]; omega), by first | exact Nat.le_of_ble_eq_true rfl | (simp only [ab_rm]; omega)⟩ (Nat.le_of_ble_eq_true rfl) (fun u137 r137 h137 => ?_)
    obtain ⟨⟨q137, o137, b137⟩, rfl⟩ := h137
    have P137 := P113.trans q137 (by decide)
    exact ab_retv X hr0 hlk d_PT_offerWaysOfD_140 ⟨⟨P137, (((o47.trans o89).trans o113).trans o137), by rw [eW]; exact b137⟩, rfl⟩
  · have e4 : u.1 2 (pq + 1) 4 = nI 8 := by rw [m4, q7]; rfl
    have eW : wD1 (kd pq) = [7] := by rw [q7]; rfl
    have hw : wok (kd pq) (ar pq) (cn pq) 1 7 := wys_ok ⟨k1, k7⟩ (by decide) (by rw [q7]; show 7 ∈ [7, 8]; decide)
    refine ab_aload_n X 0 d_PT_offerWaysOfD_0 rfl rfl ?_
    refine ab_gI X fl_PT_30 d_PT_offerWaysOfD_1 (by first | assumption | decide | (show _ < 124; omega) | (show _ < 61; omega) | (show _ < 20; omega)) (e4) ?_
    refine ab_iconst (v := 1) X d_PT_offerWaysOfD_4 (by decide) ?_
    refine ab_icmp_ne X 34 d_PT_offerWaysOfD_5 rfl (fun _ => ?_) (fun hb => absurd hb ((by decide)))
    refine ab_aload_n X 0 d_PT_offerWaysOfD_34 rfl rfl ?_
    refine ab_gI X fl_PT_30 d_PT_offerWaysOfD_35 (by first | assumption | decide | (show _ < 124; omega) | (show _ < 61; omega) | (show _ < 20; omega)) (ek) ?_
    refine ab_callSN (as := [ab_I (ab_kinds (kd pq - 1))]) X (fun h => by cases h) (t_PF_leafk u (kd pq - 1) h (by omega)) ls_PT_44 d_PT_offerWaysOfD_38 rfl rfl ⟨by first | exact Nat.le_of_ble_eq_true rfl | (simp only [ab_rm]; omega), by first | exact Nat.le_of_ble_eq_true rfl | (simp only [ab_rm]; omega)⟩ ⟨by first | exact Nat.le_of_ble_eq_true rfl | (simp only [ab_rm]; omega), by first | exact Nat.le_of_ble_eq_true rfl | (simp only [ab_rm]; omega)⟩ (Nat.le_of_ble_eq_true rfl) (fun u38 r38 h38 => ?_)
    obtain ⟨e38, rfl⟩ := h38
    subst u38
    refine ab_if_ne X 50 d_PT_offerWaysOfD_41 rfl (fun hb => absurd ((by rw [if_neg (by omega)])) hb) (fun _ => ?_)
    refine ab_aload_n X 0 d_PT_offerWaysOfD_44 rfl rfl ?_
    refine ab_aload_n X 1 d_PT_offerWaysOfD_45 rfl rfl ?_
    refine ab_aload_n X 2 d_PT_offerWaysOfD_46 rfl rfl ?_
    refine ab_callV (as := [ab_O 3 f, ab_O 3 60]) X (fun h => by cases h) (x_PT_offerAside u M kd ar cn lf ch Y R W hB pq hpM mm h f o B hf K 7 1 hw (by omega)) lk_PT_89 d_PT_offerWaysOfD_47 rfl rfl (by first | assumption | decide | (show _ < 124; omega) | (show _ < 61; omega) | (show _ < 20; omega)) ⟨by first | exact Nat.le_of_ble_eq_true rfl | (simp only [ab_rm]; omega), by first | exact Nat.le_of_ble_eq_true rfl | (simp only [ab_rm]; omega)⟩ ⟨by first | exact Nat.le_of_ble_eq_true rfl | (simp only [ab_rm]; omega), by first | exact Nat.le_of_ble_eq_true rfl | (simp only [ab_rm]; omega)⟩ (Nat.le_of_ble_eq_true rfl) (fun u47 r47 h47 => ?_)
    obtain ⟨⟨q47, o47, b47⟩, rfl⟩ := h47
    have P47 := P0.trans q47 (by decide)
    refine ab_aload_n X 0 d_PT_offerWaysOfD_50 rfl rfl ?_
    refine ab_gI X fl_PT_30 d_PT_offerWaysOfD_51 (by first | assumption | decide | (show _ < 124; omega) | (show _ < 61; omega) | (show _ < 20; omega)) (P47.ii (by decide) e4) ?_
    refine ab_bipush (v := 7) X d_PT_offerWaysOfD_54 (by decide) ?_
    refine ab_icmp_ne X 140 d_PT_offerWaysOfD_56 rfl (fun _ => ?_) (fun hb => absurd hb ((by decide)))
    exact ab_retv X hr0 hlk d_PT_offerWaysOfD_140 ⟨⟨P47, o47, by rw [eW]; exact b47⟩, rfl⟩
set_option maxRecDepth 100000 in
set_option maxHeartbeats 1000000 in
theorem x_PT_waysB (u : ab_S) (M : Nat) (kd ar cn lf : Nat → Nat) (ch : Nat → Nat → Nat) (Y : Nat → Nat → Nat × Nat × Nat) (R : Nat → List Nat) (W : tW M kd ar cn lf ch) (hB : ∀ q, q < M → xB lf Y R q) (pq : Nat) (hpM : pq < M) (mm : pm kd ar cn ch pq u) (h : CI u) (B : xO kd ar cn ch u pq (3 * (pq + 1)) none) (K : cK M Y R (pq + 1) u) : ab_C false l D ca y_PT_offerWaysOfB b_PT_offerWaysOfB 2 none 5 ab_nQ u [ab_O 2 (pq + 1), ab_O 3 60] (fun u' v => (cP [3, 9] u u' ∧ fO (fun i => i = (3 * (pq + 1)) ∨ i = 60) u u' ∧ xO kd ar cn ch u' pq (3 * (pq + 1)) (pks (tL cn ch (xL Y) pq) (tG kd ar cn ch (xG Y) R pq) none (wB1 (kd pq) (ar pq) (cn pq)))) ∧ v = none) := by
  refine ab_C.of (by decide) (Nat.le_of_ble_eq_true rfl) ?_
  intro p e s m args below meth c ad X hZ hr0 hlk
  have P0 : cP [3, 9] u u := cQ.rf h
  have hP19 := W.2.1
  obtain ⟨⟨l1, l2, k1, k7, r9⟩, -, kb⟩ := W.2.2 pq hpM
  obtain ⟨m4, m5, m6, m7⟩ := id mm
  have ek : u.1 2 (pq + 1) 4 = ab_kinds (kd pq - 1) := by rw [m4, ck_kd (kd pq - 1) (by omega), show kd pq - 1 + 1 = kd pq by omega]
  have cs : kd pq = 1 ∨ (kd pq ≠ 1 ∧ kd pq < 5) ∨ kd pq = 5 ∨ kd pq = 6 ∨ kd pq = 7 := by omega
  rcases cs with q1 | ⟨q1, q5⟩ | q5 | q6 | q7
  · have e4 : u.1 2 (pq + 1) 4 = nI 1 := by rw [m4, q1]; rfl
    have eW : wB1 (kd pq) (ar pq) (cn pq) = [] := if_pos q1
    refine ab_aload_n X 0 d_PT_offerWaysOfB_0 rfl rfl ?_
    refine ab_gI X fl_PT_30 d_PT_offerWaysOfB_1 (by first | assumption | decide | (show _ < 124; omega) | (show _ < 61; omega) | (show _ < 20; omega)) (ek) ?_
    refine ab_callSN (as := [ab_I (ab_kinds (kd pq - 1))]) X (fun h => by cases h) (t_PF_leafk u (kd pq - 1) h (by omega)) ls_PT_44 d_PT_offerWaysOfB_4 rfl rfl ⟨by first | exact Nat.le_of_ble_eq_true rfl | (simp only [ab_rm]; omega), by first | exact Nat.le_of_ble_eq_true rfl | (simp only [ab_rm]; omega)⟩ ⟨by first | exact Nat.le_of_ble_eq_true rfl | (simp only [ab_rm]; omega), by first | exact Nat.le_of_ble_eq_true rfl | (simp only [ab_rm]; omega)⟩ (Nat.le_of_ble_eq_true rfl) (fun u4 r4 h4 => ?_)
    obtain ⟨e4, rfl⟩ := h4
    subst u4
    refine ab_if_eq X 47 d_PT_offerWaysOfB_7 rfl (fun hb => absurd hb ((by rw [if_pos (by omega)]; decide))) (fun _ => ?_)
    refine ab_aload_n X 0 d_PT_offerWaysOfB_10 rfl rfl ?_
    refine ab_gI X fl_PT_30 d_PT_offerWaysOfB_11 (by first | assumption | decide | (show _ < 124; omega) | (show _ < 61; omega) | (show _ < 20; omega)) (e4) ?_
    refine ab_iconst (v := 1) X d_PT_offerWaysOfB_14 (by decide) ?_
    refine ab_icmp_eq X 47 d_PT_offerWaysOfB_15 rfl (fun _ => ?_) (fun hb => absurd (rfl) hb)
    refine ab_aload_n X 0 d_PT_offerWaysOfB_47 rfl rfl ?_
    refine ab_gI X fl_PT_30 d_PT_offerWaysOfB_48 (by first | assumption | decide | (show _ < 124; omega) | (show _ < 61; omega) | (show _ < 20; omega)) (e4) ?_
    refine ab_bipush (v := 6) X d_PT_offerWaysOfB_51 (by decide) ?_
    refine ab_icmp_ne X 121 d_PT_offerWaysOfB_53 rfl (fun _ => ?_) (fun hb => absurd hb ((by decide)))
    refine ab_aload_n X 0 d_PT_offerWaysOfB_121 rfl rfl ?_
    refine ab_gI X fl_PT_30 d_PT_offerWaysOfB_122 (by first | assumption | decide | (show _ < 124; omega) | (show _ < 61; omega) | (show _ < 20; omega)) (e4) ?_
    refine ab_bipush (v := 7) X d_PT_offerWaysOfB_125 (by decide) ?_
    refine ab_icmp_ne X 224 d_PT_offerWaysOfB_127 rfl (fun _ => ?_) (fun hb => absurd hb ((by decide)))
    refine ab_aload_n X 0 d_PT_offerWaysOfB_224 rfl rfl ?_
    refine ab_gI X fl_PT_30 d_PT_offerWaysOfB_225 (by first | assumption | decide | (show _ < 124; omega) | (show _ < 61; omega) | (show _ < 20; omega)) (e4) ?_
    refine ab_bipush (v := 8) X d_PT_offerWaysOfB_228 (by decide) ?_
    refine ab_icmp_ne X 249 d_PT_offerWaysOfB_230 rfl (fun _ => ?_) (fun hb => absurd hb ((by decide)))
    exact ab_retv X hr0 hlk d_PT_offerWaysOfB_249 ⟨⟨P0, fO.rf, by rw [eW]; exact B⟩, rfl⟩
  · have n1 : ¬ u.1 2 (pq + 1) 4 = 1 := fun z => by rw [m4] at z; unfold ck at z; rw [if_pos q5] at z; exact q1 ((nI_eq (b := 1) (by omega) (by decide)).mp z)
    have e4 : u.1 2 (pq + 1) 4 = nI (kd pq) := by rw [m4]; unfold ck; rw [if_pos q5]
    have e5 : u.1 2 (pq + 1) 5 = nI (ar pq) := by rw [m5]; unfold cnu; rw [if_neg (by omega), if_neg (by omega)]
    obtain ⟨w, hl, hw, eW⟩ : ∃ w, (w = 1 ∨ w = 11 ∨ w = 12) ∧ wok (kd pq) (ar pq) (cn pq) 0 w ∧ wB1 (kd pq) (ar pq) (cn pq) = [w] := by
      by_cases k2 : kd pq = 2
      · exact ⟨11, by omega, wys_ok ⟨k1, k7⟩ (by decide) (by rw [k2]; show 11 ∈ [11]; decide), by rw [k2]; rfl⟩
      · exact ⟨12, by omega, wys_ok ⟨k1, k7⟩ (by decide) (by have k34 : kd pq = 3 ∨ kd pq = 4 := (by omega); rcases k34 with e | e <;> rw [e] <;> show 12 ∈ [12] <;> decide), (if_neg q1).trans ((if_neg k2).trans (if_pos q5))⟩
    refine ab_aload_n X 0 d_PT_offerWaysOfB_0 rfl rfl ?_
    refine ab_gI X fl_PT_30 d_PT_offerWaysOfB_1 (by first | assumption | decide | (show _ < 124; omega) | (show _ < 61; omega) | (show _ < 20; omega)) (ek) ?_
    refine ab_callSN (as := [ab_I (ab_kinds (kd pq - 1))]) X (fun h => by cases h) (t_PF_leafk u (kd pq - 1) h (by omega)) ls_PT_44 d_PT_offerWaysOfB_4 rfl rfl ⟨by first | exact Nat.le_of_ble_eq_true rfl | (simp only [ab_rm]; omega), by first | exact Nat.le_of_ble_eq_true rfl | (simp only [ab_rm]; omega)⟩ ⟨by first | exact Nat.le_of_ble_eq_true rfl | (simp only [ab_rm]; omega), by first | exact Nat.le_of_ble_eq_true rfl | (simp only [ab_rm]; omega)⟩ (Nat.le_of_ble_eq_true rfl) (fun u4 r4 h4 => ?_)
    obtain ⟨e4, rfl⟩ := h4
    subst u4
    refine ab_if_eq X 47 d_PT_offerWaysOfB_7 rfl (fun hb => absurd hb ((by rw [if_pos (by omega)]; decide))) (fun _ => ?_)
    refine ab_aload_n X 0 d_PT_offerWaysOfB_10 rfl rfl ?_
    refine ab_gI X fl_PT_30 d_PT_offerWaysOfB_11 (by first | assumption | decide | (show _ < 124; omega) | (show _ < 61; omega) | (show _ < 20; omega)) (rfl) ?_
    refine ab_iconst (v := 1) X d_PT_offerWaysOfB_14 (by decide) ?_
    refine ab_icmp_eq X 47 d_PT_offerWaysOfB_15 rfl (fun hb => absurd hb (n1)) (fun _ => ?_)
    refine ab_aload_n X 0 d_PT_offerWaysOfB_18 rfl rfl ?_
    refine ab_gR X fl_PT_20 d_PT_offerWaysOfB_19 (by first | assumption | decide | (show _ < 124; omega) | (show _ < 61; omega) | (show _ < 20; omega)) (P0.1.pt1 (by first | assumption | decide | omega)) ?_
    refine ab_aload_n X 1 d_PT_offerWaysOfB_22 rfl rfl ?_
    refine ab_iconst (v := 1) X d_PT_offerWaysOfB_23 (by decide) ?_
    refine ab_sipush (v := 1000) X d_PT_offerWaysOfB_24 (by decide) ?_
    refine ab_aload_n X 0 d_PT_offerWaysOfB_27 rfl rfl ?_
    refine ab_gI X fl_PT_30 d_PT_offerWaysOfB_28 (by first | assumption | decide | (show _ < 124; omega) | (show _ < 61; omega) | (show _ < 20; omega)) (e4) ?_
    refine ab_imul X d_PT_offerWaysOfB_31 ?_
    refine ab_top (pk_mul 1000 (kd pq)) ?_
    refine ab_aload_n X 0 d_PT_offerWaysOfB_32 rfl rfl ?_
    refine ab_gI X fl_PT_34 d_PT_offerWaysOfB_33 (by first | assumption | decide | (show _ < 124; omega) | (show _ < 61; omega) | (show _ < 20; omega)) (e5) ?_
    refine ab_iadd X d_PT_offerWaysOfB_36 ?_
    refine ab_top (nI_add _ _) ?_
    refine ab_iconst (v := 0) X d_PT_offerWaysOfB_37 (by decide) ?_
    refine ab_callV (as := [ab_I (nI 1), ab_I (nI (1000 * kd pq + ar pq)), ab_I 0]) X (fun h => by cases h) (f_FM_start u 60 1 _ 0 z1f (P0.ex 60).1 (by decide)) lk_PT_65 d_PT_offerWaysOfB_38 rfl rfl (by first | assumption | decide | (show _ < 124; omega) | (show _ < 61; omega) | (show _ < 20; omega)) ⟨by first | exact Nat.le_of_ble_eq_true rfl | (simp only [ab_rm]; omega), by first | exact Nat.le_of_ble_eq_true rfl | (simp only [ab_rm]; omega)⟩ ⟨by first | exact Nat.le_of_ble_eq_true rfl | (simp only [ab_rm]; omega), by first | exact Nat.le_of_ble_eq_true rfl | (simp only [ab_rm]; omega)⟩ (Nat.le_of_ble_eq_true rfl) (fun u38 r38 h38 => ?_)
    obtain ⟨⟨q38, o38, d38, w38, x38⟩, rfl⟩ := h38
    have P38 := P0.trans q38 (by decide)
    have R41 := ci_done P38 d38.1 d38.2.2.2.1 (by decide) ci_cl1
    refine ab_callV (as := [ab_O 3 60]) X (fun h => by cases h) (x_FM_leaf u38 M kd ar cn lf ch Y R W hB pq hpM w 0 (3 * (pq + 1)) none hw hl d38 (B.fr o38 (by omega)) R41.1 (by omega)) lk_PT_73 d_PT_offerWaysOfB_41 rfl rfl (by first | assumption | decide | (show _ < 124; omega) | (show _ < 61; omega) | (show _ < 20; omega)) ⟨by first | exact Nat.le_of_ble_eq_true rfl | (simp only [ab_rm]; omega), by first | exact Nat.le_of_ble_eq_true rfl | (simp only [ab_rm]; omega)⟩ ⟨by first | exact Nat.le_of_ble_eq_true rfl | (simp only [ab_rm]; omega), by first | exact Nat.le_of_ble_eq_true rfl | (simp only [ab_rm]; omega)⟩ (Nat.le_of_ble_eq_true rfl) (fun u41 r41 h41 => ?_)
    obtain ⟨⟨q41, o41, b41⟩, rfl⟩ := h41
    have P41 := R41.trans q41 (by decide)
    refine ab_goto X 249 d_PT_offerWaysOfB_44 rfl ?_
    exact ab_retv X hr0 hlk d_PT_offerWaysOfB_249 ⟨⟨P41, (o38.wk (fun _ z => Or.inr z)).trans (o41.wk (fun _ z => Or.inl z)), by rw [eW]; exact b41⟩, rfl⟩
  · have e4 : u.1 2 (pq + 1) 4 = nI 6 := by rw [m4, q5]; rfl
    obtain ⟨n2, n4, n5, n7, b5, b6⟩ := kb (by omega)
    have c2 := n5 (by omega)
    have x0 := (b5 0 (by omega)).2
    have x1 := (b5 1 (by omega)).2
    have eW : wB1 (kd pq) (ar pq) (cn pq) = [13, 14] := by rw [q5]; rfl
    refine ab_aload_n X 0 d_PT_offerWaysOfB_0 rfl rfl ?_
    refine ab_gI X fl_PT_30 d_PT_offerWaysOfB_1 (by first | assumption | decide | (show _ < 124; omega) | (show _ < 61; omega) | (show _ < 20; omega)) (ek) ?_
    refine ab_callSN (as := [ab_I (ab_kinds (kd pq - 1))]) X (fun h => by cases h) (t_PF_leafk u (kd pq - 1) h (by omega)) ls_PT_44 d_PT_offerWaysOfB_4 rfl rfl ⟨by first | exact Nat.le_of_ble_eq_true rfl | (simp only [ab_rm]; omega), by first | exact Nat.le_of_ble_eq_true rfl | (simp only [ab_rm]; omega)⟩ ⟨by first | exact Nat.le_of_ble_eq_true rfl | (simp only [ab_rm]; omega), by first | exact Nat.le_of_ble_eq_true rfl | (simp only [ab_rm]; omega)⟩ (Nat.le_of_ble_eq_true rfl) (fun u4 r4 h4 => ?_)
    obtain ⟨e4, rfl⟩ := h4
    subst u4
    refine ab_if_eq X 47 d_PT_offerWaysOfB_7 rfl (fun _ => ?_) (fun hb => absurd ((by rw [if_neg (by omega)])) hb)
    refine ab_aload_n X 0 d_PT_offerWaysOfB_47 rfl rfl ?_
    refine ab_gI X fl_PT_30 d_PT_offerWaysOfB_48 (by first | assumption | decide | (show _ < 124; omega) | (show _ < 61; omega) | (show _ < 20; omega)) (e4) ?_
    refine ab_bipush (v := 6) X d_PT_offerWaysOfB_51 (by decide) ?_
    refine ab_icmp_ne X 121 d_PT_offerWaysOfB_53 rfl (fun hb => absurd (rfl) hb) (fun _ => ?_)
    refine ab_aload_n X 0 d_PT_offerWaysOfB_56 rfl rfl ?_
    refine ab_gI X fl_PT_37 d_PT_offerWaysOfB_57 (by first | assumption | decide | (show _ < 124; omega) | (show _ < 61; omega) | (show _ < 20; omega)) (m6) ?_
    refine ab_iconst (v := 2) X d_PT_offerWaysOfB_60 (by decide) ?_
    refine ab_icmp_ne X 121 d_PT_offerWaysOfB_61 rfl (fun hb => absurd ((by rw [c2]; rfl)) hb) (fun _ => ?_)
    refine ab_aload_n X 0 d_PT_offerWaysOfB_64 rfl rfl ?_
    refine ab_gR X fl_PT_20 d_PT_offerWaysOfB_65 (by first | assumption | decide | (show _ < 124; omega) | (show _ < 61; omega) | (show _ < 20; omega)) (P0.1.pt1 (by first | assumption | decide | omega)) ?_
    refine ab_aload_n X 1 d_PT_offerWaysOfB_68 rfl rfl ?_
    refine ab_iconst (v := 2) X d_PT_offerWaysOfB_69 (by decide) ?_
    refine ab_aload_n X 0 d_PT_offerWaysOfB_70 rfl rfl ?_
    refine ab_gR X fl_PT_11 d_PT_offerWaysOfB_71 (by first | assumption | decide | (show _ < 124; omega) | (show _ < 61; omega) | (show _ < 20; omega)) (P0.1.pt0 (by first | assumption | decide | omega)) ?_
    refine ab_iconst (v := 0) X d_PT_offerWaysOfB_74 (by decide) ?_
    refine ab_aalv X (0) ⟨rfl, _, fun _ => rfl⟩ d_PT_offerWaysOfB_75 (by first | assumption | decide | (show _ < 124; omega) | (show _ < 61; omega) | (show _ < 20; omega)) (rfl) (show 0 < 4 by decide) (ab_ln_lt _ _) (P0.rr (by decide) (m7 0 (by omega))) ?_
    refine ab_gR X fl_PT_27 d_PT_offerWaysOfB_76 (by first | assumption | decide | (show _ < 124; omega) | (show _ < 61; omega) | (show _ < 20; omega)) (P0.1.pt3 (by first | assumption | decide | omega)) ?_
    refine ab_aload_n X 0 d_PT_offerWaysOfB_79 rfl rfl ?_
    refine ab_gR X fl_PT_11 d_PT_offerWaysOfB_80 (by first | assumption | decide | (show _ < 124; omega) | (show _ < 61; omega) | (show _ < 20; omega)) (P0.1.pt0 (by first | assumption | decide | omega)) ?_
    refine ab_iconst (v := 1) X d_PT_offerWaysOfB_83 (by decide) ?_
    refine ab_aalv X (1) ⟨rfl, _, fun _ => rfl⟩ d_PT_offerWaysOfB_84 (by first | assumption | decide | (show _ < 124; omega) | (show _ < 61; omega) | (show _ < 20; omega)) (rfl) (show 1 < 4 by decide) (ab_ln_lt _ _) (P0.rr (by decide) (m7 1 (by omega))) ?_
    refine ab_gR X fl_PT_20 d_PT_offerWaysOfB_85 (by first | assumption | decide | (show _ < 124; omega) | (show _ < 61; omega) | (show _ < 20; omega)) (P0.1.pt1 (by first | assumption | decide | omega)) ?_
    refine ab_callS (as := [ab_O 3 (3 * (pq + 1)), ab_O 3 60, ab_I (nI 2), ab_O 3 (3 * (ch pq 0 + 1) + 2), ab_O 3 (3 * (ch pq 1 + 1) + 0)]) X (fun h => by cases h) (x_PT_offerTwo u M kd ar cn lf ch Y R W hB pq hpM h (3 * (pq + 1)) _ B (by omega) K 13 0 _ _ (wys_ok ⟨k1, k7⟩ (by decide) (by rw [q5]; show 13 ∈ [13, 14, 2]; decide)) (by decide) rfl rfl rfl rfl rfl) ls_PT_82 d_PT_offerWaysOfB_88 rfl rfl ⟨by first | exact Nat.le_of_ble_eq_true rfl | (simp only [ab_rm]; omega), by first | exact Nat.le_of_ble_eq_true rfl | (simp only [ab_rm]; omega)⟩ ⟨by first | exact Nat.le_of_ble_eq_true rfl | (simp only [ab_rm]; omega), by first | exact Nat.le_of_ble_eq_true rfl | (simp only [ab_rm]; omega)⟩ (Nat.le_of_ble_eq_true rfl) (fun u88 r88 h88 => ?_)
    obtain ⟨⟨q88, o88, b88⟩, rfl⟩ := h88
    have P88 := P0.trans q88 (by decide)
    refine ab_aload_n X 0 d_PT_offerWaysOfB_91 rfl rfl ?_
    refine ab_gR X fl_PT_20 d_PT_offerWaysOfB_92 (by first | assumption | decide | (show _ < 124; omega) | (show _ < 61; omega) | (show _ < 20; omega)) (P88.1.pt1 (by first | assumption | decide | omega)) ?_
    refine ab_aload_n X 1 d_PT_offerWaysOfB_95 rfl rfl ?_
    refine ab_iconst (v := 2) X d_PT_offerWaysOfB_96 (by decide) ?_
    refine ab_aload_n X 0 d_PT_offerWaysOfB_97 rfl rfl ?_
    refine ab_gR X fl_PT_11 d_PT_offerWaysOfB_98 (by first | assumption | decide | (show _ < 124; omega) | (show _ < 61; omega) | (show _ < 20; omega)) (P88.1.pt0 (by first | assumption | decide | omega)) ?_
    refine ab_iconst (v := 1) X d_PT_offerWaysOfB_101 (by decide) ?_
    refine ab_aalv X (1) ⟨rfl, _, fun _ => rfl⟩ d_PT_offerWaysOfB_102 (by first | assumption | decide | (show _ < 124; omega) | (show _ < 61; omega) | (show _ < 20; omega)) (rfl) (show 1 < 4 by decide) (ab_ln_lt _ _) (P88.rr (by decide) (m7 1 (by omega))) ?_
    refine ab_gR X fl_PT_27 d_PT_offerWaysOfB_103 (by first | assumption | decide | (show _ < 124; omega) | (show _ < 61; omega) | (show _ < 20; omega)) (P88.1.pt3 (by first | assumption | decide | omega)) ?_
    refine ab_aload_n X 0 d_PT_offerWaysOfB_106 rfl rfl ?_
    refine ab_gR X fl_PT_11 d_PT_offerWaysOfB_107 (by first | assumption | decide | (show _ < 124; omega) | (show _ < 61; omega) | (show _ < 20; omega)) (P88.1.pt0 (by first | assumption | decide | omega)) ?_
    refine ab_iconst (v := 0) X d_PT_offerWaysOfB_110 (by decide) ?_
    refine ab_aalv X (0) ⟨rfl, _, fun _ => rfl⟩ d_PT_offerWaysOfB_111 (by first | assumption | decide | (show _ < 124; omega) | (show _ < 61; omega) | (show _ < 20; omega)) (rfl) (show 0 < 4 by decide) (ab_ln_lt _ _) (P88.rr (by decide) (m7 0 (by omega))) ?_
    refine ab_gR X fl_PT_20 d_PT_offerWaysOfB_112 (by first | assumption | decide | (show _ < 124; omega) | (show _ < 61; omega) | (show _ < 20; omega)) (P88.1.pt1 (by first | assumption | decide | omega)) ?_
    refine ab_callS (as := [ab_O 3 (3 * (pq + 1)), ab_O 3 60, ab_I (nI 2), ab_O 3 (3 * (ch pq 1 + 1) + 2), ab_O 3 (3 * (ch pq 0 + 1) + 0)]) X (fun h => by cases h) (x_PT_offerTwo u88 M kd ar cn lf ch Y R W hB pq hpM P88.1 (3 * (pq + 1)) _ b88 (by omega) (K.fr o88 (fun i hi => by omega) hP19) 14 0 _ _ (wys_ok ⟨k1, k7⟩ (by decide) (by rw [q5]; show 14 ∈ [13, 14, 2]; decide)) (by decide) rfl rfl rfl rfl rfl) ls_PT_82 d_PT_offerWaysOfB_115 rfl rfl ⟨by first | exact Nat.le_of_ble_eq_true rfl | (simp only [ab_rm]; omega), by first | exact Nat.le_of_ble_eq_true rfl | (simp only [ab_rm]; omega)⟩ ⟨by first | exact Nat.le_of_ble_eq_true rfl | (simp only [ab_rm]; omega), by first | exact Nat.le_of_ble_eq_true rfl | (simp only [ab_rm]; omega)⟩ (Nat.le_of_ble_eq_true rfl) (fun u115 r115 h115 => ?_)
    obtain ⟨⟨q115, o115, b115⟩, rfl⟩ := h115
    have P115 := P88.trans q115 (by decide)
    refine ab_goto X 249 d_PT_offerWaysOfB_118 rfl ?_
    exact ab_retv X hr0 hlk d_PT_offerWaysOfB_249 ⟨⟨P115, (o88.trans o115), by rw [eW]; exact b115⟩, rfl⟩
  · have e4 : u.1 2 (pq + 1) 4 = nI 7 := by rw [m4, q6]; rfl
    obtain ⟨n2, n4, n5, n7, b5, b6⟩ := kb (by omega)
    have c2 := n5 (by omega)
    have x0 := (b5 0 (by omega)).2
    have x1 := (b5 1 (by omega)).2
    have eW : wB1 (kd pq) (ar pq) (cn pq) = [15, 16, 17] := by rw [q6]; rfl
    refine ab_aload_n X 0 d_PT_offerWaysOfB_0 rfl rfl ?_
    refine ab_gI X fl_PT_30 d_PT_offerWaysOfB_1 (by first | assumption | decide | (show _ < 124; omega) | (show _ < 61; omega) | (show _ < 20; omega)) (ek) ?_
    refine ab_callSN (as := [ab_I (ab_kinds (kd pq - 1))]) X (fun h => by cases h) (t_PF_leafk u (kd pq - 1) h (by omega)) ls_PT_44 d_PT_offerWaysOfB_4 rfl rfl ⟨by first | exact Nat.le_of_ble_eq_true rfl | (simp only [ab_rm]; omega), by first | exact Nat.le_of_ble_eq_true rfl | (simp only [ab_rm]; omega)⟩ ⟨by first | exact Nat.le_of_ble_eq_true rfl | (simp only [ab_rm]; omega), by first | exact Nat.le_of_ble_eq_true rfl | (simp only [ab_rm]; omega)⟩ (Nat.le_of_ble_eq_true rfl) (fun u4 r4 h4 => ?_)
    obtain ⟨e4, rfl⟩ := h4
    subst u4
    refine ab_if_eq X 47 d_PT_offerWaysOfB_7 rfl (fun _ => ?_) (fun hb => absurd ((by rw [if_neg (by omega)])) hb)
    refine ab_aload_n X 0 d_PT_offerWaysOfB_47 rfl rfl ?_
    refine ab_gI X fl_PT_30 d_PT_offerWaysOfB_48 (by first | assumption | decide | (show _ < 124; omega) | (show _ < 61; omega) | (show _ < 20; omega)) (e4) ?_
    refine ab_bipush (v := 6) X d_PT_offerWaysOfB_51 (by decide) ?_
    refine ab_icmp_ne X 121 d_PT_offerWaysOfB_53 rfl (fun _ => ?_) (fun hb => absurd hb ((by decide)))
    refine ab_aload_n X 0 d_PT_offerWaysOfB_121 rfl rfl ?_
    refine ab_gI X fl_PT_30 d_PT_offerWaysOfB_122 (by first | assumption | decide | (show _ < 124; omega) | (show _ < 61; omega) | (show _ < 20; omega)) (e4) ?_
    refine ab_bipush (v := 7) X d_PT_offerWaysOfB_125 (by decide) ?_
    refine ab_icmp_ne X 224 d_PT_offerWaysOfB_127 rfl (fun hb => absurd (rfl) hb) (fun _ => ?_)
    refine ab_aload_n X 0 d_PT_offerWaysOfB_130 rfl rfl ?_
    refine ab_gI X fl_PT_37 d_PT_offerWaysOfB_131 (by first | assumption | decide | (show _ < 124; omega) | (show _ < 61; omega) | (show _ < 20; omega)) (m6) ?_
    refine ab_iconst (v := 2) X d_PT_offerWaysOfB_134 (by decide) ?_
    refine ab_icmp_ne X 224 d_PT_offerWaysOfB_135 rfl (fun hb => absurd ((by rw [c2]; rfl)) hb) (fun _ => ?_)
    refine ab_aload_n X 0 d_PT_offerWaysOfB_138 rfl rfl ?_
    refine ab_gR X fl_PT_20 d_PT_offerWaysOfB_139 (by first | assumption | decide | (show _ < 124; omega) | (show _ < 61; omega) | (show _ < 20; omega)) (P0.1.pt1 (by first | assumption | decide | omega)) ?_
    refine ab_aload_n X 1 d_PT_offerWaysOfB_142 rfl rfl ?_
    refine ab_bipush (v := 7) X d_PT_offerWaysOfB_143 (by decide) ?_
    refine ab_aload_n X 0 d_PT_offerWaysOfB_145 rfl rfl ?_
    refine ab_gR X fl_PT_11 d_PT_offerWaysOfB_146 (by first | assumption | decide | (show _ < 124; omega) | (show _ < 61; omega) | (show _ < 20; omega)) (P0.1.pt0 (by first | assumption | decide | omega)) ?_
    refine ab_iconst (v := 0) X d_PT_offerWaysOfB_149 (by decide) ?_
    refine ab_aalv X (0) ⟨rfl, _, fun _ => rfl⟩ d_PT_offerWaysOfB_150 (by first | assumption | decide | (show _ < 124; omega) | (show _ < 61; omega) | (show _ < 20; omega)) (rfl) (show 0 < 4 by decide) (ab_ln_lt _ _) (P0.rr (by decide) (m7 0 (by omega))) ?_
    refine ab_gR X fl_PT_24 d_PT_offerWaysOfB_151 (by first | assumption | decide | (show _ < 124; omega) | (show _ < 61; omega) | (show _ < 20; omega)) (P0.1.pt2 (by first | assumption | decide | omega)) ?_
    refine ab_aload_n X 0 d_PT_offerWaysOfB_154 rfl rfl ?_
    refine ab_gR X fl_PT_11 d_PT_offerWaysOfB_155 (by first | assumption | decide | (show _ < 124; omega) | (show _ < 61; omega) | (show _ < 20; omega)) (P0.1.pt0 (by first | assumption | decide | omega)) ?_
    refine ab_iconst (v := 1) X d_PT_offerWaysOfB_158 (by decide) ?_
    refine ab_aalv X (1) ⟨rfl, _, fun _ => rfl⟩ d_PT_offerWaysOfB_159 (by first | assumption | decide | (show _ < 124; omega) | (show _ < 61; omega) | (show _ < 20; omega)) (rfl) (show 1 < 4 by decide) (ab_ln_lt _ _) (P0.rr (by decide) (m7 1 (by omega))) ?_
    refine ab_gR X fl_PT_20 d_PT_offerWaysOfB_160 (by first | assumption | decide | (show _ < 124; omega) | (show _ < 61; omega) | (show _ < 20; omega)) (P0.1.pt1 (by first | assumption | decide | omega)) ?_
    refine ab_callS (as := [ab_O 3 (3 * (pq + 1)), ab_O 3 60, ab_I (nI 7), ab_O 3 (3 * (ch pq 0 + 1) + 1), ab_O 3 (3 * (ch pq 1 + 1) + 0)]) X (fun h => by cases h) (x_PT_offerTwo u M kd ar cn lf ch Y R W hB pq hpM h (3 * (pq + 1)) _ B (by omega) K 15 0 _ _ (wys_ok ⟨k1, k7⟩ (by decide) (by rw [q6]; show 15 ∈ [15, 16, 17, 3, 4, 5, 6]; decide)) (by decide) rfl rfl rfl rfl rfl) ls_PT_82 d_PT_offerWaysOfB_163 rfl rfl ⟨by first | exact Nat.le_of_ble_eq_true rfl | (simp only [ab_rm]; omega), by first | exact Nat.le_of_ble_eq_true rfl | (simp only [ab_rm]; omega)⟩ ⟨by first | exact Nat.le_of_ble_eq_true rfl | (simp only [ab_rm]; omega), by first | exact Nat.le_of_ble_eq_true rfl | (simp only [ab_rm]; omega)⟩ (Nat.le_of_ble_eq_true rfl) (fun u163 r163 h163 => ?_)
    obtain ⟨⟨q163, o163, b163⟩, rfl⟩ := h163
    have P163 := P0.trans q163 (by decide)
    refine ab_aload_n X 0 d_PT_offerWaysOfB_166 rfl rfl ?_
    refine ab_gR X fl_PT_20 d_PT_offerWaysOfB_167 (by first | assumption | decide | (show _ < 124; omega) | (show _ < 61; omega) | (show _ < 20; omega)) (P163.1.pt1 (by first | assumption | decide | omega)) ?_
    refine ab_aload_n X 1 d_PT_offerWaysOfB_170 rfl rfl ?_
    refine ab_bipush (v := 7) X d_PT_offerWaysOfB_171 (by decide) ?_
    refine ab_aload_n X 0 d_PT_offerWaysOfB_173 rfl rfl ?_
    refine ab_gR X fl_PT_11 d_PT_offerWaysOfB_174 (by first | assumption | decide | (show _ < 124; omega) | (show _ < 61; omega) | (show _ < 20; omega)) (P163.1.pt0 (by first | assumption | decide | omega)) ?_
    refine ab_iconst (v := 1) X d_PT_offerWaysOfB_177 (by decide) ?_
    refine ab_aalv X (1) ⟨rfl, _, fun _ => rfl⟩ d_PT_offerWaysOfB_178 (by first | assumption | decide | (show _ < 124; omega) | (show _ < 61; omega) | (show _ < 20; omega)) (rfl) (show 1 < 4 by decide) (ab_ln_lt _ _) (P163.rr (by decide) (m7 1 (by omega))) ?_
    refine ab_gR X fl_PT_24 d_PT_offerWaysOfB_179 (by first | assumption | decide | (show _ < 124; omega) | (show _ < 61; omega) | (show _ < 20; omega)) (P163.1.pt2 (by first | assumption | decide | omega)) ?_
    refine ab_aload_n X 0 d_PT_offerWaysOfB_182 rfl rfl ?_
    refine ab_gR X fl_PT_11 d_PT_offerWaysOfB_183 (by first | assumption | decide | (show _ < 124; omega) | (show _ < 61; omega) | (show _ < 20; omega)) (P163.1.pt0 (by first | assumption | decide | omega)) ?_
    refine ab_iconst (v := 0) X d_PT_offerWaysOfB_186 (by decide) ?_
    refine ab_aalv X (0) ⟨rfl, _, fun _ => rfl⟩ d_PT_offerWaysOfB_187 (by first | assumption | decide | (show _ < 124; omega) | (show _ < 61; omega) | (show _ < 20; omega)) (rfl) (show 0 < 4 by decide) (ab_ln_lt _ _) (P163.rr (by decide) (m7 0 (by omega))) ?_
    refine ab_gR X fl_PT_20 d_PT_offerWaysOfB_188 (by first | assumption | decide | (show _ < 124; omega) | (show _ < 61; omega) | (show _ < 20; omega)) (P163.1.pt1 (by first | assumption | decide | omega)) ?_
    refine ab_callS (as := [ab_O 3 (3 * (pq + 1)), ab_O 3 60, ab_I (nI 7), ab_O 3 (3 * (ch pq 1 + 1) + 1), ab_O 3 (3 * (ch pq 0 + 1) + 0)]) X (fun h => by cases h) (x_PT_offerTwo u163 M kd ar cn lf ch Y R W hB pq hpM P163.1 (3 * (pq + 1)) _ b163 (by omega) (K.fr o163 (fun i hi => by omega) hP19) 16 0 _ _ (wys_ok ⟨k1, k7⟩ (by decide) (by rw [q6]; show 16 ∈ [15, 16, 17, 3, 4, 5, 6]; decide)) (by decide) rfl rfl rfl rfl rfl) ls_PT_82 d_PT_offerWaysOfB_191 rfl rfl ⟨by first | exact Nat.le_of_ble_eq_true rfl | (simp only [ab_rm]; omega), by first | exact Nat.le_of_ble_eq_true rfl | (simp only [ab_rm]; omega)⟩ ⟨by first | exact Nat.le_of_ble_eq_true rfl | (simp only [ab_rm]; omega), by first | exact Nat.le_of_ble_eq_true rfl | (simp only [ab_rm]; omega)⟩ (Nat.le_of_ble_eq_true rfl) (fun u191 r191 h191 => ?_)
    obtain ⟨⟨q191, o191, b191⟩, rfl⟩ := h191
    have P191 := P163.trans q191 (by decide)
    refine ab_aload_n X 0 d_PT_offerWaysOfB_194 rfl rfl ?_
    refine ab_gR X fl_PT_20 d_PT_offerWaysOfB_195 (by first | assumption | decide | (show _ < 124; omega) | (show _ < 61; omega) | (show _ < 20; omega)) (P191.1.pt1 (by first | assumption | decide | omega)) ?_
    refine ab_aload_n X 1 d_PT_offerWaysOfB_198 rfl rfl ?_
    refine ab_iconst (v := 5) X d_PT_offerWaysOfB_199 (by decide) ?_
    refine ab_aload_n X 0 d_PT_offerWaysOfB_200 rfl rfl ?_
    refine ab_gR X fl_PT_11 d_PT_offerWaysOfB_201 (by first | assumption | decide | (show _ < 124; omega) | (show _ < 61; omega) | (show _ < 20; omega)) (P191.1.pt0 (by first | assumption | decide | omega)) ?_
    refine ab_iconst (v := 0) X d_PT_offerWaysOfB_204 (by decide) ?_
    refine ab_aalv X (0) ⟨rfl, _, fun _ => rfl⟩ d_PT_offerWaysOfB_205 (by first | assumption | decide | (show _ < 124; omega) | (show _ < 61; omega) | (show _ < 20; omega)) (rfl) (show 0 < 4 by decide) (ab_ln_lt _ _) (P191.rr (by decide) (m7 0 (by omega))) ?_
    refine ab_gR X fl_PT_20 d_PT_offerWaysOfB_206 (by first | assumption | decide | (show _ < 124; omega) | (show _ < 61; omega) | (show _ < 20; omega)) (P191.1.pt1 (by first | assumption | decide | omega)) ?_
    refine ab_aload_n X 0 d_PT_offerWaysOfB_209 rfl rfl ?_
    refine ab_gR X fl_PT_11 d_PT_offerWaysOfB_210 (by first | assumption | decide | (show _ < 124; omega) | (show _ < 61; omega) | (show _ < 20; omega)) (P191.1.pt0 (by first | assumption | decide | omega)) ?_
    refine ab_iconst (v := 1) X d_PT_offerWaysOfB_213 (by decide) ?_
    refine ab_aalv X (1) ⟨rfl, _, fun _ => rfl⟩ d_PT_offerWaysOfB_214 (by first | assumption | decide | (show _ < 124; omega) | (show _ < 61; omega) | (show _ < 20; omega)) (rfl) (show 1 < 4 by decide) (ab_ln_lt _ _) (P191.rr (by decide) (m7 1 (by omega))) ?_
    refine ab_gR X fl_PT_20 d_PT_offerWaysOfB_215 (by first | assumption | decide | (show _ < 124; omega) | (show _ < 61; omega) | (show _ < 20; omega)) (P191.1.pt1 (by first | assumption | decide | omega)) ?_
    refine ab_callS (as := [ab_O 3 (3 * (pq + 1)), ab_O 3 60, ab_I (nI 5), ab_O 3 (3 * (ch pq 0 + 1) + 0), ab_O 3 (3 * (ch pq 1 + 1) + 0)]) X (fun h => by cases h) (x_PT_offerTwo u191 M kd ar cn lf ch Y R W hB pq hpM P191.1 (3 * (pq + 1)) _ b191 (by omega) (K.fr (o163.trans o191) (fun i hi => by omega) hP19) 17 0 _ _ (wys_ok ⟨k1, k7⟩ (by decide) (by rw [q6]; show 17 ∈ [15, 16, 17, 3, 4, 5, 6]; decide)) (by decide) rfl rfl rfl rfl rfl) ls_PT_82 d_PT_offerWaysOfB_218 rfl rfl ⟨by first | exact Nat.le_of_ble_eq_true rfl | (simp only [ab_rm]; omega), by first | exact Nat.le_of_ble_eq_true rfl | (simp only [ab_rm]; omega)⟩ ⟨by first | exact Nat.le_of_ble_eq_true rfl | (simp only [ab_rm]; omega), by first | exact Nat.le_of_ble_eq_true rfl | (simp only [ab_rm]; omega)⟩ (Nat.le_of_ble_eq_true rfl) (fun u218 r218 h218 => ?_)
    obtain ⟨⟨q218, o218, b218⟩, rfl⟩ := h218
    have P218 := P191.trans q218 (by decide)
    refine ab_goto X 249 d_PT_offerWaysOfB_221 rfl ?_
    exact ab_retv X hr0 hlk d_PT_offerWaysOfB_249 ⟨⟨P218, ((o163.trans o191).trans o218), by rw [eW]; exact b218⟩, rfl⟩
  · have e4 : u.1 2 (pq + 1) 4 = nI 8 := by rw [m4, q7]; rfl
    obtain ⟨n2, n4, n5, n7, b5, b6⟩ := kb (by omega)
    have e5 : u.1 2 (pq + 1) 5 = nI (ar pq) := by rw [m5]; unfold cnu; rw [if_neg (by omega), if_neg (by omega)]
    have w0 : wB1 (kd pq) (ar pq) (cn pq) = if ar pq = cn pq then [18] else [] := by rw [q7]; rfl
    refine ab_aload_n X 0 d_PT_offerWaysOfB_0 rfl rfl ?_
    refine ab_gI X fl_PT_30 d_PT_offerWaysOfB_1 (by first | assumption | decide | (show _ < 124; omega) | (show _ < 61; omega) | (show _ < 20; omega)) (ek) ?_
    refine ab_callSN (as := [ab_I (ab_kinds (kd pq - 1))]) X (fun h => by cases h) (t_PF_leafk u (kd pq - 1) h (by omega)) ls_PT_44 d_PT_offerWaysOfB_4 rfl rfl ⟨by first | exact Nat.le_of_ble_eq_true rfl | (simp only [ab_rm]; omega), by first | exact Nat.le_of_ble_eq_true rfl | (simp only [ab_rm]; omega)⟩ ⟨by first | exact Nat.le_of_ble_eq_true rfl | (simp only [ab_rm]; omega), by first | exact Nat.le_of_ble_eq_true rfl | (simp only [ab_rm]; omega)⟩ (Nat.le_of_ble_eq_true rfl) (fun u4 r4 h4 => ?_)
    obtain ⟨e4, rfl⟩ := h4
    subst u4
    refine ab_if_eq X 47 d_PT_offerWaysOfB_7 rfl (fun _ => ?_) (fun hb => absurd ((by rw [if_neg (by omega)])) hb)
    refine ab_aload_n X 0 d_PT_offerWaysOfB_47 rfl rfl ?_
    refine ab_gI X fl_PT_30 d_PT_offerWaysOfB_48 (by first | assumption | decide | (show _ < 124; omega) | (show _ < 61; omega) | (show _ < 20; omega)) (e4) ?_
    refine ab_bipush (v := 6) X d_PT_offerWaysOfB_51 (by decide) ?_
    refine ab_icmp_ne X 121 d_PT_offerWaysOfB_53 rfl (fun _ => ?_) (fun hb => absurd hb ((by decide)))
    refine ab_aload_n X 0 d_PT_offerWaysOfB_121 rfl rfl ?_
    refine ab_gI X fl_PT_30 d_PT_offerWaysOfB_122 (by first | assumption | decide | (show _ < 124; omega) | (show _ < 61; omega) | (show _ < 20; omega)) (e4) ?_
    refine ab_bipush (v := 7) X d_PT_offerWaysOfB_125 (by decide) ?_
    refine ab_icmp_ne X 224 d_PT_offerWaysOfB_127 rfl (fun _ => ?_) (fun hb => absurd hb ((by decide)))
    refine ab_aload_n X 0 d_PT_offerWaysOfB_224 rfl rfl ?_
    refine ab_gI X fl_PT_30 d_PT_offerWaysOfB_225 (by first | assumption | decide | (show _ < 124; omega) | (show _ < 61; omega) | (show _ < 20; omega)) (e4) ?_
    refine ab_bipush (v := 8) X d_PT_offerWaysOfB_228 (by decide) ?_
    refine ab_icmp_ne X 249 d_PT_offerWaysOfB_230 rfl (fun hb => absurd (rfl) hb) (fun _ => ?_)
    refine ab_aload_n X 0 d_PT_offerWaysOfB_233 rfl rfl ?_
    refine ab_gI X fl_PT_34 d_PT_offerWaysOfB_234 (by first | assumption | decide | (show _ < 124; omega) | (show _ < 61; omega) | (show _ < 20; omega)) (e5) ?_
    refine ab_aload_n X 0 d_PT_offerWaysOfB_237 rfl rfl ?_
    refine ab_gI X fl_PT_37 d_PT_offerWaysOfB_238 (by first | assumption | decide | (show _ < 124; omega) | (show _ < 61; omega) | (show _ < 20; omega)) (m6) ?_
    refine ab_icmp_ne X 249 d_PT_offerWaysOfB_241 rfl (fun h241 => ?_) (fun h241 => ?_)
    ·
      have ne : ¬ ar pq = cn pq := fun z => h241 (by rw [z])
      exact ab_retv X hr0 hlk d_PT_offerWaysOfB_249 ⟨⟨P0, fO.rf, by rw [w0, if_neg ne]; exact B⟩, rfl⟩
    ·
      have ne : ar pq = cn pq := (nI_eq (by omega) (by omega)).mp h241
      refine ab_aload_n X 0 d_PT_offerWaysOfB_244 rfl rfl ?_
      refine ab_aload_n X 1 d_PT_offerWaysOfB_245 rfl rfl ?_
      refine ab_callV (as := [ab_O 3 60]) X (fun h => by cases h) (x_PT_offerRow u M kd ar cn lf ch Y R W hB pq hpM mm h (3 * (pq + 1)) none B (by omega) K q7 ne rfl) lk_PT_86 d_PT_offerWaysOfB_246 rfl rfl (by first | assumption | decide | (show _ < 124; omega) | (show _ < 61; omega) | (show _ < 20; omega)) ⟨by first | exact Nat.le_of_ble_eq_true rfl | (simp only [ab_rm]; omega), by first | exact Nat.le_of_ble_eq_true rfl | (simp only [ab_rm]; omega)⟩ ⟨by first | exact Nat.le_of_ble_eq_true rfl | (simp only [ab_rm]; omega), by first | exact Nat.le_of_ble_eq_true rfl | (simp only [ab_rm]; omega)⟩ (Nat.le_of_ble_eq_true rfl) (fun u246 r246 h246 => ?_)
      obtain ⟨⟨q246, o246, b246⟩, rfl⟩ := h246
      have P246 := P0.trans q246 (by decide)
      exact ab_retv X hr0 hlk d_PT_offerWaysOfB_249 ⟨⟨P246, o246, by rw [w0, if_pos ne]; exact b246⟩, rfl⟩
set_option maxRecDepth 100000 in
set_option maxHeartbeats 1000000 in
theorem x_PT_waysV (u : ab_S) (M : Nat) (kd ar cn lf : Nat → Nat) (ch : Nat → Nat → Nat) (Y : Nat → Nat → Nat × Nat × Nat) (R : Nat → List Nat) (W : tW M kd ar cn lf ch) (hB : ∀ q, q < M → xB lf Y R q) (pq : Nat) (hpM : pq < M) (mm : pm kd ar cn ch pq u) (h : CI u) (B : xO kd ar cn ch u pq (3 * (pq + 1) + 2) none) (K : cK M Y R (pq + 1) u) (K0 : kC Y R u pq 0) : ab_C false l D ca y_PT_offerWaysOfV b_PT_offerWaysOfV 2 none 5 ab_nQ u [ab_O 2 (pq + 1), ab_O 3 60] (fun u' v => (cP [3, 9] u u' ∧ fO (fun i => i = (3 * (pq + 1) + 2) ∨ i = 60) u u' ∧ xO kd ar cn ch u' pq (3 * (pq + 1) + 2) (pks (tL cn ch (xL Y) pq) (tG kd ar cn ch (xG Y) R pq) none (wys (kd pq) (ar pq) (cn pq) 2))) ∧ v = none) := by
  refine ab_C.of (by decide) (Nat.le_of_ble_eq_true rfl) ?_
  intro p e s m args below meth c ad X hZ hr0 hlk
  have P0 : cP [3, 9] u u := cQ.rf h
  have hP19 := W.2.1
  obtain ⟨⟨l1, l2, k1, k7, r9⟩, -, kb⟩ := W.2.2 pq hpM
  obtain ⟨m4, m5, m6, m7⟩ := id mm
  have hw24 : wok (kd pq) (ar pq) (cn pq) 2 24 := by simp [wok]
  have cs : (kd pq ≠ 5 ∧ kd pq ≠ 6) ∨ kd pq = 5 ∨ kd pq = 6 := by omega
  rcases cs with ⟨q5, q6⟩ | q5 | q6
  · have eW : wys (kd pq) (ar pq) (cn pq) 2 = [24] := by rw [wys_2]; unfold wV1; rw [if_neg q5, if_neg q6]; rfl
    have n6 : ¬ u.1 2 (pq + 1) 4 = 6 := fun z => by
      rw [m4] at z
      have := (nI_eq (b := 6) (by unfold ck; split <;> omega) (by decide)).mp z
      unfold ck at this; split at this <;> omega
    have n7 : ¬ u.1 2 (pq + 1) 4 = 7 := fun z => by
      rw [m4] at z
      have := (nI_eq (b := 7) (by unfold ck; split <;> omega) (by decide)).mp z
      unfold ck at this; split at this <;> omega
    refine ab_aload_n X 0 d_PT_offerWaysOfV_0 rfl rfl ?_
    refine ab_gI X fl_PT_30 d_PT_offerWaysOfV_1 (by first | assumption | decide | (show _ < 124; omega) | (show _ < 61; omega) | (show _ < 20; omega)) (rfl) ?_
    refine ab_bipush (v := 6) X d_PT_offerWaysOfV_4 (by decide) ?_
    refine ab_icmp_ne X 47 d_PT_offerWaysOfV_6 rfl (fun _ => ?_) (fun hb => absurd hb (n6))
    refine ab_aload_n X 0 d_PT_offerWaysOfV_47 rfl rfl ?_
    refine ab_gI X fl_PT_30 d_PT_offerWaysOfV_48 (by first | assumption | decide | (show _ < 124; omega) | (show _ < 61; omega) | (show _ < 20; omega)) (rfl) ?_
    refine ab_bipush (v := 7) X d_PT_offerWaysOfV_51 (by decide) ?_
    refine ab_icmp_ne X 119 d_PT_offerWaysOfV_53 rfl (fun _ => ?_) (fun hb => absurd hb (n7))
    refine ab_aload_n X 0 d_PT_offerWaysOfV_119 rfl rfl ?_
    refine ab_gR X fl_PT_27 d_PT_offerWaysOfV_120 (by first | assumption | decide | (show _ < 124; omega) | (show _ < 61; omega) | (show _ < 20; omega)) (P0.1.pt3 (by first | assumption | decide | omega)) ?_
    refine ab_aload_n X 1 d_PT_offerWaysOfV_123 rfl rfl ?_
    refine ab_iconst (v := 3) X d_PT_offerWaysOfV_124 (by decide) ?_
    refine ab_iconst (v := 0) X d_PT_offerWaysOfV_125 (by decide) ?_
    refine ab_iconst (v := 1) X d_PT_offerWaysOfV_126 (by decide) ?_
    refine ab_callV (as := [ab_I (nI 3), ab_I 0, ab_I 1]) X (fun h => by cases h) (f_FM_start u 60 3 0 1 (fun i => 3 * (cp ch 24 pq i + 1) + cj cn 24 pq i) (P0.ex 60).1 (by decide)) lk_PT_65 d_PT_offerWaysOfV_127 rfl rfl (by first | assumption | decide | (show _ < 124; omega) | (show _ < 61; omega) | (show _ < 20; omega)) ⟨by first | exact Nat.le_of_ble_eq_true rfl | (simp only [ab_rm]; omega), by first | exact Nat.le_of_ble_eq_true rfl | (simp only [ab_rm]; omega)⟩ ⟨by first | exact Nat.le_of_ble_eq_true rfl | (simp only [ab_rm]; omega), by first | exact Nat.le_of_ble_eq_true rfl | (simp only [ab_rm]; omega)⟩ (Nat.le_of_ble_eq_true rfl) (fun u127 r127 h127 => ?_)
    obtain ⟨⟨q127, o127, d127, w127, x127⟩, rfl⟩ := h127
    have P127 := P0.trans q127 (by decide)
    refine ab_aload_n X 0 d_PT_offerWaysOfV_130 rfl rfl ?_
    refine ab_gR X fl_PT_20 d_PT_offerWaysOfV_131 (by first | assumption | decide | (show _ < 124; omega) | (show _ < 61; omega) | (show _ < 20; omega)) (P127.1.pt1 (by first | assumption | decide | omega)) ?_
    refine ab_callV (as := [ab_O 3 (3 * (pq + 1))]) X (fun h => by cases h) (f_FM_with u127 60 3 0 (3 * (pq + 1)) 0 1 (fun i => 3 * (cp ch 24 pq i + 1) + cj cn 24 pq i) P127.1 (by decide) (by omega) d127 rfl (by decide)) lk_PT_69 d_PT_offerWaysOfV_134 rfl rfl (by first | assumption | decide | (show _ < 124; omega) | (show _ < 61; omega) | (show _ < 20; omega)) ⟨by first | exact Nat.le_of_ble_eq_true rfl | (simp only [ab_rm]; omega), by first | exact Nat.le_of_ble_eq_true rfl | (simp only [ab_rm]; omega)⟩ ⟨by first | exact Nat.le_of_ble_eq_true rfl | (simp only [ab_rm]; omega), by first | exact Nat.le_of_ble_eq_true rfl | (simp only [ab_rm]; omega)⟩ (Nat.le_of_ble_eq_true rfl) (fun u134 r134 h134 => ?_)
    obtain ⟨⟨q134, o134, d134, w134, x134⟩, rfl⟩ := h134
    have P134 := P127.trans q134 (by decide)
    have R137 := ci_done P134 d134.1 d134.2.2.2.1 (by decide) ci_cl3
    have o6 := o127.trans o134
    have F6 : Fw kd ar cn ch u134 pq 60 24 := d134
    refine ab_callV (as := [ab_O 3 60]) X (fun h => by cases h) (x_FM_off u134 M kd ar cn lf ch Y R W hB pq hpM 24 2 (3 * (pq + 1) + 2) none hw24 F6 (kCs.of W hpM hw24 (K.fr o6 (fun i hi => by omega) hP19) (fun _ => K0.fr o6 (by omega))) (B.fr o6 (by omega)) R137.1 (by omega)) lk_PT_73 d_PT_offerWaysOfV_137 rfl rfl (by first | assumption | decide | (show _ < 124; omega) | (show _ < 61; omega) | (show _ < 20; omega)) ⟨by first | exact Nat.le_of_ble_eq_true rfl | (simp only [ab_rm]; omega), by first | exact Nat.le_of_ble_eq_true rfl | (simp only [ab_rm]; omega)⟩ ⟨by first | exact Nat.le_of_ble_eq_true rfl | (simp only [ab_rm]; omega), by first | exact Nat.le_of_ble_eq_true rfl | (simp only [ab_rm]; omega)⟩ (Nat.le_of_ble_eq_true rfl) (fun u137 r137 h137 => ?_)
    obtain ⟨⟨q137, o137, b137⟩, rfl⟩ := h137
    have P137 := R137.trans q137 (by decide)
    exact ab_retv X hr0 hlk d_PT_offerWaysOfV_140 ⟨⟨P137, (o6.wk (fun _ z => Or.inr z)).trans (o137.wk (fun _ z => Or.inl z)), by rw [eW]; exact b137⟩, rfl⟩
  · have e4 : u.1 2 (pq + 1) 4 = nI 6 := by rw [m4, q5]; rfl
    obtain ⟨n2, n4, n5, n7, b5, b6⟩ := kb (by omega)
    have c2 := n5 (by omega)
    have x0 := (b5 0 (by omega)).2
    have x1 := (b5 1 (by omega)).2
    have eW : wys (kd pq) (ar pq) (cn pq) 2 = [21, 24] := by rw [wys_2, q5]; rfl
    refine ab_aload_n X 0 d_PT_offerWaysOfV_0 rfl rfl ?_
    refine ab_gI X fl_PT_30 d_PT_offerWaysOfV_1 (by first | assumption | decide | (show _ < 124; omega) | (show _ < 61; omega) | (show _ < 20; omega)) (e4) ?_
    refine ab_bipush (v := 6) X d_PT_offerWaysOfV_4 (by decide) ?_
    refine ab_icmp_ne X 47 d_PT_offerWaysOfV_6 rfl (fun hb => absurd (rfl) hb) (fun _ => ?_)
    refine ab_aload_n X 0 d_PT_offerWaysOfV_9 rfl rfl ?_
    refine ab_gI X fl_PT_37 d_PT_offerWaysOfV_10 (by first | assumption | decide | (show _ < 124; omega) | (show _ < 61; omega) | (show _ < 20; omega)) (m6) ?_
    refine ab_iconst (v := 2) X d_PT_offerWaysOfV_13 (by decide) ?_
    refine ab_icmp_ne X 47 d_PT_offerWaysOfV_14 rfl (fun hb => absurd ((by rw [c2]; rfl)) hb) (fun _ => ?_)
    refine ab_aload_n X 0 d_PT_offerWaysOfV_17 rfl rfl ?_
    refine ab_gR X fl_PT_27 d_PT_offerWaysOfV_18 (by first | assumption | decide | (show _ < 124; omega) | (show _ < 61; omega) | (show _ < 20; omega)) (P0.1.pt3 (by first | assumption | decide | omega)) ?_
    refine ab_aload_n X 1 d_PT_offerWaysOfV_21 rfl rfl ?_
    refine ab_iconst (v := 2) X d_PT_offerWaysOfV_22 (by decide) ?_
    refine ab_aload_n X 0 d_PT_offerWaysOfV_23 rfl rfl ?_
    refine ab_gR X fl_PT_11 d_PT_offerWaysOfV_24 (by first | assumption | decide | (show _ < 124; omega) | (show _ < 61; omega) | (show _ < 20; omega)) (P0.1.pt0 (by first | assumption | decide | omega)) ?_
    refine ab_iconst (v := 0) X d_PT_offerWaysOfV_27 (by decide) ?_
    refine ab_aalv X (0) ⟨rfl, _, fun _ => rfl⟩ d_PT_offerWaysOfV_28 (by first | assumption | decide | (show _ < 124; omega) | (show _ < 61; omega) | (show _ < 20; omega)) (rfl) (show 0 < 4 by decide) (ab_ln_lt _ _) (P0.rr (by decide) (m7 0 (by omega))) ?_
    refine ab_gR X fl_PT_27 d_PT_offerWaysOfV_29 (by first | assumption | decide | (show _ < 124; omega) | (show _ < 61; omega) | (show _ < 20; omega)) (P0.1.pt3 (by first | assumption | decide | omega)) ?_
    refine ab_aload_n X 0 d_PT_offerWaysOfV_32 rfl rfl ?_
    refine ab_gR X fl_PT_11 d_PT_offerWaysOfV_33 (by first | assumption | decide | (show _ < 124; omega) | (show _ < 61; omega) | (show _ < 20; omega)) (P0.1.pt0 (by first | assumption | decide | omega)) ?_
    refine ab_iconst (v := 1) X d_PT_offerWaysOfV_36 (by decide) ?_
    refine ab_aalv X (1) ⟨rfl, _, fun _ => rfl⟩ d_PT_offerWaysOfV_37 (by first | assumption | decide | (show _ < 124; omega) | (show _ < 61; omega) | (show _ < 20; omega)) (rfl) (show 1 < 4 by decide) (ab_ln_lt _ _) (P0.rr (by decide) (m7 1 (by omega))) ?_
    refine ab_gR X fl_PT_27 d_PT_offerWaysOfV_38 (by first | assumption | decide | (show _ < 124; omega) | (show _ < 61; omega) | (show _ < 20; omega)) (P0.1.pt3 (by first | assumption | decide | omega)) ?_
    refine ab_callS (as := [ab_O 3 (3 * (pq + 1) + 2), ab_O 3 60, ab_I (nI 2), ab_O 3 (3 * (ch pq 0 + 1) + 2), ab_O 3 (3 * (ch pq 1 + 1) + 2)]) X (fun h => by cases h) (x_PT_offerTwo u M kd ar cn lf ch Y R W hB pq hpM h (3 * (pq + 1) + 2) _ B (by omega) K 21 2 _ _ (wys_ok ⟨k1, k7⟩ (by decide) (by rw [q5]; show 21 ∈ [21, 24]; decide)) (by decide) rfl rfl rfl rfl rfl) ls_PT_82 d_PT_offerWaysOfV_41 rfl rfl ⟨by first | exact Nat.le_of_ble_eq_true rfl | (simp only [ab_rm]; omega), by first | exact Nat.le_of_ble_eq_true rfl | (simp only [ab_rm]; omega)⟩ ⟨by first | exact Nat.le_of_ble_eq_true rfl | (simp only [ab_rm]; omega), by first | exact Nat.le_of_ble_eq_true rfl | (simp only [ab_rm]; omega)⟩ (Nat.le_of_ble_eq_true rfl) (fun u41 r41 h41 => ?_)
    obtain ⟨⟨q41, o41, b41⟩, rfl⟩ := h41
    have P41 := P0.trans q41 (by decide)
    refine ab_goto X 119 d_PT_offerWaysOfV_44 rfl ?_
    refine ab_aload_n X 0 d_PT_offerWaysOfV_119 rfl rfl ?_
    refine ab_gR X fl_PT_27 d_PT_offerWaysOfV_120 (by first | assumption | decide | (show _ < 124; omega) | (show _ < 61; omega) | (show _ < 20; omega)) (P41.1.pt3 (by first | assumption | decide | omega)) ?_
    refine ab_aload_n X 1 d_PT_offerWaysOfV_123 rfl rfl ?_
    refine ab_iconst (v := 3) X d_PT_offerWaysOfV_124 (by decide) ?_
    refine ab_iconst (v := 0) X d_PT_offerWaysOfV_125 (by decide) ?_
    refine ab_iconst (v := 1) X d_PT_offerWaysOfV_126 (by decide) ?_
    refine ab_callV (as := [ab_I (nI 3), ab_I 0, ab_I 1]) X (fun h => by cases h) (f_FM_start u41 60 3 0 1 (fun i => 3 * (cp ch 24 pq i + 1) + cj cn 24 pq i) (P41.ex 60).1 (by decide)) lk_PT_65 d_PT_offerWaysOfV_127 rfl rfl (by first | assumption | decide | (show _ < 124; omega) | (show _ < 61; omega) | (show _ < 20; omega)) ⟨by first | exact Nat.le_of_ble_eq_true rfl | (simp only [ab_rm]; omega), by first | exact Nat.le_of_ble_eq_true rfl | (simp only [ab_rm]; omega)⟩ ⟨by first | exact Nat.le_of_ble_eq_true rfl | (simp only [ab_rm]; omega), by first | exact Nat.le_of_ble_eq_true rfl | (simp only [ab_rm]; omega)⟩ (Nat.le_of_ble_eq_true rfl) (fun u127 r127 h127 => ?_)
    obtain ⟨⟨q127, o127, d127, w127, x127⟩, rfl⟩ := h127
    have P127 := P41.trans q127 (by decide)
    refine ab_aload_n X 0 d_PT_offerWaysOfV_130 rfl rfl ?_
    refine ab_gR X fl_PT_20 d_PT_offerWaysOfV_131 (by first | assumption | decide | (show _ < 124; omega) | (show _ < 61; omega) | (show _ < 20; omega)) (P127.1.pt1 (by first | assumption | decide | omega)) ?_
    refine ab_callV (as := [ab_O 3 (3 * (pq + 1))]) X (fun h => by cases h) (f_FM_with u127 60 3 0 (3 * (pq + 1)) 0 1 (fun i => 3 * (cp ch 24 pq i + 1) + cj cn 24 pq i) P127.1 (by decide) (by omega) d127 rfl (by decide)) lk_PT_69 d_PT_offerWaysOfV_134 rfl rfl (by first | assumption | decide | (show _ < 124; omega) | (show _ < 61; omega) | (show _ < 20; omega)) ⟨by first | exact Nat.le_of_ble_eq_true rfl | (simp only [ab_rm]; omega), by first | exact Nat.le_of_ble_eq_true rfl | (simp only [ab_rm]; omega)⟩ ⟨by first | exact Nat.le_of_ble_eq_true rfl | (simp only [ab_rm]; omega), by first | exact Nat.le_of_ble_eq_true rfl | (simp only [ab_rm]; omega)⟩ (Nat.le_of_ble_eq_true rfl) (fun u134 r134 h134 => ?_)
    obtain ⟨⟨q134, o134, d134, w134, x134⟩, rfl⟩ := h134
    have P134 := P127.trans q134 (by decide)
    have R137 := ci_done P134 d134.1 d134.2.2.2.1 (by decide) ci_cl3
    have o6 := o127.trans o134
    have F6 : Fw kd ar cn ch u134 pq 60 24 := d134
    refine ab_callV (as := [ab_O 3 60]) X (fun h => by cases h) (x_FM_off u134 M kd ar cn lf ch Y R W hB pq hpM 24 2 (3 * (pq + 1) + 2) _ hw24 F6 (kCs.of W hpM hw24 ((K.fr o41 (fun i hi => by omega) hP19).fr o6 (fun i hi => by omega) hP19) (fun _ => (K0.fr o41 (by omega)).fr o6 (by omega))) (b41.fr o6 (by omega)) R137.1 (by omega)) lk_PT_73 d_PT_offerWaysOfV_137 rfl rfl (by first | assumption | decide | (show _ < 124; omega) | (show _ < 61; omega) | (show _ < 20; omega)) ⟨by first | exact Nat.le_of_ble_eq_true rfl | (simp only [ab_rm]; omega), by first | exact Nat.le_of_ble_eq_true rfl | (simp only [ab_rm]; omega)⟩ ⟨by first | exact Nat.le_of_ble_eq_true rfl | (simp only [ab_rm]; omega), by first | exact Nat.le_of_ble_eq_true rfl | (simp only [ab_rm]; omega)⟩ (Nat.le_of_ble_eq_true rfl) (fun u137 r137 h137 => ?_)
    obtain ⟨⟨q137, o137, b137⟩, rfl⟩ := h137
    have P137 := R137.trans q137 (by decide)
    exact ab_retv X hr0 hlk d_PT_offerWaysOfV_140 ⟨⟨P137, o41.trans ((o6.wk (fun _ z => Or.inr z)).trans (o137.wk (fun _ z => Or.inl z))), by rw [eW]; exact b137⟩, rfl⟩
  · have e4 : u.1 2 (pq + 1) 4 = nI 7 := by rw [m4, q6]; rfl
    obtain ⟨n2, n4, n5, n7, b5, b6⟩ := kb (by omega)
    have c2 := n5 (by omega)
    have x0 := (b5 0 (by omega)).2
    have x1 := (b5 1 (by omega)).2
    have eW : wys (kd pq) (ar pq) (cn pq) 2 = [22, 23, 24] := by rw [wys_2, q6]; rfl
    refine ab_aload_n X 0 d_PT_offerWaysOfV_0 rfl rfl ?_
    refine ab_gI X fl_PT_30 d_PT_offerWaysOfV_1 (by first | assumption | decide | (show _ < 124; omega) | (show _ < 61; omega) | (show _ < 20; omega)) (e4) ?_
    refine ab_bipush (v := 6) X d_PT_offerWaysOfV_4 (by decide) ?_
    refine ab_icmp_ne X 47 d_PT_offerWaysOfV_6 rfl (fun _ => ?_) (fun hb => absurd hb ((by decide)))
    refine ab_aload_n X 0 d_PT_offerWaysOfV_47 rfl rfl ?_
    refine ab_gI X fl_PT_30 d_PT_offerWaysOfV_48 (by first | assumption | decide | (show _ < 124; omega) | (show _ < 61; omega) | (show _ < 20; omega)) (e4) ?_
    refine ab_bipush (v := 7) X d_PT_offerWaysOfV_51 (by decide) ?_
    refine ab_icmp_ne X 119 d_PT_offerWaysOfV_53 rfl (fun hb => absurd (rfl) hb) (fun _ => ?_)
    refine ab_aload_n X 0 d_PT_offerWaysOfV_56 rfl rfl ?_
    refine ab_gI X fl_PT_37 d_PT_offerWaysOfV_57 (by first | assumption | decide | (show _ < 124; omega) | (show _ < 61; omega) | (show _ < 20; omega)) (m6) ?_
    refine ab_iconst (v := 2) X d_PT_offerWaysOfV_60 (by decide) ?_
    refine ab_icmp_ne X 119 d_PT_offerWaysOfV_61 rfl (fun hb => absurd ((by rw [c2]; rfl)) hb) (fun _ => ?_)
    refine ab_aload_n X 0 d_PT_offerWaysOfV_64 rfl rfl ?_
    refine ab_gR X fl_PT_27 d_PT_offerWaysOfV_65 (by first | assumption | decide | (show _ < 124; omega) | (show _ < 61; omega) | (show _ < 20; omega)) (P0.1.pt3 (by first | assumption | decide | omega)) ?_
    refine ab_aload_n X 1 d_PT_offerWaysOfV_68 rfl rfl ?_
    refine ab_bipush (v := 8) X d_PT_offerWaysOfV_69 (by decide) ?_
    refine ab_aload_n X 0 d_PT_offerWaysOfV_71 rfl rfl ?_
    refine ab_gR X fl_PT_11 d_PT_offerWaysOfV_72 (by first | assumption | decide | (show _ < 124; omega) | (show _ < 61; omega) | (show _ < 20; omega)) (P0.1.pt0 (by first | assumption | decide | omega)) ?_
    refine ab_iconst (v := 0) X d_PT_offerWaysOfV_75 (by decide) ?_
    refine ab_aalv X (0) ⟨rfl, _, fun _ => rfl⟩ d_PT_offerWaysOfV_76 (by first | assumption | decide | (show _ < 124; omega) | (show _ < 61; omega) | (show _ < 20; omega)) (rfl) (show 0 < 4 by decide) (ab_ln_lt _ _) (P0.rr (by decide) (m7 0 (by omega))) ?_
    refine ab_gR X fl_PT_24 d_PT_offerWaysOfV_77 (by first | assumption | decide | (show _ < 124; omega) | (show _ < 61; omega) | (show _ < 20; omega)) (P0.1.pt2 (by first | assumption | decide | omega)) ?_
    refine ab_aload_n X 0 d_PT_offerWaysOfV_80 rfl rfl ?_
    refine ab_gR X fl_PT_11 d_PT_offerWaysOfV_81 (by first | assumption | decide | (show _ < 124; omega) | (show _ < 61; omega) | (show _ < 20; omega)) (P0.1.pt0 (by first | assumption | decide | omega)) ?_
    refine ab_iconst (v := 1) X d_PT_offerWaysOfV_84 (by decide) ?_
    refine ab_aalv X (1) ⟨rfl, _, fun _ => rfl⟩ d_PT_offerWaysOfV_85 (by first | assumption | decide | (show _ < 124; omega) | (show _ < 61; omega) | (show _ < 20; omega)) (rfl) (show 1 < 4 by decide) (ab_ln_lt _ _) (P0.rr (by decide) (m7 1 (by omega))) ?_
    refine ab_gR X fl_PT_27 d_PT_offerWaysOfV_86 (by first | assumption | decide | (show _ < 124; omega) | (show _ < 61; omega) | (show _ < 20; omega)) (P0.1.pt3 (by first | assumption | decide | omega)) ?_
    refine ab_callS (as := [ab_O 3 (3 * (pq + 1) + 2), ab_O 3 60, ab_I (nI 8), ab_O 3 (3 * (ch pq 0 + 1) + 1), ab_O 3 (3 * (ch pq 1 + 1) + 2)]) X (fun h => by cases h) (x_PT_offerTwo u M kd ar cn lf ch Y R W hB pq hpM h (3 * (pq + 1) + 2) _ B (by omega) K 22 2 _ _ (wys_ok ⟨k1, k7⟩ (by decide) (by rw [q6]; show 22 ∈ [22, 23, 24]; decide)) (by decide) rfl rfl rfl rfl rfl) ls_PT_82 d_PT_offerWaysOfV_89 rfl rfl ⟨by first | exact Nat.le_of_ble_eq_true rfl | (simp only [ab_rm]; omega), by first | exact Nat.le_of_ble_eq_true rfl | (simp only [ab_rm]; omega)⟩ ⟨by first | exact Nat.le_of_ble_eq_true rfl | (simp only [ab_rm]; omega), by first | exact Nat.le_of_ble_eq_true rfl | (simp only [ab_rm]; omega)⟩ (Nat.le_of_ble_eq_true rfl) (fun u89 r89 h89 => ?_)
    obtain ⟨⟨q89, o89, b89⟩, rfl⟩ := h89
    have P89 := P0.trans q89 (by decide)
    refine ab_aload_n X 0 d_PT_offerWaysOfV_92 rfl rfl ?_
    refine ab_gR X fl_PT_27 d_PT_offerWaysOfV_93 (by first | assumption | decide | (show _ < 124; omega) | (show _ < 61; omega) | (show _ < 20; omega)) (P89.1.pt3 (by first | assumption | decide | omega)) ?_
    refine ab_aload_n X 1 d_PT_offerWaysOfV_96 rfl rfl ?_
    refine ab_iconst (v := 5) X d_PT_offerWaysOfV_97 (by decide) ?_
    refine ab_aload_n X 0 d_PT_offerWaysOfV_98 rfl rfl ?_
    refine ab_gR X fl_PT_11 d_PT_offerWaysOfV_99 (by first | assumption | decide | (show _ < 124; omega) | (show _ < 61; omega) | (show _ < 20; omega)) (P89.1.pt0 (by first | assumption | decide | omega)) ?_
    refine ab_iconst (v := 0) X d_PT_offerWaysOfV_102 (by decide) ?_
    refine ab_aalv X (0) ⟨rfl, _, fun _ => rfl⟩ d_PT_offerWaysOfV_103 (by first | assumption | decide | (show _ < 124; omega) | (show _ < 61; omega) | (show _ < 20; omega)) (rfl) (show 0 < 4 by decide) (ab_ln_lt _ _) (P89.rr (by decide) (m7 0 (by omega))) ?_
    refine ab_gR X fl_PT_27 d_PT_offerWaysOfV_104 (by first | assumption | decide | (show _ < 124; omega) | (show _ < 61; omega) | (show _ < 20; omega)) (P89.1.pt3 (by first | assumption | decide | omega)) ?_
    refine ab_aload_n X 0 d_PT_offerWaysOfV_107 rfl rfl ?_
    refine ab_gR X fl_PT_11 d_PT_offerWaysOfV_108 (by first | assumption | decide | (show _ < 124; omega) | (show _ < 61; omega) | (show _ < 20; omega)) (P89.1.pt0 (by first | assumption | decide | omega)) ?_
    refine ab_iconst (v := 1) X d_PT_offerWaysOfV_111 (by decide) ?_
    refine ab_aalv X (1) ⟨rfl, _, fun _ => rfl⟩ d_PT_offerWaysOfV_112 (by first | assumption | decide | (show _ < 124; omega) | (show _ < 61; omega) | (show _ < 20; omega)) (rfl) (show 1 < 4 by decide) (ab_ln_lt _ _) (P89.rr (by decide) (m7 1 (by omega))) ?_
    refine ab_gR X fl_PT_27 d_PT_offerWaysOfV_113 (by first | assumption | decide | (show _ < 124; omega) | (show _ < 61; omega) | (show _ < 20; omega)) (P89.1.pt3 (by first | assumption | decide | omega)) ?_
    refine ab_callS (as := [ab_O 3 (3 * (pq + 1) + 2), ab_O 3 60, ab_I (nI 5), ab_O 3 (3 * (ch pq 0 + 1) + 2), ab_O 3 (3 * (ch pq 1 + 1) + 2)]) X (fun h => by cases h) (x_PT_offerTwo u89 M kd ar cn lf ch Y R W hB pq hpM P89.1 (3 * (pq + 1) + 2) _ b89 (by omega) (K.fr o89 (fun i hi => by omega) hP19) 23 2 _ _ (wys_ok ⟨k1, k7⟩ (by decide) (by rw [q6]; show 23 ∈ [22, 23, 24]; decide)) (by decide) rfl rfl rfl rfl rfl) ls_PT_82 d_PT_offerWaysOfV_116 rfl rfl ⟨by first | exact Nat.le_of_ble_eq_true rfl | (simp only [ab_rm]; omega), by first | exact Nat.le_of_ble_eq_true rfl | (simp only [ab_rm]; omega)⟩ ⟨by first | exact Nat.le_of_ble_eq_true rfl | (simp only [ab_rm]; omega), by first | exact Nat.le_of_ble_eq_true rfl | (simp only [ab_rm]; omega)⟩ (Nat.le_of_ble_eq_true rfl) (fun u116 r116 h116 => ?_)
    obtain ⟨⟨q116, o116, b116⟩, rfl⟩ := h116
    have P116 := P89.trans q116 (by decide)
    refine ab_aload_n X 0 d_PT_offerWaysOfV_119 rfl rfl ?_
    refine ab_gR X fl_PT_27 d_PT_offerWaysOfV_120 (by first | assumption | decide | (show _ < 124; omega) | (show _ < 61; omega) | (show _ < 20; omega)) (P116.1.pt3 (by first | assumption | decide | omega)) ?_
    refine ab_aload_n X 1 d_PT_offerWaysOfV_123 rfl rfl ?_
    refine ab_iconst (v := 3) X d_PT_offerWaysOfV_124 (by decide) ?_
    refine ab_iconst (v := 0) X d_PT_offerWaysOfV_125 (by decide) ?_
    refine ab_iconst (v := 1) X d_PT_offerWaysOfV_126 (by decide) ?_
    refine ab_callV (as := [ab_I (nI 3), ab_I 0, ab_I 1]) X (fun h => by cases h) (f_FM_start u116 60 3 0 1 (fun i => 3 * (cp ch 24 pq i + 1) + cj cn 24 pq i) (P116.ex 60).1 (by decide)) lk_PT_65 d_PT_offerWaysOfV_127 rfl rfl (by first | assumption | decide | (show _ < 124; omega) | (show _ < 61; omega) | (show _ < 20; omega)) ⟨by first | exact Nat.le_of_ble_eq_true rfl | (simp only [ab_rm]; omega), by first | exact Nat.le_of_ble_eq_true rfl | (simp only [ab_rm]; omega)⟩ ⟨by first | exact Nat.le_of_ble_eq_true rfl | (simp only [ab_rm]; omega), by first | exact Nat.le_of_ble_eq_true rfl | (simp only [ab_rm]; omega)⟩ (Nat.le_of_ble_eq_true rfl) (fun u127 r127 h127 => ?_)
    obtain ⟨⟨q127, o127, d127, w127, x127⟩, rfl⟩ := h127
    have P127 := P116.trans q127 (by decide)
    refine ab_aload_n X 0 d_PT_offerWaysOfV_130 rfl rfl ?_
    refine ab_gR X fl_PT_20 d_PT_offerWaysOfV_131 (by first | assumption | decide | (show _ < 124; omega) | (show _ < 61; omega) | (show _ < 20; omega)) (P127.1.pt1 (by first | assumption | decide | omega)) ?_
    refine ab_callV (as := [ab_O 3 (3 * (pq + 1))]) X (fun h => by cases h) (f_FM_with u127 60 3 0 (3 * (pq + 1)) 0 1 (fun i => 3 * (cp ch 24 pq i + 1) + cj cn 24 pq i) P127.1 (by decide) (by omega) d127 rfl (by decide)) lk_PT_69 d_PT_offerWaysOfV_134 rfl rfl (by first | assumption | decide | (show _ < 124; omega) | (show _ < 61; omega) | (show _ < 20; omega)) ⟨by first | exact Nat.le_of_ble_eq_true rfl | (simp only [ab_rm]; omega), by first | exact Nat.le_of_ble_eq_true rfl | (simp only [ab_rm]; omega)⟩ ⟨by first | exact Nat.le_of_ble_eq_true rfl | (simp only [ab_rm]; omega), by first | exact Nat.le_of_ble_eq_true rfl | (simp only [ab_rm]; omega)⟩ (Nat.le_of_ble_eq_true rfl) (fun u134 r134 h134 => ?_)
    obtain ⟨⟨q134, o134, d134, w134, x134⟩, rfl⟩ := h134
    have P134 := P127.trans q134 (by decide)
    have R137 := ci_done P134 d134.1 d134.2.2.2.1 (by decide) ci_cl3
    have o6 := o127.trans o134
    have F6 : Fw kd ar cn ch u134 pq 60 24 := d134
    refine ab_callV (as := [ab_O 3 60]) X (fun h => by cases h) (x_FM_off u134 M kd ar cn lf ch Y R W hB pq hpM 24 2 (3 * (pq + 1) + 2) _ hw24 F6 (kCs.of W hpM hw24 ((K.fr (o89.trans o116) (fun i hi => by omega) hP19).fr o6 (fun i hi => by omega) hP19) (fun _ => (K0.fr (o89.trans o116) (by omega)).fr o6 (by omega))) (b116.fr o6 (by omega)) R137.1 (by omega)) lk_PT_73 d_PT_offerWaysOfV_137 rfl rfl (by first | assumption | decide | (show _ < 124; omega) | (show _ < 61; omega) | (show _ < 20; omega)) ⟨by first | exact Nat.le_of_ble_eq_true rfl | (simp only [ab_rm]; omega), by first | exact Nat.le_of_ble_eq_true rfl | (simp only [ab_rm]; omega)⟩ ⟨by first | exact Nat.le_of_ble_eq_true rfl | (simp only [ab_rm]; omega), by first | exact Nat.le_of_ble_eq_true rfl | (simp only [ab_rm]; omega)⟩ (Nat.le_of_ble_eq_true rfl) (fun u137 r137 h137 => ?_)
    obtain ⟨⟨q137, o137, b137⟩, rfl⟩ := h137
    have P137 := R137.trans q137 (by decide)
    exact ab_retv X hr0 hlk d_PT_offerWaysOfV_140 ⟨⟨P137, (o89.trans o116).trans ((o6.wk (fun _ z => Or.inr z)).trans (o137.wk (fun _ z => Or.inl z))), by rw [eW]; exact b137⟩, rfl⟩
end SaXWays2

