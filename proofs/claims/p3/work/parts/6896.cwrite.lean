/-! A part's forms; the script: how many words are written. -/
def AQ (q : Nat) : Nat → Prop := fun i => 3 * (q + 1) ≤ i ∧ i < 60
def cFo (M : Nat) (lf : Nat → Nat) (L : Nat → Nat → Nat) (lo : Nat) (u : ab_S) : Prop := ∀ q, lo ≤ q → q < M → ∀ j, j < 3 → ∃ sz, sz ≤ 4 * lf q - 3 + (if j = 0 then 0 else 1) ∧ fw (AQ q) u (2 * (M - q)) (3 * (q + 1) + j) (L q j) sz
section SaChooseF
variable {l : Launch} {D : va_G} {ca : Nat → ClassId}
set_option maxRecDepth 100000 in
set_option maxHeartbeats 4000000 in
theorem f_PT_chooseF (u : ab_S) (M : Nat) (kd ar cn lf : Nat → Nat) (ch L : Nat → Nat → Nat) (W : tW M kd ar cn lf ch) (pq : Nat) (hpM : pq < M) (hL : ∀ q, q < M → ∀ j, j < 3 → L q j = lS kd ar cn ch L q j) (hLb : ∀ q, q < M → ∀ j, j < 3 → L q j ≤ 9 * lf q - 4 + (if j = 2 then 1 else 0)) (h : CI u) (mm : pm kd ar cn ch pq u) (F : cFo M lf L (pq + 1) u) : ab_C false l D ca y_PT_chooseForms b_PT_chooseForms 2 none 6 ab_nQ u [ab_O 2 (pq + 1), ab_O 3 60] (fun u' v => (cP [3, 4, 8, 9] u u' ∧ cFo M lf L pq u') ∧ v = none) := by
  refine ab_C.of (by decide) (Nat.le_of_ble_eq_true rfl) ?_
  intro p e s m args below meth c ad X hZ hr0 hlk
  have P0 : cP [3, 4, 8, 9] u u := cQ.rf h
  have hP19 := W.2.1
  obtain ⟨⟨l1, l2, k1, k7, r9⟩, kl, kb⟩ := W.2.2 pq hpM
  have eB : L pq 0 = lB kd ar cn ch L pq := hL pq hpM 0 (by decide)
  have eD : L pq 1 = lD kd ar cn ch L pq := hL pq hpM 1 (by decide)
  have eV : L pq 2 = lV kd ar cn ch L pq := hL pq hpM 2 (by decide)
  have bB := hLb pq hpM 0 (by decide)
  rw [if_neg (by decide), eB] at bB
  have K0 : KK cn lf ch L (AQ (pq + 1)) (2 * (M - (pq + 1))) pq u := fun i hi j hj => by
    have h5 : 5 ≤ kd pq := Nat.le_of_not_lt (fun z => by have := kl z; omega)
    obtain ⟨c1, c2⟩ := (kb h5).2.2.2.2.1 i hi
    obtain ⟨sz, a, b⟩ := F (ch pq i) (by omega) c2 j hj
    exact ⟨sz, a, fw.up _ _ _ _ _ (by omega) (b.wk (fun z hz => by unfold AQ at hz ⊢; omega) _ _ _ _)⟩
  have nB : ¬ (AQ (pq + 1)) (3 * (pq + 1)) := by unfold AQ; omega
  have n6 : ¬ (AQ (pq + 1)) 60 := by unfold AQ; omega
  have nB1 : ¬ ((fun i => AQ (pq + 1) i ∨ i = 3 * (pq + 1)) (3 * (pq + 1) + 1)) := by unfold AQ; omega
  have nV1 : ¬ ((fun i => AQ (pq + 1) i ∨ i = 3 * (pq + 1)) (3 * (pq + 1) + 2)) := by unfold AQ; omega
  have n61 : ¬ ((fun i => AQ (pq + 1) i ∨ i = 3 * (pq + 1)) 60) := by unfold AQ; omega
  have nX : ∀ i, (AQ (pq + 1)) i → ¬ ((fun i => i = (3 * (pq + 1)) ∨ i = (3 * (pq + 1) + 1) ∨ i = (3 * (pq + 1) + 2) ∨ i = 60) i) := fun i hi => by unfold AQ at hi; omega
  have nX1 : ∀ i, (fun i => AQ (pq + 1) i ∨ i = 3 * (pq + 1)) i → ¬ (i = (3 * (pq + 1) + 1) ∨ i = (3 * (pq + 1) + 2) ∨ i = 60) := fun i hi => by unfold AQ at hi; omega
  have up : ∀ {u1 : ab_S}, KK cn lf ch L (AQ (pq + 1)) (2 * (M - (pq + 1))) pq u1 → KK cn lf ch L (fun i => AQ (pq + 1) i ∨ i = 3 * (pq + 1)) ((2 * (M - (pq + 1))) + 1) pq u1 := fun z => z.up (fun _ y => Or.inl y) (by omega)
  have r0 : ∀ {u5 u13 u21 : ab_S}, u5 = ab_ui u 3 (3 * (pq + 1)) 4 0 → u13 = ab_ui u5 3 (3 * (pq + 1) + 1) 4 0 → u21 = ab_ui u13 3 (3 * (pq + 1) + 2) 4 0 → gO (fun i => i = (3 * (pq + 1)) ∨ i = (3 * (pq + 1) + 1) ∨ i = (3 * (pq + 1) + 2) ∨ i = 60) u u21 ∧ u21.1 3 (3 * (pq + 1)) 4 = nI 0 ∧ u21.1 3 (3 * (pq + 1) + 1) 4 = nI 0 ∧ u21.1 3 (3 * (pq + 1) + 2) 4 = nI 0 := fun e5 e13 e21 => by
    rw [e21, e13, e5]
    exact ⟨⟨fun i k z => (ui_n _ (by omega)).trans ((ui_n _ (by omega)).trans (ui_n _ (by omega))), fun i k z => rfl⟩, (ui_n _ (by omega)).trans ((ui_n _ (by omega)).trans (ui_s _)), (ui_n _ (by omega)).trans (ui_s _), ui_s _⟩
  have fin : ∀ (u8 : ab_S), cP [3, 4, 8, 9] u u8 → gO (fun i => i = (3 * (pq + 1)) ∨ i = (3 * (pq + 1) + 1) ∨ i = (3 * (pq + 1) + 2) ∨ i = 60) u u8 → fB (AQ (pq + 1)) ((2 * (M - (pq + 1))) + 1) (4 * lf pq - 3) u8 (3 * (pq + 1)) (some (lB kd ar cn ch L pq)) → fB (fun i => AQ (pq + 1) i ∨ i = 3 * (pq + 1)) ((2 * (M - (pq + 1))) + 1 + 1) (4 * lf pq - 2) u8 (3 * (pq + 1) + 1) (some (lD kd ar cn ch L pq)) → fB (fun i => AQ (pq + 1) i ∨ i = 3 * (pq + 1)) ((2 * (M - (pq + 1))) + 1 + 1) (4 * lf pq - 2) u8 (3 * (pq + 1) + 2) (some (lV kd ar cn ch L pq)) → cFo M lf L pq u8 := by
    rintro u8 P8 g8 ⟨s0, a0, f0⟩ ⟨s1, a1, f1⟩ ⟨s2, a2, f2⟩ q hq1 hq2 j hj
    by_cases z : q = pq
    · subst z
      have j3 : j = 0 ∨ j = 1 ∨ j = 2 := by omega
      rcases j3 with rfl | rfl | rfl
      · rw [eB]; exact ⟨s0, by rw [if_pos rfl]; omega, fw.up _ _ _ _ _ (by omega) (f0.wk (fun i hi => by unfold AQ at hi ⊢; omega) _ _ _ _)⟩
      · rw [eD]; exact ⟨s1, by rw [if_neg (by decide)]; omega, fw.up _ _ _ _ _ (by omega) (f1.wk (fun i hi => by unfold AQ at hi ⊢; omega) _ _ _ _)⟩
      · rw [eV]; exact ⟨s2, by rw [if_neg (by decide)]; omega, fw.up _ _ _ _ _ (by omega) (f2.wk (fun i hi => by unfold AQ at hi ⊢; omega) _ _ _ _)⟩
    · obtain ⟨sz, a, b⟩ := F q (by omega) hq2 j hj
      exact ⟨sz, a, b.gr g8 (fun i hi => by unfold AQ at hi; omega) _ _ _ _⟩
  refine ab_aload_n X 0 d_PT_chooseForms_0 rfl rfl ?_
  refine ab_gR X fl_PT_20 d_PT_chooseForms_1 (by first | assumption | decide | (show _ < 124; omega) | (show _ < 61; omega) | (show _ < 20; omega)) (P0.1.pt1 (by first | assumption | decide | omega)) ?_
  refine ab_iconst (v := 0) X d_PT_chooseForms_4 (by decide) ?_
  refine ab_putI X fp_PT_54 d_PT_chooseForms_5 (by first | assumption | decide | (show _ < 124; omega) | (show _ < 61; omega) | (show _ < 20; omega)) rfl rfl ?_
  refine ab_gen (fun u5 e5 => ?_)
  have P5 : cP [3, 4, 8, 9] u u5 := by rw [e5]; exact P0.rule0 (by decide)
  refine ab_aload_n X 0 d_PT_chooseForms_8 rfl rfl ?_
  refine ab_gR X fl_PT_24 d_PT_chooseForms_9 (by first | assumption | decide | (show _ < 124; omega) | (show _ < 61; omega) | (show _ < 20; omega)) (P5.1.pt2 (by first | assumption | decide | omega)) ?_
  refine ab_iconst (v := 0) X d_PT_chooseForms_12 (by decide) ?_
  refine ab_putI X fp_PT_54 d_PT_chooseForms_13 (by first | assumption | decide | (show _ < 124; omega) | (show _ < 61; omega) | (show _ < 20; omega)) rfl rfl ?_
  refine ab_gen (fun u13 e13 => ?_)
  have P13 : cP [3, 4, 8, 9] u u13 := by rw [e13]; exact P5.rule0 (by decide)
  refine ab_aload_n X 0 d_PT_chooseForms_16 rfl rfl ?_
  refine ab_gR X fl_PT_27 d_PT_chooseForms_17 (by first | assumption | decide | (show _ < 124; omega) | (show _ < 61; omega) | (show _ < 20; omega)) (P13.1.pt3 (by first | assumption | decide | omega)) ?_
  refine ab_iconst (v := 0) X d_PT_chooseForms_20 (by decide) ?_
  refine ab_putI X fp_PT_54 d_PT_chooseForms_21 (by first | assumption | decide | (show _ < 124; omega) | (show _ < 61; omega) | (show _ < 20; omega)) rfl rfl ?_
  refine ab_gen (fun u21 e21 => ?_)
  have P21 : cP [3, 4, 8, 9] u u21 := by rw [e21]; exact P13.rule0 (by decide)
  obtain ⟨g21, z0, z1, z2⟩ := r0 e5 e13 e21
  refine ab_aload_n X 0 d_PT_chooseForms_24 rfl rfl ?_
  refine ab_aload_n X 1 d_PT_chooseForms_25 rfl rfl ?_
  refine ab_callV (as := [ab_O 3 60]) X (fun h => by cases h) (f_PT_waysB u21 M kd ar cn lf ch L W pq hpM hLb P21.1 (mm.cp P21 (by decide) (by decide)) (AQ (pq + 1)) (2 * (M - (pq + 1))) (4 * lf pq - 3) nB n6 (by omega) (Nat.le_refl _) (K0.gr g21 nX) z0) lk_PT_57 d_PT_chooseForms_26 rfl rfl (by first | assumption | decide | (show _ < 124; omega) | (show _ < 61; omega) | (show _ < 20; omega)) ⟨by first | exact Nat.le_of_ble_eq_true rfl | (simp only [ab_rm]; omega), by first | exact Nat.le_of_ble_eq_true rfl | (simp only [ab_rm]; omega)⟩ ⟨by first | exact Nat.le_of_ble_eq_true rfl | (simp only [ab_rm]; omega), by first | exact Nat.le_of_ble_eq_true rfl | (simp only [ab_rm]; omega)⟩ (Nat.le_of_ble_eq_true rfl) (fun u26 r26 h26 => ?_)
  obtain ⟨⟨q26, o26, b26⟩, rfl⟩ := h26
  have P26 := P21.trans q26 (by decide)
  have g26 : gO (fun i => i = (3 * (pq + 1)) ∨ i = (3 * (pq + 1) + 1) ∨ i = (3 * (pq + 1) + 2) ∨ i = 60) u u26 := g21.trans (o26.g.wk (fun i hi => by omega))
  refine ab_aload_n X 0 d_PT_chooseForms_29 rfl rfl ?_
  refine ab_aload_n X 0 d_PT_chooseForms_30 rfl rfl ?_
  refine ab_gR X fl_PT_20 d_PT_chooseForms_31 (by first | assumption | decide | (show _ < 124; omega) | (show _ < 61; omega) | (show _ < 20; omega)) (P26.1.pt1 (by first | assumption | decide | omega)) ?_
  refine ab_aload_n X 1 d_PT_chooseForms_34 rfl rfl ?_
  refine ab_callV (as := [ab_O 3 (3 * (pq + 1)), ab_O 3 60]) X (fun h => by cases h) (f_PT_waysD u26 M kd ar cn lf ch L W pq hpM hLb P26.1 (mm.cp P26 (by decide) (by decide)) (AQ (pq + 1)) (2 * (M - (pq + 1))) (4 * lf pq - 3) (3 * (pq + 1)) nB n6 (by omega) (Nat.le_refl _) (K0.gr g26 nX) _ b26) lk_PT_61 d_PT_chooseForms_35 rfl rfl (by first | assumption | decide | (show _ < 124; omega) | (show _ < 61; omega) | (show _ < 20; omega)) ⟨by first | exact Nat.le_of_ble_eq_true rfl | (simp only [ab_rm]; omega), by first | exact Nat.le_of_ble_eq_true rfl | (simp only [ab_rm]; omega)⟩ ⟨by first | exact Nat.le_of_ble_eq_true rfl | (simp only [ab_rm]; omega), by first | exact Nat.le_of_ble_eq_true rfl | (simp only [ab_rm]; omega)⟩ (Nat.le_of_ble_eq_true rfl) (fun u35 r35 h35 => ?_)
  obtain ⟨⟨q35, o35, b35⟩, rfl⟩ := h35
  have P35 := P26.trans q35 (by decide)
  have g35 : gO (fun i => i = (3 * (pq + 1)) ∨ i = (3 * (pq + 1) + 1) ∨ i = (3 * (pq + 1) + 2) ∨ i = 60) u u35 := g26.trans (o35.g.wk (fun i hi => by omega))
  rw [lB_eq k1] at b35
  have y1 : u35.1 3 (3 * (pq + 1) + 1) 4 = nI 0 := (o35.1 _ _ _ (by omega)).trans ((o26.1 _ _ _ (by omega)).trans z1)
  have y2 : u35.1 3 (3 * (pq + 1) + 2) 4 = nI 0 := (o35.1 _ _ _ (by omega)).trans ((o26.1 _ _ _ (by omega)).trans z2)
  refine ab_aload_n X 0 d_PT_chooseForms_38 rfl rfl ?_
  refine ab_aload_n X 0 d_PT_chooseForms_39 rfl rfl ?_
  refine ab_gR X fl_PT_24 d_PT_chooseForms_40 (by first | assumption | decide | (show _ < 124; omega) | (show _ < 61; omega) | (show _ < 20; omega)) (P35.1.pt2 (by first | assumption | decide | omega)) ?_
  refine ab_aload_n X 1 d_PT_chooseForms_43 rfl rfl ?_
  refine ab_callV (as := [ab_O 3 (3 * (pq + 1) + 1), ab_O 3 60]) X (fun h => by cases h) (f_PT_waysD u35 M kd ar cn lf ch L W pq hpM hLb P35.1 (mm.cp P35 (by decide) (by decide)) (fun i => AQ (pq + 1) i ∨ i = 3 * (pq + 1)) ((2 * (M - (pq + 1))) + 1) (4 * lf pq - 2) (3 * (pq + 1) + 1) nB1 n61 (by omega) (by omega) (up (K0.gr g35 nX)) none y1) lk_PT_61 d_PT_chooseForms_44 rfl rfl (by first | assumption | decide | (show _ < 124; omega) | (show _ < 61; omega) | (show _ < 20; omega)) ⟨by first | exact Nat.le_of_ble_eq_true rfl | (simp only [ab_rm]; omega), by first | exact Nat.le_of_ble_eq_true rfl | (simp only [ab_rm]; omega)⟩ ⟨by first | exact Nat.le_of_ble_eq_true rfl | (simp only [ab_rm]; omega), by first | exact Nat.le_of_ble_eq_true rfl | (simp only [ab_rm]; omega)⟩ (Nat.le_of_ble_eq_true rfl) (fun u44 r44 h44 => ?_)
  obtain ⟨⟨q44, o44, b44⟩, rfl⟩ := h44
  have P44 := P35.trans q44 (by decide)
  have g44 : gO (fun i => i = (3 * (pq + 1)) ∨ i = (3 * (pq + 1) + 1) ∨ i = (3 * (pq + 1) + 2) ∨ i = 60) u u44 := g35.trans (o44.g.wk (fun i hi => by omega))
  have b44B : fB (AQ (pq + 1)) ((2 * (M - (pq + 1))) + 1) (4 * lf pq - 3) u44 (3 * (pq + 1)) _ := b35.fr o44 (fun i hi => by unfold AQ at hi; omega) (by omega)
  have y3 : u44.1 3 (3 * (pq + 1) + 2) 4 = nI 0 := (o44.1 _ _ _ (by omega)).trans y2
  refine ab_aload_n X 0 d_PT_chooseForms_47 rfl rfl ?_
  refine ab_gR X fl_PT_24 d_PT_chooseForms_48 (by first | assumption | decide | (show _ < 124; omega) | (show _ < 61; omega) | (show _ < 20; omega)) (P44.1.pt2 (by first | assumption | decide | omega)) ?_
  refine ab_aload_n X 1 d_PT_chooseForms_51 rfl rfl ?_
  refine ab_bipush (v := 6) X d_PT_chooseForms_52 (by decide) ?_
  refine ab_iconst (v := 0) X d_PT_chooseForms_54 (by decide) ?_
  refine ab_iconst (v := 1) X d_PT_chooseForms_55 (by decide) ?_
  refine ab_callV (as := [ab_I (nI 6), ab_I 0, ab_I 1]) X (fun h => by cases h) (f_FM_start u44 60 6 0 1 (fun _ => (3 * (pq + 1))) (P44.ex 60).1 (by decide)) lk_PT_65 d_PT_chooseForms_56 rfl rfl (by first | assumption | decide | (show _ < 124; omega) | (show _ < 61; omega) | (show _ < 20; omega)) ⟨by first | exact Nat.le_of_ble_eq_true rfl | (simp only [ab_rm]; omega), by first | exact Nat.le_of_ble_eq_true rfl | (simp only [ab_rm]; omega)⟩ ⟨by first | exact Nat.le_of_ble_eq_true rfl | (simp only [ab_rm]; omega), by first | exact Nat.le_of_ble_eq_true rfl | (simp only [ab_rm]; omega)⟩ (Nat.le_of_ble_eq_true rfl) (fun u56 r56 h56 => ?_)
  obtain ⟨⟨q56, o56, d56, w56, x56⟩, rfl⟩ := h56
  have P56 := P44.trans q56 (by decide)
  refine ab_aload_n X 0 d_PT_chooseForms_59 rfl rfl ?_
  refine ab_gR X fl_PT_20 d_PT_chooseForms_60 (by first | assumption | decide | (show _ < 124; omega) | (show _ < 61; omega) | (show _ < 20; omega)) (P56.1.pt1 (by first | assumption | decide | omega)) ?_
  refine ab_callV (as := [ab_O 3 (3 * (pq + 1))]) X (fun h => by cases h) (f_FM_with u56 60 6 0 (3 * (pq + 1)) 0 1 (fun _ => (3 * (pq + 1))) q56.1 (by decide) (by omega) d56 rfl (by decide)) lk_PT_69 d_PT_chooseForms_63 rfl rfl (by first | assumption | decide | (show _ < 124; omega) | (show _ < 61; omega) | (show _ < 20; omega)) ⟨by first | exact Nat.le_of_ble_eq_true rfl | (simp only [ab_rm]; omega), by first | exact Nat.le_of_ble_eq_true rfl | (simp only [ab_rm]; omega)⟩ ⟨by first | exact Nat.le_of_ble_eq_true rfl | (simp only [ab_rm]; omega), by first | exact Nat.le_of_ble_eq_true rfl | (simp only [ab_rm]; omega)⟩ (Nat.le_of_ble_eq_true rfl) (fun u63 r63 h63 => ?_)
  obtain ⟨⟨q63, o63, d63, w63, x63⟩, rfl⟩ := h63
  have P63 := P56.trans q63 (by decide)
  have R66 := ci_done (q56.trans q63 (by decide)) d63.1 d63.2.2.2.1 (by decide) (ci_cl6 (by decide))
  have o6 := o56.trans o63
  obtain ⟨bz, hbz, kB⟩ := b44B.fr o6 (fun i hi => by unfold AQ at hi; omega) (by omega)
  refine ab_callV (as := [ab_O 3 60]) X (fun h => by cases h) (f_FM_one u63 (fun i => AQ (pq + 1) i ∨ i = 3 * (pq + 1)) ((2 * (M - (pq + 1))) + 1) (4 * lf pq - 2) (3 * (pq + 1) + 1) 6 (3 * (pq + 1)) _ bz _ _ _ _ rfl d63 (Or.inr rfl) kB (by omega) (by omega) (b44.fr o6 (fun i hi => by unfold AQ at hi; omega) (by omega)) R66.1 nB1 (by omega)) lk_PT_73 d_PT_chooseForms_66 rfl rfl (by first | assumption | decide | (show _ < 124; omega) | (show _ < 61; omega) | (show _ < 20; omega)) ⟨by first | exact Nat.le_of_ble_eq_true rfl | (simp only [ab_rm]; omega), by first | exact Nat.le_of_ble_eq_true rfl | (simp only [ab_rm]; omega)⟩ ⟨by first | exact Nat.le_of_ble_eq_true rfl | (simp only [ab_rm]; omega), by first | exact Nat.le_of_ble_eq_true rfl | (simp only [ab_rm]; omega)⟩ (Nat.le_of_ble_eq_true rfl) (fun u66 r66 h66 => ?_)
  obtain ⟨⟨q66, o66, b66⟩, rfl⟩ := h66
  have P66 := P63.trans q66 (by decide)
  have R6 : cP [3, 9] u44 u66 := R66.trans q66 (by decide)
  have g66 : gO (fun i => i = (3 * (pq + 1)) ∨ i = (3 * (pq + 1) + 1) ∨ i = (3 * (pq + 1) + 2) ∨ i = 60) u u66 := g44.trans ((o6.g.wk (fun i hi => by omega)).trans (o66.g.wk (fun i hi => by omega)))
  have kB6 := kB.fr o66 (fun i hi => by unfold AQ at hi; omega) _ _ _ _
  have y4 : u66.1 3 (3 * (pq + 1) + 2) 4 = nI 0 := (o66.1 _ _ _ (by omega)).trans ((o6.1 _ _ _ (by omega)).trans y3)
  refine ab_aload_n X 0 d_PT_chooseForms_69 rfl rfl ?_
  refine ab_gR X fl_PT_24 d_PT_chooseForms_70 (by first | assumption | decide | (show _ < 124; omega) | (show _ < 61; omega) | (show _ < 20; omega)) (P66.1.pt2 (by first | assumption | decide | omega)) ?_
  refine ab_callV (as := []) X (fun h => by cases h) (s_FM_makeRefusal u66 (3 * (pq + 1) + 1) P66.1 (by omega)) lk_PT_76 d_PT_chooseForms_73 rfl rfl (by first | assumption | decide | (show _ < 124; omega) | (show _ < 61; omega) | (show _ < 20; omega)) ⟨by first | exact Nat.le_of_ble_eq_true rfl | (simp only [ab_rm]; omega), by first | exact Nat.le_of_ble_eq_true rfl | (simp only [ab_rm]; omega)⟩ ⟨by first | exact Nat.le_of_ble_eq_true rfl | (simp only [ab_rm]; omega), by first | exact Nat.le_of_ble_eq_true rfl | (simp only [ab_rm]; omega)⟩ (Nat.le_of_ble_eq_true rfl) (fun u73 r73 h73 => ?_)
  obtain ⟨q73, rfl⟩ := h73
  have P73 := P66.trans q73 (by decide)
  have h73 : ∀ {X : Nat → Prop}, gO X u66 u73 := gO.cp q73 (by decide) (by decide)
  have g73 : gO (fun i => i = (3 * (pq + 1)) ∨ i = (3 * (pq + 1) + 1) ∨ i = (3 * (pq + 1) + 2) ∨ i = 60) u u73 := g66.trans h73
  have kB7 := kB6.gr (h73 (X := fun _ => False)) (fun _ _ z => z) _ _ _ _
  refine ab_aload_n X 0 d_PT_chooseForms_76 rfl rfl ?_
  refine ab_aload_n X 1 d_PT_chooseForms_77 rfl rfl ?_
  refine ab_callV (as := [ab_O 3 60]) X (fun h => by cases h) (f_PT_waysV u73 M kd ar cn lf ch L W pq hpM hLb P73.1 (mm.cp P73 (by decide) (by decide)) (fun i => AQ (pq + 1) i ∨ i = 3 * (pq + 1)) ((2 * (M - (pq + 1))) + 1) (4 * lf pq - 2) nV1 n61 (by omega) (Nat.le_refl _) (up (K0.gr g73 nX)) (q73.ii (by decide) y4) _ bz kB7 hbz rfl (by omega)) lk_PT_79 d_PT_chooseForms_78 rfl rfl (by first | assumption | decide | (show _ < 124; omega) | (show _ < 61; omega) | (show _ < 20; omega)) ⟨by first | exact Nat.le_of_ble_eq_true rfl | (simp only [ab_rm]; omega), by first | exact Nat.le_of_ble_eq_true rfl | (simp only [ab_rm]; omega)⟩ ⟨by first | exact Nat.le_of_ble_eq_true rfl | (simp only [ab_rm]; omega), by first | exact Nat.le_of_ble_eq_true rfl | (simp only [ab_rm]; omega)⟩ (Nat.le_of_ble_eq_true rfl) (fun u78 r78 h78 => ?_)
  obtain ⟨⟨q78, o78, b78⟩, rfl⟩ := h78
  have P78 := P73.trans q78 (by decide)
  exact ab_retv X hr0 hlk d_PT_chooseForms_81 ⟨⟨P78, fin _ P78 (g73.trans (o78.g.wk (fun i hi => by omega))) ⟨bz, hbz, kB7.fr o78 (fun i hi => by unfold AQ at hi; omega) _ _ _ _⟩ ((b66.gr (h73 (X := fun _ => False)) (fun _ _ z => z) (fun z => z)).fr o78 (fun i hi => by unfold AQ at hi; omega) (by omega)) b78⟩, rfl⟩
end SaChooseF

