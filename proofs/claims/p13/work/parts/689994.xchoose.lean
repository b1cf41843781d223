/-! A part's three forms are chosen, and what refuses its form D. -/
/-- the forms from lo on: way, words, weight, refusal -/
def cX (M : Nat) (kd ar cn : Nat → Nat) (ch : Nat → Nat → Nat) (Y : Nat → Nat → Nat × Nat × Nat) (R : Nat → List Nat) (lo : Nat) (u : ab_S) : Prop := ∀ q, lo ≤ q → q < M → ∀ j, j < 3 → Fw kd ar cn ch u q (3 * (q + 1) + j) (Y q j).1 ∧ kC Y R u q j
/-- which forms can be refused -/
def dnn (u : ab_S) : Prop := ∀ f, f < 60 → u.1 3 f 1 = if f % 3 = 1 then 1 else 0
/-- of the forms only those of A have changed, of the rows only those of B -/
def gX (A B : Nat → Prop) (u u' : ab_S) : Prop := (∀ i k, ¬ A i → u'.1 3 i k = u.1 3 i k) ∧ (∀ i, u'.1 3 i 1 = u.1 3 i 1) ∧ (∀ i k, ¬ A i → u'.2.1 9 i k = u.2.1 9 i k) ∧ ∀ i k, ¬ B i → u'.1 4 i k = u.1 4 i k ∧ u'.1 8 i k = u.1 8 i k
section GX
variable {A A' B B' : Nat → Prop} {u u1 u' : ab_S} {M : Nat} {kd ar cn : Nat → Nat} {ch : Nat → Nat → Nat} {Y : Nat → Nat → Nat × Nat × Nat} {R : Nat → List Nat}
theorem gX.trans (h : gX A B u u1) (g : gX A B u1 u') : gX A B u u' := ⟨fun i k z => (g.1 i k z).trans (h.1 i k z), fun i => (g.2.1 i).trans (h.2.1 i), fun i k z => (g.2.2.1 i k z).trans (h.2.2.1 i k z), fun i k z => ⟨(g.2.2.2 i k z).1.trans (h.2.2.2 i k z).1, (g.2.2.2 i k z).2.trans (h.2.2.2 i k z).2⟩⟩
theorem gX.wk (h : gX A B u u') (ha : ∀ i, A i → A' i) (hb : ∀ i, B i → B' i) : gX A' B' u u' := ⟨fun i k z => h.1 i k (fun y => z (ha i y)), h.2.1, fun i k z => h.2.2.1 i k (fun y => z (ha i y)), fun i k z => h.2.2.2 i k (fun y => z (hb i y))⟩
theorem fO.gx (h : fO A u u') : gX A B u u' := ⟨fun i k z => h.1 _ _ _ (fun y => z y.2.1), fun i => h.1 _ _ _ (fun y => by omega), fun i k z => h.2 _ _ _ (fun y => z y.2), fun i k _ => ⟨h.1 _ _ _ (fun y => by omega), h.1 _ _ _ (fun y => by omega)⟩⟩
theorem rO.gx (h : rO B u u') : gX A B u u' := ⟨fun i k _ => h.1 _ _ _ (fun y => by omega), fun i => h.1 _ _ _ (fun y => by omega), fun i k _ => by rw [h.2], fun i k z => ⟨h.1 _ _ _ (fun y => z y.2), h.1 _ _ _ (fun y => z y.2)⟩⟩
theorem Fw.gx {p f w : Nat} (h : Fw kd ar cn ch u p f w) (g : gX A B u u') (hf : ¬ A f) : Fw kd ar cn ch u' p f w := by
  obtain ⟨a1, a2, a3, a4, a5⟩ := h
  exact ⟨(g.1 _ _ hf).trans a1, (g.1 _ _ hf).trans a2, (g.1 _ _ hf).trans a3, (g.1 _ _ hf).trans a4, fun i hi => (g.2.2.1 _ _ hf).trans (a5 i hi)⟩
theorem kC.gx {c j : Nat} (h : kC Y R u c j) (g : gX A B u u') (hf : ¬ A (3 * (c + 1) + j)) (hr : j = 1 → ¬ B (2 * (3 * (c + 1) + 1) + 1)) : kC Y R u' c j := ⟨(g.1 _ _ hf).trans h.1, (g.1 _ _ hf).trans h.2.1, fun z => (h.2.2 z).cong (fun k => (g.2.2.2 _ _ (hr z)).1) (fun k => (g.2.2.2 _ _ (hr z)).2)⟩
theorem dnn.gx (h : dnn u) (g : gX A B u u') : dnn u' := fun f hf => (g.2.1 f).trans (h f hf)
theorem cX.ck {lo : Nat} (h : cX M kd ar cn ch Y R lo u) : cK M Y R lo u := fun c a b j hj => (h c a b j hj).2
theorem cX.gx {lo : Nat} (h : cX M kd ar cn ch Y R lo u) (g : gX A B u u') (ha : ∀ i, A i → i < 3 * (lo + 1) ∨ 60 ≤ i) (hb : ∀ i, B i → i < 2 * (3 * (lo + 1) + 1) + 1 ∨ 122 ≤ i) (hM : M ≤ 19) : cX M kd ar cn ch Y R lo u' := fun q a b j hj => by
  obtain ⟨x1, x2⟩ := h q a b j hj
  have z1 : ¬ A (3 * (q + 1) + j) := fun z => by have := ha _ z; omega
  exact ⟨x1.gx g z1, x2.gx g z1 (fun _ z => by have := hb _ z; omega)⟩
theorem cK.gx {lo : Nat} (h : cK M Y R lo u) (g : gX A B u u') (ha : ∀ i, A i → i < 3 * (lo + 1) ∨ 60 ≤ i) (hb : ∀ i, B i → i < 2 * (3 * (lo + 1) + 1) + 1 ∨ 122 ≤ i) (hM : M ≤ 19) : cK M Y R lo u' := fun q a b j hj => (h q a b j hj).gx g (fun z => by have := ha _ z; omega) (fun _ z => by have := hb _ z; omega)
end GX
theorem ln_dr (q : Nat) : ab_ln 8 (2 * (3 * (q + 1) + 1) + 1) = 40 := by
  unfold ab_ln
  rw [if_pos rfl, if_neg (by omega)]
section SaXChoose
variable {l : Launch} {D : va_G} {ca : Nat → ClassId}
set_option maxRecDepth 100000 in
set_option maxHeartbeats 1000000 in
theorem x_FM_mkR (u : ab_S) (M : Nat) (kd ar cn lf : Nat → Nat) (ch : Nat → Nat → Nat) (Y : Nat → Nat → Nat × Nat × Nat) (R : Nat → List Nat) (W : tW M kd ar cn lf ch) (hB : ∀ q, q < M → xB lf Y R q) (pq : Nat) (hpM : pq < M) (w : Nat) (hw : wok (kd pq) (ar pq) (cn pq) 1 w) (F : Fw kd ar cn ch u pq (3 * (pq + 1) + 1) w) (K : cK M Y R (pq + 1) u) (dn : dnn u) (eR : R pq = rfS cn ch R pq w) (h : CI u) : ab_C false l D ca y_FM_makeRefusal b_FM_makeRefusal 2 none 2 ab_nQ u [ab_O 3 (3 * (pq + 1) + 1)] (fun u' v => (cP [4, 8] u u' ∧ rO (fun i => i = (2 * (3 * (pq + 1) + 1) + 1)) u u' ∧ Rw u' (2 * (3 * (pq + 1) + 1) + 1) (R pq)) ∧ v = none) := by
  refine ab_C.of (by decide) (Nat.le_of_ble_eq_true rfl) ?_
  intro p e s m args below meth c ad X hZ hr0 hlk
  have P0 : cP [4, 8] u u := cQ.rf h
  have hP19 := W.2.1
  obtain ⟨⟨l1, l2, k1, k7, r9⟩, kl, kb⟩ := W.2.2 pq hpM
  have ln := ln_dr pq
  have hR20 : (R pq).length ≤ 19 := by have := (hB pq hpM).2.1; omega
  obtain ⟨F1, F2, F3, F4, F5⟩ := F
  by_cases w1 : w = 1
  · subst w1
    have eqR : R pq = [0] := eR
    refine ab_aload_n X 0 d_FM_makeRefusal_0 rfl rfl ?_
    refine ab_gR X fl_FM_47 d_FM_makeRefusal_1 (by first | assumption | decide | (show _ < 124; omega) | (show _ < 61; omega) | (show _ < 20; omega)) (P0.1.fm2 (by first | assumption | decide | omega)) ?_
    refine ab_callV (as := []) X (fun h => by cases h) (x_RW_start u (2 * (3 * (pq + 1) + 1) + 1) h (by omega)) lk_FM_87 d_FM_makeRefusal_4 rfl rfl (by first | assumption | decide | (show _ < 124; omega) | (show _ < 61; omega) | (show _ < 20; omega)) ⟨by first | exact Nat.le_of_ble_eq_true rfl | (simp only [ab_rm]; omega), by first | exact Nat.le_of_ble_eq_true rfl | (simp only [ab_rm]; omega)⟩ ⟨by first | exact Nat.le_of_ble_eq_true rfl | (simp only [ab_rm]; omega), by first | exact Nat.le_of_ble_eq_true rfl | (simp only [ab_rm]; omega)⟩ (Nat.le_of_ble_eq_true rfl) (fun u4 r4 h4 => ?_)
    obtain ⟨⟨q4, o4, r4⟩, rfl⟩ := h4
    have P4 := P0.trans q4 (by decide)
    refine ab_aload_n X 0 d_FM_makeRefusal_7 rfl rfl ?_
    refine ab_gI X fl_FM_24 d_FM_makeRefusal_8 (by first | assumption | decide | (show _ < 124; omega) | (show _ < 61; omega) | (show _ < 20; omega)) ((o4.1 _ _ _ (by omega)).trans F1) ?_
    refine ab_iconst (v := 1) X d_FM_makeRefusal_11 (by decide) ?_
    refine ab_icmp_eq X 24 d_FM_makeRefusal_12 rfl (fun _ => ?_) (fun hb => absurd (rfl) hb)
    refine ab_aload_n X 0 d_FM_makeRefusal_24 rfl rfl ?_
    refine ab_gR X fl_FM_47 d_FM_makeRefusal_25 (by first | assumption | decide | (show _ < 124; omega) | (show _ < 61; omega) | (show _ < 20; omega)) (P4.1.fm2 (by first | assumption | decide | omega)) ?_
    refine ab_iconst (v := 0) X d_FM_makeRefusal_28 (by decide) ?_
    refine ab_callV (as := [ab_I (nI 0)]) X (fun h => by cases h) (x_RW_add u4 (2 * (3 * (pq + 1) + 1) + 1) 0 [] r4 (by decide) (by rw [ln]; decide) P4.1 (by omega)) lk_FM_89 d_FM_makeRefusal_29 rfl rfl (by first | assumption | decide | (show _ < 124; omega) | (show _ < 61; omega) | (show _ < 20; omega)) ⟨by first | exact Nat.le_of_ble_eq_true rfl | (simp only [ab_rm]; omega), by first | exact Nat.le_of_ble_eq_true rfl | (simp only [ab_rm]; omega)⟩ ⟨by first | exact Nat.le_of_ble_eq_true rfl | (simp only [ab_rm]; omega), by first | exact Nat.le_of_ble_eq_true rfl | (simp only [ab_rm]; omega)⟩ (Nat.le_of_ble_eq_true rfl) (fun u29 r29 h29 => ?_)
    obtain ⟨⟨q29, o29, r29⟩, rfl⟩ := h29
    have P29 := P4.trans q29 (by decide)
    refine ab_goto X 136 d_FM_makeRefusal_32 rfl ?_
    exact ab_retv X hr0 hlk d_FM_makeRefusal_136 ⟨⟨P29, o4.trans o29, by rw [eqR]; exact r29⟩, rfl⟩
  by_cases w8 : w = 8
  · subst w8
    have eqR : R pq = [0] := eR
    refine ab_aload_n X 0 d_FM_makeRefusal_0 rfl rfl ?_
    refine ab_gR X fl_FM_47 d_FM_makeRefusal_1 (by first | assumption | decide | (show _ < 124; omega) | (show _ < 61; omega) | (show _ < 20; omega)) (P0.1.fm2 (by first | assumption | decide | omega)) ?_
    refine ab_callV (as := []) X (fun h => by cases h) (x_RW_start u (2 * (3 * (pq + 1) + 1) + 1) h (by omega)) lk_FM_87 d_FM_makeRefusal_4 rfl rfl (by first | assumption | decide | (show _ < 124; omega) | (show _ < 61; omega) | (show _ < 20; omega)) ⟨by first | exact Nat.le_of_ble_eq_true rfl | (simp only [ab_rm]; omega), by first | exact Nat.le_of_ble_eq_true rfl | (simp only [ab_rm]; omega)⟩ ⟨by first | exact Nat.le_of_ble_eq_true rfl | (simp only [ab_rm]; omega), by first | exact Nat.le_of_ble_eq_true rfl | (simp only [ab_rm]; omega)⟩ (Nat.le_of_ble_eq_true rfl) (fun u4 r4 h4 => ?_)
    obtain ⟨⟨q4, o4, r4⟩, rfl⟩ := h4
    have P4 := P0.trans q4 (by decide)
    refine ab_aload_n X 0 d_FM_makeRefusal_7 rfl rfl ?_
    refine ab_gI X fl_FM_24 d_FM_makeRefusal_8 (by first | assumption | decide | (show _ < 124; omega) | (show _ < 61; omega) | (show _ < 20; omega)) ((o4.1 _ _ _ (by omega)).trans F1) ?_
    refine ab_iconst (v := 1) X d_FM_makeRefusal_11 (by decide) ?_
    refine ab_icmp_eq X 24 d_FM_makeRefusal_12 rfl (fun hb => absurd hb ((by decide))) (fun _ => ?_)
    refine ab_aload_n X 0 d_FM_makeRefusal_15 rfl rfl ?_
    refine ab_gI X fl_FM_24 d_FM_makeRefusal_16 (by first | assumption | decide | (show _ < 124; omega) | (show _ < 61; omega) | (show _ < 20; omega)) ((o4.1 _ _ _ (by omega)).trans F1) ?_
    refine ab_bipush (v := 6) X d_FM_makeRefusal_19 (by decide) ?_
    refine ab_icmp_ne X 35 d_FM_makeRefusal_21 rfl (fun hb => absurd (rfl) hb) (fun _ => ?_)
    refine ab_aload_n X 0 d_FM_makeRefusal_24 rfl rfl ?_
    refine ab_gR X fl_FM_47 d_FM_makeRefusal_25 (by first | assumption | decide | (show _ < 124; omega) | (show _ < 61; omega) | (show _ < 20; omega)) (P4.1.fm2 (by first | assumption | decide | omega)) ?_
    refine ab_iconst (v := 0) X d_FM_makeRefusal_28 (by decide) ?_
    refine ab_callV (as := [ab_I (nI 0)]) X (fun h => by cases h) (x_RW_add u4 (2 * (3 * (pq + 1) + 1) + 1) 0 [] r4 (by decide) (by rw [ln]; decide) P4.1 (by omega)) lk_FM_89 d_FM_makeRefusal_29 rfl rfl (by first | assumption | decide | (show _ < 124; omega) | (show _ < 61; omega) | (show _ < 20; omega)) ⟨by first | exact Nat.le_of_ble_eq_true rfl | (simp only [ab_rm]; omega), by first | exact Nat.le_of_ble_eq_true rfl | (simp only [ab_rm]; omega)⟩ ⟨by first | exact Nat.le_of_ble_eq_true rfl | (simp only [ab_rm]; omega), by first | exact Nat.le_of_ble_eq_true rfl | (simp only [ab_rm]; omega)⟩ (Nat.le_of_ble_eq_true rfl) (fun u29 r29 h29 => ?_)
    obtain ⟨⟨q29, o29, r29⟩, rfl⟩ := h29
    have P29 := P4.trans q29 (by decide)
    refine ab_goto X 136 d_FM_makeRefusal_32 rfl ?_
    exact ab_retv X hr0 hlk d_FM_makeRefusal_136 ⟨⟨P29, o4.trans o29, by rw [eqR]; exact r29⟩, rfl⟩
  have k5 : 5 ≤ kd pq := by
    rcases ct_cn W hpM hw (by unfold wok at hw; omega) with ⟨-, e, -⟩ | ⟨-, -, e⟩
    · have := rul_1 e
      unfold wok at hw
      omega
    · exact e
  obtain ⟨n2, n4, n5, n7, b5, b6⟩ := kb k5
  have x0 := b5 0 (by omega)
  have x1 := b5 1 (by omega)
  by_cases w5 : w = 5
  · subst w5
    have eqR : R pq = 1 :: R (ch pq 0) := eR
    have g0 : u.2.1 9 (3 * (pq + 1) + 1) 0 = some (3, 3 * (ch pq 0 + 1) + 1) := F5 0 (by show 0 < 2; decide)
    have d0 : u.1 3 (3 * (ch pq 0 + 1) + 1) 1 = 1 := (dn _ (by omega)).trans (if_pos (by omega))
    have rx : Rw u (2 * (3 * (ch pq 0 + 1) + 1) + 1) (R (ch pq 0)) := (K _ (by omega) x0.2 1 (by decide)).2.2 rfl
    have lx : (R (ch pq 0)).length + 1 ≤ 20 := by rw [eqR] at hR20; simp only [List.length_cons] at hR20; omega
    refine ab_aload_n X 0 d_FM_makeRefusal_0 rfl rfl ?_
    refine ab_gR X fl_FM_47 d_FM_makeRefusal_1 (by first | assumption | decide | (show _ < 124; omega) | (show _ < 61; omega) | (show _ < 20; omega)) (P0.1.fm2 (by first | assumption | decide | omega)) ?_
    refine ab_callV (as := []) X (fun h => by cases h) (x_RW_start u (2 * (3 * (pq + 1) + 1) + 1) h (by omega)) lk_FM_87 d_FM_makeRefusal_4 rfl rfl (by first | assumption | decide | (show _ < 124; omega) | (show _ < 61; omega) | (show _ < 20; omega)) ⟨by first | exact Nat.le_of_ble_eq_true rfl | (simp only [ab_rm]; omega), by first | exact Nat.le_of_ble_eq_true rfl | (simp only [ab_rm]; omega)⟩ ⟨by first | exact Nat.le_of_ble_eq_true rfl | (simp only [ab_rm]; omega), by first | exact Nat.le_of_ble_eq_true rfl | (simp only [ab_rm]; omega)⟩ (Nat.le_of_ble_eq_true rfl) (fun u4 r4 h4 => ?_)
    obtain ⟨⟨q4, o4, r4⟩, rfl⟩ := h4
    have P4 := P0.trans q4 (by decide)
    refine ab_aload_n X 0 d_FM_makeRefusal_7 rfl rfl ?_
    refine ab_gI X fl_FM_24 d_FM_makeRefusal_8 (by first | assumption | decide | (show _ < 124; omega) | (show _ < 61; omega) | (show _ < 20; omega)) ((o4.1 _ _ _ (by omega)).trans F1) ?_
    refine ab_iconst (v := 1) X d_FM_makeRefusal_11 (by decide) ?_
    refine ab_icmp_eq X 24 d_FM_makeRefusal_12 rfl (fun hb => absurd hb ((by decide))) (fun _ => ?_)
    refine ab_aload_n X 0 d_FM_makeRefusal_15 rfl rfl ?_
    refine ab_gI X fl_FM_24 d_FM_makeRefusal_16 (by first | assumption | decide | (show _ < 124; omega) | (show _ < 61; omega) | (show _ < 20; omega)) ((o4.1 _ _ _ (by omega)).trans F1) ?_
    refine ab_bipush (v := 6) X d_FM_makeRefusal_19 (by decide) ?_
    refine ab_icmp_ne X 35 d_FM_makeRefusal_21 rfl (fun _ => ?_) (fun hb => absurd hb ((by decide)))
    refine ab_aload_n X 0 d_FM_makeRefusal_35 rfl rfl ?_
    refine ab_gI X fl_FM_24 d_FM_makeRefusal_36 (by first | assumption | decide | (show _ < 124; omega) | (show _ < 61; omega) | (show _ < 20; omega)) ((o4.1 _ _ _ (by omega)).trans F1) ?_
    refine ab_iconst (v := 5) X d_FM_makeRefusal_39 (by decide) ?_
    refine ab_icmp_ne X 104 d_FM_makeRefusal_40 rfl (fun hb => absurd (rfl) hb) (fun _ => ?_)
    refine ab_aload_n X 0 d_FM_makeRefusal_43 rfl rfl ?_
    refine ab_gR X fl_FM_11 d_FM_makeRefusal_44 (by first | assumption | decide | (show _ < 124; omega) | (show _ < 61; omega) | (show _ < 20; omega)) (P4.1.fm0 (by first | assumption | decide | omega)) ?_
    refine ab_iconst (v := 0) X d_FM_makeRefusal_47 (by decide) ?_
    refine ab_aalv X (0) ⟨rfl, _, fun _ => rfl⟩ d_FM_makeRefusal_48 (by first | assumption | decide | (show _ < 124; omega) | (show _ < 61; omega) | (show _ < 20; omega)) (rfl) (show 0 < 4 by decide) (ab_ln_lt _ _) ((show _ = some (3, 3 * (ch pq 0 + 1) + 1) by rw [o4.2]; exact g0)) ?_
    refine ab_gI X fl_FM_43 d_FM_makeRefusal_49 (by first | assumption | decide | (show _ < 124; omega) | (show _ < 61; omega) | (show _ < 20; omega)) ((o4.1 _ _ _ (by omega)).trans d0) ?_
    refine ab_istore_n1 X 0 d_FM_makeRefusal_52 rfl (by decide) rfl rfl ?_
    refine ab_aload_n X 1 d_FM_makeRefusal_53 rfl rfl ?_
    refine ab_gR X fl_FM_47 d_FM_makeRefusal_54 (by first | assumption | decide | (show _ < 124; omega) | (show _ < 61; omega) | (show _ < 20; omega)) (P4.1.fm2 (by first | assumption | decide | omega)) ?_
    refine ab_iload_n X 0 d_FM_makeRefusal_57 rfl rfl ?_
    refine ab_if_eq X 65 d_FM_makeRefusal_58 rfl (fun hb => absurd hb ((by decide))) (fun _ => ?_)
    refine ab_iconst (v := 1) X d_FM_makeRefusal_61 (by decide) ?_
    refine ab_goto X 66 d_FM_makeRefusal_62 rfl ?_
    refine ab_callV (as := [ab_I (nI 1)]) X (fun h => by cases h) (x_RW_add u4 (2 * (3 * (pq + 1) + 1) + 1) 1 [] r4 (by decide) (by rw [ln]; decide) P4.1 (by omega)) lk_FM_89 d_FM_makeRefusal_66 rfl rfl (by first | assumption | decide | (show _ < 124; omega) | (show _ < 61; omega) | (show _ < 20; omega)) ⟨by first | exact Nat.le_of_ble_eq_true rfl | (simp only [ab_rm]; omega), by first | exact Nat.le_of_ble_eq_true rfl | (simp only [ab_rm]; omega)⟩ ⟨by first | exact Nat.le_of_ble_eq_true rfl | (simp only [ab_rm]; omega), by first | exact Nat.le_of_ble_eq_true rfl | (simp only [ab_rm]; omega)⟩ (Nat.le_of_ble_eq_true rfl) (fun u66 r66 h66 => ?_)
    obtain ⟨⟨q66, o66, r66⟩, rfl⟩ := h66
    have P66 := P4.trans q66 (by decide)
    refine ab_aload_n X 1 d_FM_makeRefusal_69 rfl rfl ?_
    refine ab_gR X fl_FM_47 d_FM_makeRefusal_70 (by first | assumption | decide | (show _ < 124; omega) | (show _ < 61; omega) | (show _ < 20; omega)) (P66.1.fm2 (by first | assumption | decide | omega)) ?_
    refine ab_iload_n X 0 d_FM_makeRefusal_73 rfl rfl ?_
    refine ab_if_eq X 89 d_FM_makeRefusal_74 rfl (fun hb => absurd hb ((by decide))) (fun _ => ?_)
    refine ab_aload_n X 1 d_FM_makeRefusal_77 rfl rfl ?_
    refine ab_gR X fl_FM_11 d_FM_makeRefusal_78 (by first | assumption | decide | (show _ < 124; omega) | (show _ < 61; omega) | (show _ < 20; omega)) (P66.1.fm0 (by first | assumption | decide | omega)) ?_
    refine ab_iconst (v := 0) X d_FM_makeRefusal_81 (by decide) ?_
    refine ab_aalv X (0) ⟨rfl, _, fun _ => rfl⟩ d_FM_makeRefusal_82 (by first | assumption | decide | (show _ < 124; omega) | (show _ < 61; omega) | (show _ < 20; omega)) (rfl) (show 0 < 4 by decide) (ab_ln_lt _ _) ((show _ = some (3, 3 * (ch pq 0 + 1) + 1) by rw [o66.2, o4.2]; exact g0)) ?_
    refine ab_gR X fl_FM_47 d_FM_makeRefusal_83 (by first | assumption | decide | (show _ < 124; omega) | (show _ < 61; omega) | (show _ < 20; omega)) (P66.1.fm2 (by first | assumption | decide | omega)) ?_
    refine ab_goto X 98 d_FM_makeRefusal_86 rfl ?_
    refine ab_callV (as := [ab_O 4 (2 * (3 * (ch pq 0 + 1) + 1) + 1)]) X (fun h => by cases h) (x_RW_join u66 (2 * (3 * (pq + 1) + 1) + 1) (2 * (3 * (ch pq 0 + 1) + 1) + 1) _ _ r66 (rx.fr (o4.trans o66) (by omega)) (by omega) (by rw [ln]; show 1 + _ ≤ 40; omega) P66.1 (by omega) (by omega)) lk_FM_92 d_FM_makeRefusal_98 rfl rfl (by first | assumption | decide | (show _ < 124; omega) | (show _ < 61; omega) | (show _ < 20; omega)) ⟨by first | exact Nat.le_of_ble_eq_true rfl | (simp only [ab_rm]; omega), by first | exact Nat.le_of_ble_eq_true rfl | (simp only [ab_rm]; omega)⟩ ⟨by first | exact Nat.le_of_ble_eq_true rfl | (simp only [ab_rm]; omega), by first | exact Nat.le_of_ble_eq_true rfl | (simp only [ab_rm]; omega)⟩ (Nat.le_of_ble_eq_true rfl) (fun u98 r98 h98 => ?_)
    obtain ⟨⟨q98, o98, r98⟩, rfl⟩ := h98
    have P98 := P66.trans q98 (by decide)
    refine ab_goto X 136 d_FM_makeRefusal_101 rfl ?_
    exact ab_retv X hr0 hlk d_FM_makeRefusal_136 ⟨⟨P98, (o4.trans o66).trans o98, by rw [eqR]; exact r98⟩, rfl⟩
  by_cases w6 : w = 6
  · subst w6
    have eqR : R pq = 0 :: R (ch pq 1) := eR
    have g0 : u.2.1 9 (3 * (pq + 1) + 1) 0 = some (3, 3 * (ch pq 0 + 1) + 0) := F5 0 (by show 0 < 2; decide)
    have g1 : u.2.1 9 (3 * (pq + 1) + 1) 1 = some (3, 3 * (ch pq 1 + 1) + 1) := F5 1 (by show 1 < 2; decide)
    have d0 : u.1 3 (3 * (ch pq 0 + 1) + 0) 1 = 0 := (dn _ (by omega)).trans (if_neg (by omega))
    have rx : Rw u (2 * (3 * (ch pq 1 + 1) + 1) + 1) (R (ch pq 1)) := (K _ (by omega) x1.2 1 (by decide)).2.2 rfl
    have lx : (R (ch pq 1)).length + 1 ≤ 20 := by rw [eqR] at hR20; simp only [List.length_cons] at hR20; omega
    refine ab_aload_n X 0 d_FM_makeRefusal_0 rfl rfl ?_
    refine ab_gR X fl_FM_47 d_FM_makeRefusal_1 (by first | assumption | decide | (show _ < 124; omega) | (show _ < 61; omega) | (show _ < 20; omega)) (P0.1.fm2 (by first | assumption | decide | omega)) ?_
    refine ab_callV (as := []) X (fun h => by cases h) (x_RW_start u (2 * (3 * (pq + 1) + 1) + 1) h (by omega)) lk_FM_87 d_FM_makeRefusal_4 rfl rfl (by first | assumption | decide | (show _ < 124; omega) | (show _ < 61; omega) | (show _ < 20; omega)) ⟨by first | exact Nat.le_of_ble_eq_true rfl | (simp only [ab_rm]; omega), by first | exact Nat.le_of_ble_eq_true rfl | (simp only [ab_rm]; omega)⟩ ⟨by first | exact Nat.le_of_ble_eq_true rfl | (simp only [ab_rm]; omega), by first | exact Nat.le_of_ble_eq_true rfl | (simp only [ab_rm]; omega)⟩ (Nat.le_of_ble_eq_true rfl) (fun u4 r4 h4 => ?_)
    obtain ⟨⟨q4, o4, r4⟩, rfl⟩ := h4
    have P4 := P0.trans q4 (by decide)
    refine ab_aload_n X 0 d_FM_makeRefusal_7 rfl rfl ?_
    refine ab_gI X fl_FM_24 d_FM_makeRefusal_8 (by first | assumption | decide | (show _ < 124; omega) | (show _ < 61; omega) | (show _ < 20; omega)) ((o4.1 _ _ _ (by omega)).trans F1) ?_
    refine ab_iconst (v := 1) X d_FM_makeRefusal_11 (by decide) ?_
    refine ab_icmp_eq X 24 d_FM_makeRefusal_12 rfl (fun hb => absurd hb ((by decide))) (fun _ => ?_)
    refine ab_aload_n X 0 d_FM_makeRefusal_15 rfl rfl ?_
    refine ab_gI X fl_FM_24 d_FM_makeRefusal_16 (by first | assumption | decide | (show _ < 124; omega) | (show _ < 61; omega) | (show _ < 20; omega)) ((o4.1 _ _ _ (by omega)).trans F1) ?_
    refine ab_bipush (v := 6) X d_FM_makeRefusal_19 (by decide) ?_
    refine ab_icmp_ne X 35 d_FM_makeRefusal_21 rfl (fun _ => ?_) (fun hb => absurd hb ((by decide)))
    refine ab_aload_n X 0 d_FM_makeRefusal_35 rfl rfl ?_
    refine ab_gI X fl_FM_24 d_FM_makeRefusal_36 (by first | assumption | decide | (show _ < 124; omega) | (show _ < 61; omega) | (show _ < 20; omega)) ((o4.1 _ _ _ (by omega)).trans F1) ?_
    refine ab_iconst (v := 5) X d_FM_makeRefusal_39 (by decide) ?_
    refine ab_icmp_ne X 104 d_FM_makeRefusal_40 rfl (fun hb => absurd (rfl) hb) (fun _ => ?_)
    refine ab_aload_n X 0 d_FM_makeRefusal_43 rfl rfl ?_
    refine ab_gR X fl_FM_11 d_FM_makeRefusal_44 (by first | assumption | decide | (show _ < 124; omega) | (show _ < 61; omega) | (show _ < 20; omega)) (P4.1.fm0 (by first | assumption | decide | omega)) ?_
    refine ab_iconst (v := 0) X d_FM_makeRefusal_47 (by decide) ?_
    refine ab_aalv X (0) ⟨rfl, _, fun _ => rfl⟩ d_FM_makeRefusal_48 (by first | assumption | decide | (show _ < 124; omega) | (show _ < 61; omega) | (show _ < 20; omega)) (rfl) (show 0 < 4 by decide) (ab_ln_lt _ _) ((show _ = some (3, 3 * (ch pq 0 + 1) + 0) by rw [o4.2]; exact g0)) ?_
    refine ab_gI X fl_FM_43 d_FM_makeRefusal_49 (by first | assumption | decide | (show _ < 124; omega) | (show _ < 61; omega) | (show _ < 20; omega)) ((o4.1 _ _ _ (by omega)).trans d0) ?_
    refine ab_istore_n1 X 0 d_FM_makeRefusal_52 rfl (by decide) rfl rfl ?_
    refine ab_aload_n X 1 d_FM_makeRefusal_53 rfl rfl ?_
    refine ab_gR X fl_FM_47 d_FM_makeRefusal_54 (by first | assumption | decide | (show _ < 124; omega) | (show _ < 61; omega) | (show _ < 20; omega)) (P4.1.fm2 (by first | assumption | decide | omega)) ?_
    refine ab_iload_n X 0 d_FM_makeRefusal_57 rfl rfl ?_
    refine ab_if_eq X 65 d_FM_makeRefusal_58 rfl (fun _ => ?_) (fun hb => absurd (rfl) hb)
    refine ab_iconst (v := 0) X d_FM_makeRefusal_65 (by decide) ?_
    refine ab_callV (as := [ab_I (nI 0)]) X (fun h => by cases h) (x_RW_add u4 (2 * (3 * (pq + 1) + 1) + 1) 0 [] r4 (by decide) (by rw [ln]; decide) P4.1 (by omega)) lk_FM_89 d_FM_makeRefusal_66 rfl rfl (by first | assumption | decide | (show _ < 124; omega) | (show _ < 61; omega) | (show _ < 20; omega)) ⟨by first | exact Nat.le_of_ble_eq_true rfl | (simp only [ab_rm]; omega), by first | exact Nat.le_of_ble_eq_true rfl | (simp only [ab_rm]; omega)⟩ ⟨by first | exact Nat.le_of_ble_eq_true rfl | (simp only [ab_rm]; omega), by first | exact Nat.le_of_ble_eq_true rfl | (simp only [ab_rm]; omega)⟩ (Nat.le_of_ble_eq_true rfl) (fun u66 r66 h66 => ?_)
    obtain ⟨⟨q66, o66, r66⟩, rfl⟩ := h66
    have P66 := P4.trans q66 (by decide)
    refine ab_aload_n X 1 d_FM_makeRefusal_69 rfl rfl ?_
    refine ab_gR X fl_FM_47 d_FM_makeRefusal_70 (by first | assumption | decide | (show _ < 124; omega) | (show _ < 61; omega) | (show _ < 20; omega)) (P66.1.fm2 (by first | assumption | decide | omega)) ?_
    refine ab_iload_n X 0 d_FM_makeRefusal_73 rfl rfl ?_
    refine ab_if_eq X 89 d_FM_makeRefusal_74 rfl (fun _ => ?_) (fun hb => absurd (rfl) hb)
    refine ab_aload_n X 1 d_FM_makeRefusal_89 rfl rfl ?_
    refine ab_gR X fl_FM_11 d_FM_makeRefusal_90 (by first | assumption | decide | (show _ < 124; omega) | (show _ < 61; omega) | (show _ < 20; omega)) (P66.1.fm0 (by first | assumption | decide | omega)) ?_
    refine ab_iconst (v := 1) X d_FM_makeRefusal_93 (by decide) ?_
    refine ab_aalv X (1) ⟨rfl, _, fun _ => rfl⟩ d_FM_makeRefusal_94 (by first | assumption | decide | (show _ < 124; omega) | (show _ < 61; omega) | (show _ < 20; omega)) (rfl) (show 1 < 4 by decide) (ab_ln_lt _ _) ((show _ = some (3, 3 * (ch pq 1 + 1) + 1) by rw [o66.2, o4.2]; exact g1)) ?_
    refine ab_gR X fl_FM_47 d_FM_makeRefusal_95 (by first | assumption | decide | (show _ < 124; omega) | (show _ < 61; omega) | (show _ < 20; omega)) (P66.1.fm2 (by first | assumption | decide | omega)) ?_
    refine ab_callV (as := [ab_O 4 (2 * (3 * (ch pq 1 + 1) + 1) + 1)]) X (fun h => by cases h) (x_RW_join u66 (2 * (3 * (pq + 1) + 1) + 1) (2 * (3 * (ch pq 1 + 1) + 1) + 1) _ _ r66 (rx.fr (o4.trans o66) (by omega)) (by omega) (by rw [ln]; show 1 + _ ≤ 40; omega) P66.1 (by omega) (by omega)) lk_FM_92 d_FM_makeRefusal_98 rfl rfl (by first | assumption | decide | (show _ < 124; omega) | (show _ < 61; omega) | (show _ < 20; omega)) ⟨by first | exact Nat.le_of_ble_eq_true rfl | (simp only [ab_rm]; omega), by first | exact Nat.le_of_ble_eq_true rfl | (simp only [ab_rm]; omega)⟩ ⟨by first | exact Nat.le_of_ble_eq_true rfl | (simp only [ab_rm]; omega), by first | exact Nat.le_of_ble_eq_true rfl | (simp only [ab_rm]; omega)⟩ (Nat.le_of_ble_eq_true rfl) (fun u98 r98 h98 => ?_)
    obtain ⟨⟨q98, o98, r98⟩, rfl⟩ := h98
    have P98 := P66.trans q98 (by decide)
    refine ab_goto X 136 d_FM_makeRefusal_101 rfl ?_
    exact ab_retv X hr0 hlk d_FM_makeRefusal_136 ⟨⟨P98, (o4.trans o66).trans o98, by rw [eqR]; exact r98⟩, rfl⟩
  have w4 : (w = 2 ∨ w = 3 ∨ w = 7) ∨ (w = 4 ∧ kd pq = 6) := by unfold wok at hw; omega
  have eqR : R pq = cat (fun i => R (ch pq i)) (cn pq) := eR.trans ((if_neg (by omega)).trans ((if_neg w5).trans (if_neg w6)))
  have hc : ct cn w pq = cn pq := by
    rcases w4 with (rfl | rfl | rfl) | ⟨rfl, kk⟩
    · rfl
    · rfl
    · rfl
    · exact (n5 (by omega)).symm
  have g : ∀ i, i < cn pq → u.2.1 9 (3 * (pq + 1) + 1) i = some (3, 3 * (ch pq i + 1) + 1) := fun i hi => by
    have z := F5 i (by omega)
    rcases w4 with (rfl | rfl | rfl) | ⟨rfl, kk⟩ <;> exact z
  have h1 : ¬ nI (rul w) = 1 := by rcases w4 with (rfl | rfl | rfl) | ⟨rfl, kk⟩ <;> decide
  have h6 : ¬ nI (rul w) = 6 := by rcases w4 with (rfl | rfl | rfl) | ⟨rfl, kk⟩ <;> decide
  have h5 : ¬ nI (rul w) = 5 := by rcases w4 with (rfl | rfl | rfl) | ⟨rfl, kk⟩ <;> decide
  have lc : ∀ j, j ≤ cn pq → (cat (fun i => R (ch pq i)) j).length ≤ 19 := fun j hj => by
    have a : (cat (fun i => R (ch pq i)) j).length ≤ (cat (fun i => R (ch pq i)) (cn pq)).length := by rw [cat_len, cat_len]; exact sm_mono _ hj
    rw [← eqR] at a
    omega
  have loop : ∀ (k j : Nat) (u1 : ab_S), k + j = cn pq → cP [4, 8] u u1 → rO (fun i => i = (2 * (3 * (pq + 1) + 1) + 1)) u u1 → Rw u1 (2 * (3 * (pq + 1) + 1) + 1) (cat (fun i => R (ch pq i)) j) → ab_J p l e (ab_rm 2 0 0) s m args below meth c (MQ below (ab_Q D ca ad ab_nQ s.heap.size (fun u' v => (cP [4, 8] u u' ∧ rO (fun i => i = (2 * (3 * (pq + 1) + 1) + 1)) u u' ∧ Rw u' (2 * (3 * (pq + 1) + 1) + 1) (R pq)) ∧ v = none)) args s 0 0 (ab_A ad ab_nQ s.heap.size)) D ca (ab_A ad ab_nQ s.heap.size) s.heap 2 0 0 ad ab_nQ u1 106 [(1, ab_I (nI j)), (0, ab_O 3 (3 * (pq + 1) + 1))] [] := by
    intro k
    induction k with
    | zero =>
      intro j u1 hj P1 O1 C1
      obtain rfl : j = cn pq := by omega
      refine ab_iload_n X 0 d_FM_makeRefusal_106 rfl rfl ?_
      refine ab_aload_n X 1 d_FM_makeRefusal_107 rfl rfl ?_
      refine ab_gI X fl_FM_34 d_FM_makeRefusal_108 (by first | assumption | decide | (show _ < 124; omega) | (show _ < 61; omega) | (show _ < 20; omega)) ((O1.1 _ _ _ (by omega)).trans (F4.trans (by rw [hc]))) ?_
      refine ab_icmp_ge X 136 d_FM_makeRefusal_111 rfl (fun _ => ?_) (fun hb => absurd ((nI_le (by omega) (by omega))) hb)
      exact ab_retv X hr0 hlk d_FM_makeRefusal_136 ⟨⟨P1, O1, by rw [eqR]; exact C1⟩, rfl⟩
    | succ k ih =>
      intro j u1 hj P1 O1 C1
      have xj := b5 j (by omega)
      have rx : Rw u (2 * (3 * (ch pq j + 1) + 1) + 1) (R (ch pq j)) := (K _ (by omega) xj.2 1 (by decide)).2.2 rfl
      have l2 := lc (j + 1) (by omega)
      have l3 : (cat (fun i => R (ch pq i)) (j + 1)).length = (cat (fun i => R (ch pq i)) j).length + (R (ch pq j)).length := List.length_append
      refine ab_iload_n X 0 d_FM_makeRefusal_106 rfl rfl ?_
      refine ab_aload_n X 1 d_FM_makeRefusal_107 rfl rfl ?_
      refine ab_gI X fl_FM_34 d_FM_makeRefusal_108 (by first | assumption | decide | (show _ < 124; omega) | (show _ < 61; omega) | (show _ < 20; omega)) ((O1.1 _ _ _ (by omega)).trans (F4.trans (by rw [hc]))) ?_
      refine ab_icmp_ge X 136 d_FM_makeRefusal_111 rfl (fun hb => absurd hb ((nI_ge (by omega) (by omega)))) (fun _ => ?_)
      refine ab_aload_n X 1 d_FM_makeRefusal_114 rfl rfl ?_
      refine ab_gR X fl_FM_47 d_FM_makeRefusal_115 (by first | assumption | decide | (show _ < 124; omega) | (show _ < 61; omega) | (show _ < 20; omega)) (P1.1.fm2 (by first | assumption | decide | omega)) ?_
      refine ab_aload_n X 1 d_FM_makeRefusal_118 rfl rfl ?_
      refine ab_gR X fl_FM_11 d_FM_makeRefusal_119 (by first | assumption | decide | (show _ < 124; omega) | (show _ < 61; omega) | (show _ < 20; omega)) (P1.1.fm0 (by first | assumption | decide | omega)) ?_
      refine ab_iload_n X 0 d_FM_makeRefusal_122 rfl rfl ?_
      refine ab_aalv X (j) ⟨rfl, _, fun _ => rfl⟩ d_FM_makeRefusal_123 (by first | assumption | decide | (show _ < 124; omega) | (show _ < 61; omega) | (show _ < 20; omega)) (rfl) (show j < 4 by omega) (ab_ln_lt _ _) ((show _ = some (3, 3 * (ch pq j + 1) + 1) by rw [O1.2]; exact g j (by omega))) ?_
      refine ab_gR X fl_FM_47 d_FM_makeRefusal_124 (by first | assumption | decide | (show _ < 124; omega) | (show _ < 61; omega) | (show _ < 20; omega)) (P1.1.fm2 (by first | assumption | decide | omega)) ?_
      refine ab_callV (as := [ab_O 4 (2 * (3 * (ch pq j + 1) + 1) + 1)]) X (fun h => by cases h) (x_RW_join u1 (2 * (3 * (pq + 1) + 1) + 1) (2 * (3 * (ch pq j + 1) + 1) + 1) _ _ C1 (rx.fr O1 (by omega)) (by omega) (by rw [ln]; omega) P1.1 (by omega) (by omega)) lk_FM_92 d_FM_makeRefusal_127 rfl rfl (by first | assumption | decide | (show _ < 124; omega) | (show _ < 61; omega) | (show _ < 20; omega)) ⟨by first | exact Nat.le_of_ble_eq_true rfl | (simp only [ab_rm]; omega), by first | exact Nat.le_of_ble_eq_true rfl | (simp only [ab_rm]; omega)⟩ ⟨by first | exact Nat.le_of_ble_eq_true rfl | (simp only [ab_rm]; omega), by first | exact Nat.le_of_ble_eq_true rfl | (simp only [ab_rm]; omega)⟩ (Nat.le_of_ble_eq_true rfl) (fun u127 r127 h127 => ?_)
      obtain ⟨⟨q127, o127, r127⟩, rfl⟩ := h127
      have P127 := P1.trans q127 (by decide)
      refine ab_iinc1 X 0 1 d_FM_makeRefusal_130 rfl (by decide) rfl rfl ?_
      refine ab_goto X 106 d_FM_makeRefusal_133 rfl ?_
      rw [show nI j + Int32.ofInt 1 = nI (j + 1) from nI_1 j]
      exact ih (j + 1) _ (by omega) P127 (O1.trans o127) r127
  refine ab_aload_n X 0 d_FM_makeRefusal_0 rfl rfl ?_
  refine ab_gR X fl_FM_47 d_FM_makeRefusal_1 (by first | assumption | decide | (show _ < 124; omega) | (show _ < 61; omega) | (show _ < 20; omega)) (P0.1.fm2 (by first | assumption | decide | omega)) ?_
  refine ab_callV (as := []) X (fun h => by cases h) (x_RW_start u (2 * (3 * (pq + 1) + 1) + 1) h (by omega)) lk_FM_87 d_FM_makeRefusal_4 rfl rfl (by first | assumption | decide | (show _ < 124; omega) | (show _ < 61; omega) | (show _ < 20; omega)) ⟨by first | exact Nat.le_of_ble_eq_true rfl | (simp only [ab_rm]; omega), by first | exact Nat.le_of_ble_eq_true rfl | (simp only [ab_rm]; omega)⟩ ⟨by first | exact Nat.le_of_ble_eq_true rfl | (simp only [ab_rm]; omega), by first | exact Nat.le_of_ble_eq_true rfl | (simp only [ab_rm]; omega)⟩ (Nat.le_of_ble_eq_true rfl) (fun u4 r4 h4 => ?_)
  obtain ⟨⟨q4, o4, r4⟩, rfl⟩ := h4
  have P4 := P0.trans q4 (by decide)
  refine ab_aload_n X 0 d_FM_makeRefusal_7 rfl rfl ?_
  refine ab_gI X fl_FM_24 d_FM_makeRefusal_8 (by first | assumption | decide | (show _ < 124; omega) | (show _ < 61; omega) | (show _ < 20; omega)) ((o4.1 _ _ _ (by omega)).trans F1) ?_
  refine ab_iconst (v := 1) X d_FM_makeRefusal_11 (by decide) ?_
  refine ab_icmp_eq X 24 d_FM_makeRefusal_12 rfl (fun hb => absurd hb (h1)) (fun _ => ?_)
  refine ab_aload_n X 0 d_FM_makeRefusal_15 rfl rfl ?_
  refine ab_gI X fl_FM_24 d_FM_makeRefusal_16 (by first | assumption | decide | (show _ < 124; omega) | (show _ < 61; omega) | (show _ < 20; omega)) ((o4.1 _ _ _ (by omega)).trans F1) ?_
  refine ab_bipush (v := 6) X d_FM_makeRefusal_19 (by decide) ?_
  refine ab_icmp_ne X 35 d_FM_makeRefusal_21 rfl (fun _ => ?_) (fun hb => absurd hb (h6))
  refine ab_aload_n X 0 d_FM_makeRefusal_35 rfl rfl ?_
  refine ab_gI X fl_FM_24 d_FM_makeRefusal_36 (by first | assumption | decide | (show _ < 124; omega) | (show _ < 61; omega) | (show _ < 20; omega)) ((o4.1 _ _ _ (by omega)).trans F1) ?_
  refine ab_iconst (v := 5) X d_FM_makeRefusal_39 (by decide) ?_
  refine ab_icmp_ne X 104 d_FM_makeRefusal_40 rfl (fun _ => ?_) (fun hb => absurd hb (h5))
  refine ab_iconst (v := 0) X d_FM_makeRefusal_104 (by decide) ?_
  refine ab_istore_n1 X 0 d_FM_makeRefusal_105 rfl (by decide) rfl rfl ?_
  exact loop (cn pq) 0 _ (by omega) P4 o4 r4
set_option maxRecDepth 100000 in
set_option maxHeartbeats 4000000 in
theorem x_PT_chooseF (u : ab_S) (M : Nat) (kd ar cn lf : Nat → Nat) (ch : Nat → Nat → Nat) (Y : Nat → Nat → Nat × Nat × Nat) (R : Nat → List Nat) (W : tW M kd ar cn lf ch) (hB : ∀ q, q < M → xB lf Y R q) (pq : Nat) (hpM : pq < M) (F : xF kd ar cn ch Y R pq) (mm : pm kd ar cn ch pq u) (dn : dnn u) (C : cX M kd ar cn ch Y R (pq + 1) u) (h : CI u) : ab_C false l D ca y_PT_chooseForms b_PT_chooseForms 2 none 6 ab_nQ u [ab_O 2 (pq + 1), ab_O 3 60] (fun u' v => (cP [3, 4, 8, 9] u u' ∧ cX M kd ar cn ch Y R pq u' ∧ dnn u' ∧ gX (fun i => i = (3 * (pq + 1)) ∨ i = (3 * (pq + 1) + 1) ∨ i = (3 * (pq + 1) + 2) ∨ i = 60) (fun i => i = (2 * (3 * (pq + 1) + 1) + 1)) u u') ∧ v = none) := by
  refine ab_C.of (by decide) (Nat.le_of_ble_eq_true rfl) ?_
  intro p e s m args below meth c ad X hZ hr0 hlk
  have P0 : cP [3, 4, 8, 9] u u := cQ.rf h
  have hP19 := W.2.1
  have y0 : pks (tL cn ch (xL Y) pq) (tG kd ar cn ch (xG Y) R pq) (pks (tL cn ch (xL Y) pq) (tG kd ar cn ch (xG Y) R pq) none (wB1 (kd pq) (ar pq) (cn pq))) (wD1 (kd pq)) = some (Y pq 0) := by rw [← pks_app, ← wys_0]; exact (F.1 0 (by decide)).symm
  have y1 : pk (pks (tL cn ch (xL Y) pq) (tG kd ar cn ch (xG Y) R pq) none (wD1 (kd pq))) 8 (tL cn ch (xL Y) pq 8) (tG kd ar cn ch (xG Y) R pq 8) = some (Y pq 1) := by
    have z := F.1 1 (by decide)
    rw [wys_1, pks_app] at z
    exact z.symm
  have y2 : pks (tL cn ch (xL Y) pq) (tG kd ar cn ch (xG Y) R pq) none (wys (kd pq) (ar pq) (cn pq) 2) = some (Y pq 2) := (F.1 2 (by decide)).symm
  have hw8 : wok (kd pq) (ar pq) (cn pq) 1 8 := by simp [wok]
  have hwD := (F.way W hpM (j := 1) (by decide)).2.1
  have r0 : ∀ {u5 u13 u21 : ab_S}, u5 = ab_ui u 3 (3 * (pq + 1)) 4 0 → u13 = ab_ui u5 3 (3 * (pq + 1) + 1) 4 0 → u21 = ab_ui u13 3 (3 * (pq + 1) + 2) 4 0 → gX (fun i => i = (3 * (pq + 1)) ∨ i = (3 * (pq + 1) + 1) ∨ i = (3 * (pq + 1) + 2) ∨ i = 60) (fun i => i = (2 * (3 * (pq + 1) + 1) + 1)) u u21 ∧ u21.1 3 (3 * (pq + 1)) 4 = nI 0 ∧ u21.1 3 (3 * (pq + 1) + 1) 4 = nI 0 ∧ u21.1 3 (3 * (pq + 1) + 2) 4 = nI 0 := fun e5 e13 e21 => by
    rw [e21, e13, e5]
    exact ⟨⟨fun i k z => (ui_n _ (by omega)).trans ((ui_n _ (by omega)).trans (ui_n _ (by omega))), fun i => (ui_n _ (by omega)).trans ((ui_n _ (by omega)).trans (ui_n _ (by omega))), fun i k z => rfl, fun i k z => ⟨(ui_n _ (by omega)).trans ((ui_n _ (by omega)).trans (ui_n _ (by omega))), (ui_n _ (by omega)).trans ((ui_n _ (by omega)).trans (ui_n _ (by omega)))⟩⟩, (ui_n _ (by omega)).trans ((ui_n _ (by omega)).trans (ui_s _)), (ui_n _ (by omega)).trans (ui_s _), ui_s _⟩
  refine ab_aload_n X 0 d_PT_chooseForms_0 rfl rfl ?_
  refine ab_gR X fl_PT_20 d_PT_chooseForms_1 (by first | assumption | decide | (show _ < 124; omega) | (show _ < 61; omega) | (show _ < 20; omega)) (P0.1.pt1 (by first | assumption | decide | omega)) ?_
  refine ab_iconst (v := 0) X d_PT_chooseForms_4 (by decide) ?_
  refine ab_putI X fp_PT_54 d_PT_chooseForms_5 (by first | assumption | decide | (show _ < 124; omega) | (show _ < 61; omega) | (show _ < 20; omega)) rfl rfl ?_
  refine ab_gen (fun u5 e5 => ?_)
  have P5 : cP [3, 4, 8, 9] u u5 := by rw [e5]; exact P0.rule0 (by decide)
  refine ab_aload_n X 0 d_PT_chooseForms_8 rfl rfl ?_
  refine ab_gR X fl_PT_24 d_PT_chooseForms_9 (by first | assumption | decide | (show _ < 124; omega) | (show _ < 61; omega) | (show _ < 20; omega)) (P5.1.pt2 (by first | assumption | decide | omega)) ?_
  refine ab_iconst (v := 0) X d_PT_chooseForms_12 (by decide) ?_
  refine ab_putI X fp_PT_54 d_PT_chooseForms_13 (by first | assumption | decide | (show _ < 124; omega) | (show _ < 61; omega) | (show _ < 20; omega)) rfl rfl ?_
  refine ab_gen (fun u13 e13 => ?_)
  have P13 : cP [3, 4, 8, 9] u u13 := by rw [e13]; exact P5.rule0 (by decide)
  refine ab_aload_n X 0 d_PT_chooseForms_16 rfl rfl ?_
  refine ab_gR X fl_PT_27 d_PT_chooseForms_17 (by first | assumption | decide | (show _ < 124; omega) | (show _ < 61; omega) | (show _ < 20; omega)) (P13.1.pt3 (by first | assumption | decide | omega)) ?_
  refine ab_iconst (v := 0) X d_PT_chooseForms_20 (by decide) ?_
  refine ab_putI X fp_PT_54 d_PT_chooseForms_21 (by first | assumption | decide | (show _ < 124; omega) | (show _ < 61; omega) | (show _ < 20; omega)) rfl rfl ?_
  refine ab_gen (fun u21 e21 => ?_)
  have P21 : cP [3, 4, 8, 9] u u21 := by rw [e21]; exact P13.rule0 (by decide)
  obtain ⟨g21, z0, z1, z2⟩ := r0 e5 e13 e21
  refine ab_aload_n X 0 d_PT_chooseForms_24 rfl rfl ?_
  refine ab_aload_n X 1 d_PT_chooseForms_25 rfl rfl ?_
  refine ab_callV (as := [ab_O 3 60]) X (fun h => by cases h) (x_PT_waysB u21 M kd ar cn lf ch Y R W hB pq hpM (mm.cp P21 (by decide) (by decide)) P21.1 z0 (C.ck.gx g21 (fun i hi => by omega) (fun i hi => by omega) hP19)) lk_PT_57 d_PT_chooseForms_26 rfl rfl (by first | assumption | decide | (show _ < 124; omega) | (show _ < 61; omega) | (show _ < 20; omega)) ⟨by first | exact Nat.le_of_ble_eq_true rfl | (simp only [ab_rm]; omega), by first | exact Nat.le_of_ble_eq_true rfl | (simp only [ab_rm]; omega)⟩ ⟨by first | exact Nat.le_of_ble_eq_true rfl | (simp only [ab_rm]; omega), by first | exact Nat.le_of_ble_eq_true rfl | (simp only [ab_rm]; omega)⟩ (Nat.le_of_ble_eq_true rfl) (fun u26 r26 h26 => ?_)
  obtain ⟨⟨q26, o26, b26⟩, rfl⟩ := h26
  have P26 := P21.trans q26 (by decide)
  have g26 : gX (fun i => i = (3 * (pq + 1)) ∨ i = (3 * (pq + 1) + 1) ∨ i = (3 * (pq + 1) + 2) ∨ i = 60) (fun i => i = (2 * (3 * (pq + 1) + 1) + 1)) u u26 := g21.trans (o26.gx.wk (fun i hi => by omega) (fun i hi => hi))
  refine ab_aload_n X 0 d_PT_chooseForms_29 rfl rfl ?_
  refine ab_aload_n X 0 d_PT_chooseForms_30 rfl rfl ?_
  refine ab_gR X fl_PT_20 d_PT_chooseForms_31 (by first | assumption | decide | (show _ < 124; omega) | (show _ < 61; omega) | (show _ < 20; omega)) (P26.1.pt1 (by first | assumption | decide | omega)) ?_
  refine ab_aload_n X 1 d_PT_chooseForms_34 rfl rfl ?_
  refine ab_callV (as := [ab_O 3 (3 * (pq + 1)), ab_O 3 60]) X (fun h => by cases h) (x_PT_waysD u26 M kd ar cn lf ch Y R W hB pq hpM (mm.cp P26 (by decide) (by decide)) P26.1 (3 * (pq + 1)) _ b26 (by omega) (C.ck.gx g26 (fun i hi => by omega) (fun i hi => by omega) hP19)) lk_PT_61 d_PT_chooseForms_35 rfl rfl (by first | assumption | decide | (show _ < 124; omega) | (show _ < 61; omega) | (show _ < 20; omega)) ⟨by first | exact Nat.le_of_ble_eq_true rfl | (simp only [ab_rm]; omega), by first | exact Nat.le_of_ble_eq_true rfl | (simp only [ab_rm]; omega)⟩ ⟨by first | exact Nat.le_of_ble_eq_true rfl | (simp only [ab_rm]; omega), by first | exact Nat.le_of_ble_eq_true rfl | (simp only [ab_rm]; omega)⟩ (Nat.le_of_ble_eq_true rfl) (fun u35 r35 h35 => ?_)
  obtain ⟨⟨q35, o35, b35⟩, rfl⟩ := h35
  have P35 := P26.trans q35 (by decide)
  have g35 : gX (fun i => i = (3 * (pq + 1)) ∨ i = (3 * (pq + 1) + 1) ∨ i = (3 * (pq + 1) + 2) ∨ i = 60) (fun i => i = (2 * (3 * (pq + 1) + 1) + 1)) u u35 := g26.trans (o35.gx.wk (fun i hi => by omega) (fun i hi => hi))
  rw [y0] at b35
  obtain ⟨fB, wB, gB, -, -⟩ := b35
  have kB : kC Y R u35 pq 0 := ⟨wB, gB, fun z => absurd z (by decide)⟩
  have y3 : u35.1 3 (3 * (pq + 1) + 1) 4 = nI 0 := (o35.1 _ _ _ (by omega)).trans ((o26.1 _ _ _ (by omega)).trans z1)
  have y4 : u35.1 3 (3 * (pq + 1) + 2) 4 = nI 0 := (o35.1 _ _ _ (by omega)).trans ((o26.1 _ _ _ (by omega)).trans z2)
  refine ab_aload_n X 0 d_PT_chooseForms_38 rfl rfl ?_
  refine ab_aload_n X 0 d_PT_chooseForms_39 rfl rfl ?_
  refine ab_gR X fl_PT_24 d_PT_chooseForms_40 (by first | assumption | decide | (show _ < 124; omega) | (show _ < 61; omega) | (show _ < 20; omega)) (P35.1.pt2 (by first | assumption | decide | omega)) ?_
  refine ab_aload_n X 1 d_PT_chooseForms_43 rfl rfl ?_
  refine ab_callV (as := [ab_O 3 (3 * (pq + 1) + 1), ab_O 3 60]) X (fun h => by cases h) (x_PT_waysD u35 M kd ar cn lf ch Y R W hB pq hpM (mm.cp P35 (by decide) (by decide)) P35.1 (3 * (pq + 1) + 1) none y3 (by omega) (C.ck.gx g35 (fun i hi => by omega) (fun i hi => by omega) hP19)) lk_PT_61 d_PT_chooseForms_44 rfl rfl (by first | assumption | decide | (show _ < 124; omega) | (show _ < 61; omega) | (show _ < 20; omega)) ⟨by first | exact Nat.le_of_ble_eq_true rfl | (simp only [ab_rm]; omega), by first | exact Nat.le_of_ble_eq_true rfl | (simp only [ab_rm]; omega)⟩ ⟨by first | exact Nat.le_of_ble_eq_true rfl | (simp only [ab_rm]; omega), by first | exact Nat.le_of_ble_eq_true rfl | (simp only [ab_rm]; omega)⟩ (Nat.le_of_ble_eq_true rfl) (fun u44 r44 h44 => ?_)
  obtain ⟨⟨q44, o44, b44⟩, rfl⟩ := h44
  have P44 := P35.trans q44 (by decide)
  have g44 : gX (fun i => i = (3 * (pq + 1)) ∨ i = (3 * (pq + 1) + 1) ∨ i = (3 * (pq + 1) + 2) ∨ i = 60) (fun i => i = (2 * (3 * (pq + 1) + 1) + 1)) u u44 := g35.trans (o44.gx.wk (fun i hi => by omega) (fun i hi => hi))
  refine ab_aload_n X 0 d_PT_chooseForms_47 rfl rfl ?_
  refine ab_gR X fl_PT_24 d_PT_chooseForms_48 (by first | assumption | decide | (show _ < 124; omega) | (show _ < 61; omega) | (show _ < 20; omega)) (P44.1.pt2 (by first | assumption | decide | omega)) ?_
  refine ab_aload_n X 1 d_PT_chooseForms_51 rfl rfl ?_
  refine ab_bipush (v := 6) X d_PT_chooseForms_52 (by decide) ?_
  refine ab_iconst (v := 0) X d_PT_chooseForms_54 (by decide) ?_
  refine ab_iconst (v := 1) X d_PT_chooseForms_55 (by decide) ?_
  refine ab_callV (as := [ab_I (nI 6), ab_I 0, ab_I 1]) X (fun h => by cases h) (f_FM_start u44 60 6 0 1 (fun i => 3 * (cp ch 8 pq i + 1) + cj cn 8 pq i) (P44.ex 60).1 (by decide)) lk_PT_65 d_PT_chooseForms_56 rfl rfl (by first | assumption | decide | (show _ < 124; omega) | (show _ < 61; omega) | (show _ < 20; omega)) ⟨by first | exact Nat.le_of_ble_eq_true rfl | (simp only [ab_rm]; omega), by first | exact Nat.le_of_ble_eq_true rfl | (simp only [ab_rm]; omega)⟩ ⟨by first | exact Nat.le_of_ble_eq_true rfl | (simp only [ab_rm]; omega), by first | exact Nat.le_of_ble_eq_true rfl | (simp only [ab_rm]; omega)⟩ (Nat.le_of_ble_eq_true rfl) (fun u56 r56 h56 => ?_)
  obtain ⟨⟨q56, o56, d56, w56, x56⟩, rfl⟩ := h56
  have P56 := P44.trans q56 (by decide)
  refine ab_aload_n X 0 d_PT_chooseForms_59 rfl rfl ?_
  refine ab_gR X fl_PT_20 d_PT_chooseForms_60 (by first | assumption | decide | (show _ < 124; omega) | (show _ < 61; omega) | (show _ < 20; omega)) (P56.1.pt1 (by first | assumption | decide | omega)) ?_
  refine ab_callV (as := [ab_O 3 (3 * (pq + 1))]) X (fun h => by cases h) (f_FM_with u56 60 6 0 (3 * (pq + 1)) 0 1 (fun i => 3 * (cp ch 8 pq i + 1) + cj cn 8 pq i) q56.1 (by decide) (by omega) d56 rfl (by decide)) lk_PT_69 d_PT_chooseForms_63 rfl rfl (by first | assumption | decide | (show _ < 124; omega) | (show _ < 61; omega) | (show _ < 20; omega)) ⟨by first | exact Nat.le_of_ble_eq_true rfl | (simp only [ab_rm]; omega), by first | exact Nat.le_of_ble_eq_true rfl | (simp only [ab_rm]; omega)⟩ ⟨by first | exact Nat.le_of_ble_eq_true rfl | (simp only [ab_rm]; omega), by first | exact Nat.le_of_ble_eq_true rfl | (simp only [ab_rm]; omega)⟩ (Nat.le_of_ble_eq_true rfl) (fun u63 r63 h63 => ?_)
  obtain ⟨⟨q63, o63, d63, w63, x63⟩, rfl⟩ := h63
  have P63 := P56.trans q63 (by decide)
  have R66 := ci_done (q56.trans q63 (by decide)) d63.1 d63.2.2.2.1 (by decide) (ci_cl6 (by decide))
  have o6 := o56.trans o63
  have F8 : Fw kd ar cn ch u63 pq 60 8 := d63
  have g63 : gX (fun i => i = (3 * (pq + 1)) ∨ i = (3 * (pq + 1) + 1) ∨ i = (3 * (pq + 1) + 2) ∨ i = 60) (fun i => i = (2 * (3 * (pq + 1) + 1) + 1)) u u63 := g44.trans (o6.gx.wk (fun i hi => by omega) (fun i hi => hi))
  have o4 : fO (fun i => i = (3 * (pq + 1) + 1) ∨ i = 60) u35 u63 := o44.trans (o6.wk (fun i hi => Or.inr hi))
  refine ab_callV (as := [ab_O 3 60]) X (fun h => by cases h) (x_FM_off u63 M kd ar cn lf ch Y R W hB pq hpM 8 1 (3 * (pq + 1) + 1) _ hw8 F8 (kCs.of W hpM hw8 (C.ck.gx g63 (fun i hi => by omega) (fun i hi => by omega) hP19) (fun _ => kB.fr o4 (by omega))) (b44.fr o6 (by omega)) R66.1 (by omega)) lk_PT_73 d_PT_chooseForms_66 rfl rfl (by first | assumption | decide | (show _ < 124; omega) | (show _ < 61; omega) | (show _ < 20; omega)) ⟨by first | exact Nat.le_of_ble_eq_true rfl | (simp only [ab_rm]; omega), by first | exact Nat.le_of_ble_eq_true rfl | (simp only [ab_rm]; omega)⟩ ⟨by first | exact Nat.le_of_ble_eq_true rfl | (simp only [ab_rm]; omega), by first | exact Nat.le_of_ble_eq_true rfl | (simp only [ab_rm]; omega)⟩ (Nat.le_of_ble_eq_true rfl) (fun u66 r66 h66 => ?_)
  obtain ⟨⟨q66, o66, b66⟩, rfl⟩ := h66
  have P66 := P63.trans q66 (by decide)
  rw [y1] at b66
  obtain ⟨fD, wD, gD, -, -⟩ := b66
  have o66' : fO (fun i => i = (3 * (pq + 1) + 1) ∨ i = 60) u35 u66 := o4.trans (o66.wk (fun i hi => Or.inl hi))
  have g66 : gX (fun i => i = (3 * (pq + 1)) ∨ i = (3 * (pq + 1) + 1) ∨ i = (3 * (pq + 1) + 2) ∨ i = 60) (fun i => i = (2 * (3 * (pq + 1) + 1) + 1)) u u66 := g35.trans (o66'.gx.wk (fun i hi => by omega) (fun i hi => hi))
  have y5 : u66.1 3 (3 * (pq + 1) + 2) 4 = nI 0 := (o66'.1 _ _ _ (by omega)).trans y4
  refine ab_aload_n X 0 d_PT_chooseForms_69 rfl rfl ?_
  refine ab_gR X fl_PT_24 d_PT_chooseForms_70 (by first | assumption | decide | (show _ < 124; omega) | (show _ < 61; omega) | (show _ < 20; omega)) (P66.1.pt2 (by first | assumption | decide | omega)) ?_
  refine ab_callV (as := []) X (fun h => by cases h) (x_FM_mkR u66 M kd ar cn lf ch Y R W hB pq hpM (Y pq 1).1 hwD fD (C.ck.gx g66 (fun i hi => by omega) (fun i hi => by omega) hP19) (dn.gx g66) F.2 P66.1) lk_PT_76 d_PT_chooseForms_73 rfl rfl (by first | assumption | decide | (show _ < 124; omega) | (show _ < 61; omega) | (show _ < 20; omega)) ⟨by first | exact Nat.le_of_ble_eq_true rfl | (simp only [ab_rm]; omega), by first | exact Nat.le_of_ble_eq_true rfl | (simp only [ab_rm]; omega)⟩ ⟨by first | exact Nat.le_of_ble_eq_true rfl | (simp only [ab_rm]; omega), by first | exact Nat.le_of_ble_eq_true rfl | (simp only [ab_rm]; omega)⟩ (Nat.le_of_ble_eq_true rfl) (fun u73 r73 h73 => ?_)
  obtain ⟨⟨q73, o73, r73⟩, rfl⟩ := h73
  have P73 := P66.trans q73 (by decide)
  have g73 : gX (fun i => i = (3 * (pq + 1)) ∨ i = (3 * (pq + 1) + 1) ∨ i = (3 * (pq + 1) + 2) ∨ i = 60) (fun i => i = (2 * (3 * (pq + 1) + 1) + 1)) u u73 := g66.trans o73.gx
  have h73 : gX (fun _ => False) (fun i => i = (2 * (3 * (pq + 1) + 1) + 1)) u66 u73 := o73.gx
  refine ab_aload_n X 0 d_PT_chooseForms_76 rfl rfl ?_
  refine ab_aload_n X 1 d_PT_chooseForms_77 rfl rfl ?_
  refine ab_callV (as := [ab_O 3 60]) X (fun h => by cases h) (x_PT_waysV u73 M kd ar cn lf ch Y R W hB pq hpM (mm.cp P73 (by decide) (by decide)) P73.1 ((o73.1 _ _ _ (by omega)).trans y5) (C.ck.gx g73 (fun i hi => by omega) (fun i hi => by omega) hP19) ((kB.fr o66' (by omega)).gx h73 (fun z => z) (fun z => absurd z (by decide)))) lk_PT_79 d_PT_chooseForms_78 rfl rfl (by first | assumption | decide | (show _ < 124; omega) | (show _ < 61; omega) | (show _ < 20; omega)) ⟨by first | exact Nat.le_of_ble_eq_true rfl | (simp only [ab_rm]; omega), by first | exact Nat.le_of_ble_eq_true rfl | (simp only [ab_rm]; omega)⟩ ⟨by first | exact Nat.le_of_ble_eq_true rfl | (simp only [ab_rm]; omega), by first | exact Nat.le_of_ble_eq_true rfl | (simp only [ab_rm]; omega)⟩ (Nat.le_of_ble_eq_true rfl) (fun u78 r78 h78 => ?_)
  obtain ⟨⟨q78, o78, b78⟩, rfl⟩ := h78
  have P78 := P73.trans q78 (by decide)
  rw [y2] at b78
  obtain ⟨fV, wV, gV, -, -⟩ := b78
  have g78 : gX (fun i => i = (3 * (pq + 1)) ∨ i = (3 * (pq + 1) + 1) ∨ i = (3 * (pq + 1) + 2) ∨ i = 60) (fun i => i = (2 * (3 * (pq + 1) + 1) + 1)) u u78 := g73.trans (o78.gx.wk (fun i hi => by omega) (fun i hi => hi))
  exact ab_retv X hr0 hlk d_PT_chooseForms_81 ⟨⟨P78, fun q hq1 hq2 j hj => by
    by_cases z : q = pq
    · subst z
      have j3 : j = 0 ∨ j = 1 ∨ j = 2 := by omega
      rcases j3 with rfl | rfl | rfl
      · exact ⟨((fB.fr o66' (by omega)).gx h73 (fun z => z)).fr o78 (by omega), ((kB.fr o66' (by omega)).gx h73 (fun z => z) (fun z => absurd z (by decide))).fr o78 (by omega)⟩
      · exact ⟨(fD.gx h73 (fun z => z)).fr o78 (by omega), (o78.1 _ _ _ (by omega)).trans ((o73.1 _ _ _ (by omega)).trans wD), (o78.1 _ _ _ (by omega)).trans ((o73.1 _ _ _ (by omega)).trans gD), fun _ => r73.cong (fun k => o78.1 _ _ _ (by omega)) (fun k => o78.1 _ _ _ (by omega))⟩
      · exact ⟨fV, wV, gV, fun z => absurd z (by decide)⟩
    · exact (C.gx g78 (fun i hi => by omega) (fun i hi => by omega) hP19) q (by omega) hq2 j hj, dn.gx g78, g78⟩, rfl⟩
end SaXChoose

