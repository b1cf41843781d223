/-! A part's three forms are chosen: how many words they say. -/
/-- of the forms only these have changed -/
def gO (A : Nat → Prop) (u u' : ab_S) : Prop := (∀ i k, ¬ A i → u'.1 3 i k = u.1 3 i k) ∧ ∀ i k, ¬ A i → u'.2.1 9 i k = u.2.1 9 i k
theorem fO.g {A : Nat → Prop} {u u' : ab_S} (h : fO A u u') : gO A u u' := ⟨fun i k z => h.1 _ _ _ (fun y => z y.2.1), fun i k z => h.2 _ _ _ (fun y => z y.2)⟩
theorem gO.trans {A : Nat → Prop} {u u1 u2 : ab_S} (h : gO A u u1) (g : gO A u1 u2) : gO A u u2 := ⟨fun i k z => (g.1 i k z).trans (h.1 i k z), fun i k z => (g.2 i k z).trans (h.2 i k z)⟩
theorem gO.wk {A B : Nat → Prop} {u u1 : ab_S} (h : gO A u u1) (g : ∀ i, A i → B i) : gO B u u1 := ⟨fun i k z => h.1 i k (fun y => z (g i y)), fun i k z => h.2 i k (fun y => z (g i y))⟩
theorem gO.cp {A : Nat → Prop} {K : List Nat} {u u' : ab_S} (g : cP K u u') (h3 : ¬ 3 ∈ K) (h9 : ¬ 9 ∈ K) : gO A u u' := ⟨fun i k _ => (g.2.2.1 3 i k h3).1, fun i k _ => (g.2.2.1 9 i k h9).2⟩
theorem fw.gr {A B : Nat → Prop} {u u' : ab_S} (o : gO B u u') (hB : ∀ g, A g → ¬ B g) : ∀ (d f n sz : Nat), fw A u d f n sz → fw A u' d f n sz := by
  intro d
  induction d with
  | zero => intro f n sz h; exact h.elim
  | succ d ih =>
    rintro f n sz ⟨hA, r, nc, mk, nd, g, ws, ss, ⟨b1, b2, b3, b4, b5⟩, a2, a3, a4, a5, a6, a7⟩
    have hf := hB f hA.1
    exact ⟨hA, r, nc, mk, nd, g, ws, ss, ⟨(o.1 _ _ hf).trans b1, (o.1 _ _ hf).trans b2, (o.1 _ _ hf).trans b3, (o.1 _ _ hf).trans b4, fun i hi => (o.2 _ _ hf).trans (b5 i hi)⟩, a2, a3, a4, (o.1 _ _ hf).trans a5, a6, fun i hi => ih _ _ _ (a7 i hi)⟩
theorem fB.gr {A B : Nat → Prop} {d S f : Nat} {u u' : ab_S} {o : Option Nat} (h : fB A d S u f o) (g : gO B u u') (hB : ∀ i, A i → ¬ B i) (hf : ¬ B f) : fB A d S u' f o := by
  cases o with
  | none => exact (g.1 _ _ hf).trans h
  | some w =>
    obtain ⟨sz, h1, h2⟩ := h
    exact ⟨sz, h1, h2.gr g (fun i hi => by rcases hi with z | z; exact hB i z; rw [z]; exact hf) _ _ _ _⟩
theorem KK.gr {cn lf : Nat → Nat} {ch L : Nat → Nat → Nat} {A B : Nat → Prop} {d pq : Nat} {u u' : ab_S} (h : KK cn lf ch L A d pq u) (o : gO B u u') (hB : ∀ g, A g → ¬ B g) : KK cn lf ch L A d pq u' := fun i hi j hj => by
  obtain ⟨sz, a, b⟩ := h i hi j hj
  exact ⟨sz, a, b.gr o hB _ _ _ _⟩
theorem KK.up {cn lf : Nat → Nat} {ch L : Nat → Nat → Nat} {A A' : Nat → Prop} {d d' pq : Nat} {u : ab_S} (h : KK cn lf ch L A d pq u) (hA : ∀ i, A i → A' i) (hd : d ≤ d') : KK cn lf ch L A' d' pq u := fun i hi j hj => by
  obtain ⟨sz, a, b⟩ := h i hi j hj
  exact ⟨sz, a, fw.up _ _ _ _ _ hd (b.wk hA _ _ _ _)⟩
section SaChoose
variable {l : Launch} {D : va_G} {ca : Nat → ClassId}
/-- a leaf is offered -/
theorem f_FM_leaf (u : ab_S) (A : Nat → Prop) (d S f : Nat) (mk nd : Int32) (g : Nat → Nat) (o : Option Nat) (F : FD u 60 1 mk nd 0 g) (hS : 1 ≤ S) (B : fB A (d + 1) S u f o) (h : CI u) (hA : ¬ A f) (hf : f < 60) : ab_C false l D ca y_FM_offer b_FM_offer 6 none 3 ab_nQ u [ab_O 3 f, ab_O 3 60] (fun u' v => (cP [3, 9] u u' ∧ fO (fun i => i = f) u u' ∧ fB A (d + 1) S u' f (some (omin o 1))) ∧ v = none) :=
  f_FM_off u A d S f 1 0 mk nd g (fun _ => 0) (fun _ => 0) o F ⟨by decide, by decide, by decide, by unfold shp; omega⟩ (Nat.le_of_ble_eq_true rfl) (Nat.le_of_ble_eq_true rfl) hS B (fun i hi => absurd hi (Nat.not_lt_zero i)) h hA hf
/-- one form in a form -/
theorem f_FM_one (u : ab_S) (A : Nat → Prop) (d S f r x w sz : Nat) (mk nd : Int32) (g : Nat → Nat) (o : Option Nat) (hg : g 0 = x) (F : FD u 60 r mk nd 1 g) (hr : r = 3 ∨ r = 6) (k : fw A u d x w sz) (hw : w ≤ 800) (hS : 1 + sz ≤ S) (B : fB A (d + 1) S u f o) (h : CI u) (hA : ¬ A f) (hf : f < 60) : ab_C false l D ca y_FM_offer b_FM_offer 6 none 3 ab_nQ u [ab_O 3 f, ab_O 3 60] (fun u' v => (cP [3, 9] u u' ∧ fO (fun i => i = f) u u' ∧ fB A (d + 1) S u' f (some (omin o (w + (if r = 3 then 1 else 4))))) ∧ v = none) := by
  have e : cwn r mk 1 (sm (fun _ => w) 1) = w + (if r = 3 then 1 else 4) := by
    have z : sm (fun _ => w) 1 = w := by simp [sm]
    rw [z]
    rcases hr with rfl | rfl <;> rfl
  have e2 : sm (fun _ => sz) 1 = sz := by simp [sm]
  have z : sm (fun _ => w) 1 = w := by simp [sm]
  have q := f_FM_off (l := l) (D := D) (ca := ca) u A d S f r 1 mk nd g (fun _ => w) (fun _ => sz) o F ⟨by omega, by omega, by decide, by unfold shp; omega⟩ (by rw [e]; split <;> omega) (by rw [z]; omega) (by rw [e2]; exact hS) B (fun i hi => by obtain rfl : i = 0 := (by omega); rw [hg]; exact k) h hA hf
  rw [e] at q
  exact q
set_option maxRecDepth 100000 in
set_option maxHeartbeats 1000000 in
theorem f_PT_waysD (u : ab_S) (M : Nat) (kd ar cn lf : Nat → Nat) (ch L : Nat → Nat → Nat) (W : tW M kd ar cn lf ch) (pq : Nat) (hpM : pq < M) (hLb : ∀ q, q < M → ∀ j, j < 3 → L q j ≤ 9 * lf q - 4 + (if j = 2 then 1 else 0)) (h : CI u) (mm : pm kd ar cn ch pq u) (A : Nat → Prop) (d S f : Nat) (hA : ¬ A f) (hA6 : ¬ A 60) (hf : f < 60) (hS : 4 * lf pq - 3 ≤ S) (K : KK cn lf ch L A d pq u) (o : Option Nat) (B : fB A (d + 1) S u f o) : ab_C false l D ca y_PT_offerWaysOfD b_PT_offerWaysOfD 3 none 5 ab_nQ u [ab_O 2 (pq + 1), ab_O 3 f, ab_O 3 60] (fun u' v => (cP [3, 9] u u' ∧ fO (fun i => i = f ∨ i = 60) u u' ∧ fB A (d + 1) S u' f (dW kd cn ch L pq o)) ∧ v = none) := by
  refine ab_C.of (by decide) (Nat.le_of_ble_eq_true rfl) ?_
  intro p e s m args below meth c ad X hZ hr0 hlk
  have P0 : cP [3, 9] u u := cQ.rf h
  have hP19 := W.2.1
  obtain ⟨⟨l1, l2, k1, k7, r9⟩, -, kb⟩ := W.2.2 pq hpM
  obtain ⟨m4, m5, m6, m7⟩ := id mm
  have ek : u.1 2 (pq + 1) 4 = ab_kinds (kd pq - 1) := by rw [m4, ck_kd (kd pq - 1) (by omega), show kd pq - 1 + 1 = kd pq by omega]
  have nA : ∀ i, A i → ¬ i = 60 := fun i hi e => hA6 (by rw [← e]; exact hi)
  have nO : ∀ i, A i → ¬ (i = f ∨ i = 60) := fun i hi e => e.elim (fun z => hA (by rw [← z]; exact hi)) (nA i hi)
  have cs : kd pq = 1 ∨ (kd pq ≠ 1 ∧ kd pq < 5) ∨ kd pq = 5 ∨ kd pq = 6 ∨ kd pq = 7 := by omega
  rcases cs with q1 | ⟨q1, q5⟩ | q5 | q6 | q7
  · have e4 : u.1 2 (pq + 1) 4 = nI 1 := by rw [m4, q1]; rfl
    have eW : dW kd cn ch L pq o = some (omin o 1) := if_pos q1
    refine ab_aload_n X 0 d_PT_offerWaysOfD_0 rfl rfl ?_
    refine ab_gI X fl_PT_30 d_PT_offerWaysOfD_1 (by first | assumption | decide | (show _ < 124; omega) | (show _ < 61; omega) | (show _ < 20; omega)) (e4) ?_
    refine ab_iconst (v := 1) X d_PT_offerWaysOfD_4 (by decide) ?_
    refine ab_icmp_ne X 34 d_PT_offerWaysOfD_5 rfl (fun hb => absurd (rfl) hb) (fun _ => ?_)
    refine ab_aload_n X 1 d_PT_offerWaysOfD_8 rfl rfl ?_
    refine ab_aload_n X 2 d_PT_offerWaysOfD_9 rfl rfl ?_
    refine ab_iconst (v := 1) X d_PT_offerWaysOfD_10 (by decide) ?_
    refine ab_sipush (v := 1000) X d_PT_offerWaysOfD_11 (by decide) ?_
    refine ab_aload_n X 0 d_PT_offerWaysOfD_14 rfl rfl ?_
    refine ab_gI X fl_PT_30 d_PT_offerWaysOfD_15 (by first | assumption | decide | (show _ < 124; omega) | (show _ < 61; omega) | (show _ < 20; omega)) (e4) ?_
    refine ab_imul X d_PT_offerWaysOfD_18 ?_
    refine ab_aload_n X 0 d_PT_offerWaysOfD_19 rfl rfl ?_
    refine ab_gI X fl_PT_34 d_PT_offerWaysOfD_20 (by first | assumption | decide | (show _ < 124; omega) | (show _ < 61; omega) | (show _ < 20; omega)) (rfl) ?_
    refine ab_iadd X d_PT_offerWaysOfD_23 ?_
    refine ab_iconst (v := 0) X d_PT_offerWaysOfD_24 (by decide) ?_
    refine ab_callV (as := [ab_I (nI 1), ab_I _, ab_I 0]) X (fun h => by cases h) (f_FM_start u 60 1 _ 0 z1f (P0.ex 60).1 (by decide)) lk_PT_65 d_PT_offerWaysOfD_25 rfl rfl (by first | assumption | decide | (show _ < 124; omega) | (show _ < 61; omega) | (show _ < 20; omega)) ⟨by first | exact Nat.le_of_ble_eq_true rfl | (simp only [ab_rm]; omega), by first | exact Nat.le_of_ble_eq_true rfl | (simp only [ab_rm]; omega)⟩ ⟨by first | exact Nat.le_of_ble_eq_true rfl | (simp only [ab_rm]; omega), by first | exact Nat.le_of_ble_eq_true rfl | (simp only [ab_rm]; omega)⟩ (Nat.le_of_ble_eq_true rfl) (fun u25 r25 h25 => ?_)
    obtain ⟨⟨q25, o25, d25, w25, x25⟩, rfl⟩ := h25
    have P25 := P0.trans q25 (by decide)
    have R28 := ci_done P25 d25.1 d25.2.2.2.1 (by decide) ci_cl1
    refine ab_callV (as := [ab_O 3 60]) X (fun h => by cases h) (f_FM_leaf u25 A d S f _ _ _ o d25 (by omega) (B.fr o25 nA (by omega)) R28.1 hA hf) lk_PT_73 d_PT_offerWaysOfD_28 rfl rfl (by first | assumption | decide | (show _ < 124; omega) | (show _ < 61; omega) | (show _ < 20; omega)) ⟨by first | exact Nat.le_of_ble_eq_true rfl | (simp only [ab_rm]; omega), by first | exact Nat.le_of_ble_eq_true rfl | (simp only [ab_rm]; omega)⟩ ⟨by first | exact Nat.le_of_ble_eq_true rfl | (simp only [ab_rm]; omega), by first | exact Nat.le_of_ble_eq_true rfl | (simp only [ab_rm]; omega)⟩ (Nat.le_of_ble_eq_true rfl) (fun u28 r28 h28 => ?_)
    obtain ⟨⟨q28, o28, b28⟩, rfl⟩ := h28
    have P28 := R28.trans q28 (by decide)
    refine ab_goto X 50 d_PT_offerWaysOfD_31 rfl ?_
    refine ab_aload_n X 0 d_PT_offerWaysOfD_50 rfl rfl ?_
    refine ab_gI X fl_PT_30 d_PT_offerWaysOfD_51 (by first | assumption | decide | (show _ < 124; omega) | (show _ < 61; omega) | (show _ < 20; omega)) (P28.ii (by decide) e4) ?_
    refine ab_bipush (v := 7) X d_PT_offerWaysOfD_54 (by decide) ?_
    refine ab_icmp_ne X 140 d_PT_offerWaysOfD_56 rfl (fun _ => ?_) (fun hb => absurd hb ((by decide)))
    exact ab_retv X hr0 hlk d_PT_offerWaysOfD_140 ⟨⟨P28, (o25.wk (fun _ z => Or.inr z)).trans (o28.wk (fun _ z => Or.inl z)), by rw [eW]; exact b28⟩, rfl⟩
  · have eW : dW kd cn ch L pq o = o := (if_neg q1).trans (if_pos q5)
    have n1 : ¬ u.1 2 (pq + 1) 4 = 1 := fun z => by rw [m4] at z; unfold ck at z; rw [if_pos q5] at z; exact q1 ((nI_eq (b := 1) (by omega) (by decide)).mp z)
    have n7 : ¬ u.1 2 (pq + 1) 4 = 7 := fun z => by rw [m4] at z; unfold ck at z; rw [if_pos q5] at z; exact absurd ((nI_eq (b := 7) (by omega) (by decide)).mp z) (by omega)
    refine ab_aload_n X 0 d_PT_offerWaysOfD_0 rfl rfl ?_
    refine ab_gI X fl_PT_30 d_PT_offerWaysOfD_1 (by first | assumption | decide | (show _ < 124; omega) | (show _ < 61; omega) | (show _ < 20; omega)) (rfl) ?_
    refine ab_iconst (v := 1) X d_PT_offerWaysOfD_4 (by decide) ?_
    refine ab_icmp_ne X 34 d_PT_offerWaysOfD_5 rfl (fun _ => ?_) (fun hb => absurd hb (n1))
    refine ab_aload_n X 0 d_PT_offerWaysOfD_34 rfl rfl ?_
    refine ab_gI X fl_PT_30 d_PT_offerWaysOfD_35 (by first | assumption | decide | (show _ < 124; omega) | (show _ < 61; omega) | (show _ < 20; omega)) (ek) ?_
    refine ab_callSN (as := [ab_I (ab_kinds (kd pq - 1))]) X (fun h => by cases h) (t_PF_leafk u (kd pq - 1) h (by omega)) ls_PT_44 d_PT_offerWaysOfD_38 rfl rfl ⟨by first | exact Nat.le_of_ble_eq_true rfl | (simp only [ab_rm]; omega), by first | exact Nat.le_of_ble_eq_true rfl | (simp only [ab_rm]; omega)⟩ ⟨by first | exact Nat.le_of_ble_eq_true rfl | (simp only [ab_rm]; omega), by first | exact Nat.le_of_ble_eq_true rfl | (simp only [ab_rm]; omega)⟩ (Nat.le_of_ble_eq_true rfl) (fun u38 r38 h38 => ?_)
    obtain ⟨e38, rfl⟩ := h38
    subst u38
    refine ab_if_ne X 50 d_PT_offerWaysOfD_41 rfl (fun _ => ?_) (fun hb => absurd hb ((by rw [if_pos (by omega)]; decide)))
    refine ab_aload_n X 0 d_PT_offerWaysOfD_50 rfl rfl ?_
    refine ab_gI X fl_PT_30 d_PT_offerWaysOfD_51 (by first | assumption | decide | (show _ < 124; omega) | (show _ < 61; omega) | (show _ < 20; omega)) (rfl) ?_
    refine ab_bipush (v := 7) X d_PT_offerWaysOfD_54 (by decide) ?_
    refine ab_icmp_ne X 140 d_PT_offerWaysOfD_56 rfl (fun _ => ?_) (fun hb => absurd hb (n7))
    exact ab_retv X hr0 hlk d_PT_offerWaysOfD_140 ⟨⟨P0, fO.rf, by rw [eW]; exact B⟩, rfl⟩
  · have e4 : u.1 2 (pq + 1) 4 = nI 6 := by rw [m4, q5]; rfl
    have eW : dW kd cn ch L pq o = some (omin o (lA kd cn ch L pq)) := (if_neg (by omega)).trans ((if_neg (by omega)).trans (if_neg (by omega)))
    refine ab_aload_n X 0 d_PT_offerWaysOfD_0 rfl rfl ?_
    refine ab_gI X fl_PT_30 d_PT_offerWaysOfD_1 (by first | assumption | decide | (show _ < 124; omega) | (show _ < 61; omega) | (show _ < 20; omega)) (e4) ?_
    refine ab_iconst (v := 1) X d_PT_offerWaysOfD_4 (by decide) ?_
    refine ab_icmp_ne X 34 d_PT_offerWaysOfD_5 rfl (fun _ => ?_) (fun hb => absurd hb ((by decide)))
    refine ab_aload_n X 0 d_PT_offerWaysOfD_34 rfl rfl ?_
    refine ab_gI X fl_PT_30 d_PT_offerWaysOfD_35 (by first | assumption | decide | (show _ < 124; omega) | (show _ < 61; omega) | (show _ < 20; omega)) (ek) ?_
    refine ab_callSN (as := [ab_I (ab_kinds (kd pq - 1))]) X (fun h => by cases h) (t_PF_leafk u (kd pq - 1) h (by omega)) ls_PT_44 d_PT_offerWaysOfD_38 rfl rfl ⟨by first | exact Nat.le_of_ble_eq_true rfl | (simp only [ab_rm]; omega), by first | exact Nat.le_of_ble_eq_true rfl | (simp only [ab_rm]; omega)⟩ ⟨by first | exact Nat.le_of_ble_eq_true rfl | (simp only [ab_rm]; omega), by first | exact Nat.le_of_ble_eq_true rfl | (simp only [ab_rm]; omega)⟩ (Nat.le_of_ble_eq_true rfl) (fun u38 r38 h38 => ?_)
    obtain ⟨e38, rfl⟩ := h38
    subst u38
    refine ab_if_ne X 50 d_PT_offerWaysOfD_41 rfl (fun hb => absurd ((by rw [if_neg (by omega)])) hb) (fun _ => ?_)
    refine ab_aload_n X 0 d_PT_offerWaysOfD_44 rfl rfl ?_
    refine ab_aload_n X 1 d_PT_offerWaysOfD_45 rfl rfl ?_
    refine ab_aload_n X 2 d_PT_offerWaysOfD_46 rfl rfl ?_
    refine ab_callV (as := [ab_O 3 f, ab_O 3 60]) X (fun h => by cases h) (f_PT_offerAside u M kd ar cn lf ch L W pq hpM hLb h mm A d S f hA hA6 hf hS K o B (by omega)) lk_PT_89 d_PT_offerWaysOfD_47 rfl rfl (by first | assumption | decide | (show _ < 124; omega) | (show _ < 61; omega) | (show _ < 20; omega)) ⟨by first | exact Nat.le_of_ble_eq_true rfl | (simp only [ab_rm]; omega), by first | exact Nat.le_of_ble_eq_true rfl | (simp only [ab_rm]; omega)⟩ ⟨by first | exact Nat.le_of_ble_eq_true rfl | (simp only [ab_rm]; omega), by first | exact Nat.le_of_ble_eq_true rfl | (simp only [ab_rm]; omega)⟩ (Nat.le_of_ble_eq_true rfl) (fun u47 r47 h47 => ?_)
    obtain ⟨⟨q47, o47, b47⟩, rfl⟩ := h47
    have P47 := P0.trans q47 (by decide)
    refine ab_aload_n X 0 d_PT_offerWaysOfD_50 rfl rfl ?_
    refine ab_gI X fl_PT_30 d_PT_offerWaysOfD_51 (by first | assumption | decide | (show _ < 124; omega) | (show _ < 61; omega) | (show _ < 20; omega)) (P47.ii (by decide) e4) ?_
    refine ab_bipush (v := 7) X d_PT_offerWaysOfD_54 (by decide) ?_
    refine ab_icmp_ne X 140 d_PT_offerWaysOfD_56 rfl (fun _ => ?_) (fun hb => absurd hb ((by decide)))
    exact ab_retv X hr0 hlk d_PT_offerWaysOfD_140 ⟨⟨P47, o47, by rw [eW]; exact b47⟩, rfl⟩
  · have e4 : u.1 2 (pq + 1) 4 = nI 7 := by rw [m4, q6]; rfl
    obtain ⟨n2, n4, n5, n7, b5, b6⟩ := kb (by omega)
    have c2 := n5 (by omega)
    have l6 : lf (ch pq 0) + lf (ch pq 1) ≤ lf pq := by rw [c2] at b6; simpa [sm] using b6
    obtain ⟨s00, t00, k00⟩ := K 0 (by omega) 0 (by decide)
    obtain ⟨s01, t01, k01⟩ := K 0 (by omega) 1 (by decide)
    obtain ⟨s10, t10, k10⟩ := K 1 (by omega) 0 (by decide)
    obtain ⟨s11, t11, k11⟩ := K 1 (by omega) 1 (by decide)
    have x0 := (b5 0 (by omega)).2
    have x1 := (b5 1 (by omega)).2
    have y0 := (W.2.2 _ x0).1
    have y1 := (W.2.2 _ x1).1
    have z00 := hLb _ x0 0 (by decide)
    have z01 := hLb _ x0 1 (by decide)
    have z10 := hLb _ x1 0 (by decide)
    have z11 := hLb _ x1 1 (by decide)
    simp only [if_pos, if_neg, Nat.reduceEqDiff, if_true, if_false] at t00 t01 t10 t11 z00 z01 z10 z11
    have eW : dW kd cn ch L pq o = some (min (min (min (omin o (lA kd cn ch L pq)) (L (ch pq 0) 1 + L (ch pq 1) 1 + 3)) (L (ch pq 0) 1 + L (ch pq 1) 0 + 3)) (L (ch pq 0) 0 + L (ch pq 1) 1 + 3)) := (if_neg (by omega)).trans ((if_neg (by omega)).trans (if_pos q6))
    refine ab_aload_n X 0 d_PT_offerWaysOfD_0 rfl rfl ?_
    refine ab_gI X fl_PT_30 d_PT_offerWaysOfD_1 (by first | assumption | decide | (show _ < 124; omega) | (show _ < 61; omega) | (show _ < 20; omega)) (e4) ?_
    refine ab_iconst (v := 1) X d_PT_offerWaysOfD_4 (by decide) ?_
    refine ab_icmp_ne X 34 d_PT_offerWaysOfD_5 rfl (fun _ => ?_) (fun hb => absurd hb ((by decide)))
    refine ab_aload_n X 0 d_PT_offerWaysOfD_34 rfl rfl ?_
    refine ab_gI X fl_PT_30 d_PT_offerWaysOfD_35 (by first | assumption | decide | (show _ < 124; omega) | (show _ < 61; omega) | (show _ < 20; omega)) (ek) ?_
    refine ab_callSN (as := [ab_I (ab_kinds (kd pq - 1))]) X (fun h => by cases h) (t_PF_leafk u (kd pq - 1) h (by omega)) ls_PT_44 d_PT_offerWaysOfD_38 rfl rfl ⟨by first | exact Nat.le_of_ble_eq_true rfl | (simp only [ab_rm]; omega), by first | exact Nat.le_of_ble_eq_true rfl | (simp only [ab_rm]; omega)⟩ ⟨by first | exact Nat.le_of_ble_eq_true rfl | (simp only [ab_rm]; omega), by first | exact Nat.le_of_ble_eq_true rfl | (simp only [ab_rm]; omega)⟩ (Nat.le_of_ble_eq_true rfl) (fun u38 r38 h38 => ?_)
    obtain ⟨e38, rfl⟩ := h38
    subst u38
    refine ab_if_ne X 50 d_PT_offerWaysOfD_41 rfl (fun hb => absurd ((by rw [if_neg (by omega)])) hb) (fun _ => ?_)
    refine ab_aload_n X 0 d_PT_offerWaysOfD_44 rfl rfl ?_
    refine ab_aload_n X 1 d_PT_offerWaysOfD_45 rfl rfl ?_
    refine ab_aload_n X 2 d_PT_offerWaysOfD_46 rfl rfl ?_
    refine ab_callV (as := [ab_O 3 f, ab_O 3 60]) X (fun h => by cases h) (f_PT_offerAside u M kd ar cn lf ch L W pq hpM hLb h mm A d S f hA hA6 hf hS K o B (by omega)) lk_PT_89 d_PT_offerWaysOfD_47 rfl rfl (by first | assumption | decide | (show _ < 124; omega) | (show _ < 61; omega) | (show _ < 20; omega)) ⟨by first | exact Nat.le_of_ble_eq_true rfl | (simp only [ab_rm]; omega), by first | exact Nat.le_of_ble_eq_true rfl | (simp only [ab_rm]; omega)⟩ ⟨by first | exact Nat.le_of_ble_eq_true rfl | (simp only [ab_rm]; omega), by first | exact Nat.le_of_ble_eq_true rfl | (simp only [ab_rm]; omega)⟩ (Nat.le_of_ble_eq_true rfl) (fun u47 r47 h47 => ?_)
    obtain ⟨⟨q47, o47, b47⟩, rfl⟩ := h47
    have P47 := P0.trans q47 (by decide)
    refine ab_aload_n X 0 d_PT_offerWaysOfD_50 rfl rfl ?_
    refine ab_gI X fl_PT_30 d_PT_offerWaysOfD_51 (by first | assumption | decide | (show _ < 124; omega) | (show _ < 61; omega) | (show _ < 20; omega)) (P47.ii (by decide) e4) ?_
    refine ab_bipush (v := 7) X d_PT_offerWaysOfD_54 (by decide) ?_
    refine ab_icmp_ne X 140 d_PT_offerWaysOfD_56 rfl (fun hb => absurd (rfl) hb) (fun _ => ?_)
    refine ab_aload_n X 0 d_PT_offerWaysOfD_59 rfl rfl ?_
    refine ab_gI X fl_PT_37 d_PT_offerWaysOfD_60 (by first | assumption | decide | (show _ < 124; omega) | (show _ < 61; omega) | (show _ < 20; omega)) (P47.ii (by decide) m6) ?_
    refine ab_iconst (v := 2) X d_PT_offerWaysOfD_63 (by decide) ?_
    refine ab_icmp_ne X 140 d_PT_offerWaysOfD_64 rfl (fun hb => absurd ((by rw [c2]; rfl)) hb) (fun _ => ?_)
    refine ab_aload_n X 1 d_PT_offerWaysOfD_67 rfl rfl ?_
    refine ab_aload_n X 2 d_PT_offerWaysOfD_68 rfl rfl ?_
    refine ab_bipush (v := 7) X d_PT_offerWaysOfD_69 (by decide) ?_
    refine ab_aload_n X 0 d_PT_offerWaysOfD_71 rfl rfl ?_
    refine ab_gR X fl_PT_11 d_PT_offerWaysOfD_72 (by first | assumption | decide | (show _ < 124; omega) | (show _ < 61; omega) | (show _ < 20; omega)) (P47.1.pt0 (by first | assumption | decide | omega)) ?_
    refine ab_iconst (v := 0) X d_PT_offerWaysOfD_75 (by decide) ?_
    refine ab_aalv X (0) ⟨rfl, _, fun _ => rfl⟩ d_PT_offerWaysOfD_76 (by first | assumption | decide | (show _ < 124; omega) | (show _ < 61; omega) | (show _ < 20; omega)) (rfl) (show 0 < 4 by decide) (ab_ln_lt _ _) (P47.rr (by decide) (m7 0 (by omega))) ?_
    refine ab_gR X fl_PT_24 d_PT_offerWaysOfD_77 (by first | assumption | decide | (show _ < 124; omega) | (show _ < 61; omega) | (show _ < 20; omega)) (P47.1.pt2 (by first | assumption | decide | omega)) ?_
    refine ab_aload_n X 0 d_PT_offerWaysOfD_80 rfl rfl ?_
    refine ab_gR X fl_PT_11 d_PT_offerWaysOfD_81 (by first | assumption | decide | (show _ < 124; omega) | (show _ < 61; omega) | (show _ < 20; omega)) (P47.1.pt0 (by first | assumption | decide | omega)) ?_
    refine ab_iconst (v := 1) X d_PT_offerWaysOfD_84 (by decide) ?_
    refine ab_aalv X (1) ⟨rfl, _, fun _ => rfl⟩ d_PT_offerWaysOfD_85 (by first | assumption | decide | (show _ < 124; omega) | (show _ < 61; omega) | (show _ < 20; omega)) (rfl) (show 1 < 4 by decide) (ab_ln_lt _ _) (P47.rr (by decide) (m7 1 (by omega))) ?_
    refine ab_gR X fl_PT_24 d_PT_offerWaysOfD_86 (by first | assumption | decide | (show _ < 124; omega) | (show _ < 61; omega) | (show _ < 20; omega)) (P47.1.pt2 (by first | assumption | decide | omega)) ?_
    refine ab_callS (as := [ab_O 3 f, ab_O 3 60, ab_I (nI 7), ab_O 3 (3 * (ch pq 0 + 1) + 1), ab_O 3 (3 * (ch pq 1 + 1) + 1)]) X (fun h => by cases h) (f_PT_offerTwo u47 A d S f _ _ 7 _ _ s01 s11 _ P47.1 hA hA6 hf (by omega) b47 (k01.fr o47 nO _ _ _ _) (k11.fr o47 nO _ _ _ _) (by omega) (by omega)) ls_PT_82 d_PT_offerWaysOfD_89 rfl rfl ⟨by first | exact Nat.le_of_ble_eq_true rfl | (simp only [ab_rm]; omega), by first | exact Nat.le_of_ble_eq_true rfl | (simp only [ab_rm]; omega)⟩ ⟨by first | exact Nat.le_of_ble_eq_true rfl | (simp only [ab_rm]; omega), by first | exact Nat.le_of_ble_eq_true rfl | (simp only [ab_rm]; omega)⟩ (Nat.le_of_ble_eq_true rfl) (fun u89 r89 h89 => ?_)
    obtain ⟨⟨q89, o89, b89⟩, rfl⟩ := h89
    have P89 := P47.trans q89 (by decide)
    refine ab_aload_n X 1 d_PT_offerWaysOfD_92 rfl rfl ?_
    refine ab_aload_n X 2 d_PT_offerWaysOfD_93 rfl rfl ?_
    refine ab_iconst (v := 5) X d_PT_offerWaysOfD_94 (by decide) ?_
    refine ab_aload_n X 0 d_PT_offerWaysOfD_95 rfl rfl ?_
    refine ab_gR X fl_PT_11 d_PT_offerWaysOfD_96 (by first | assumption | decide | (show _ < 124; omega) | (show _ < 61; omega) | (show _ < 20; omega)) (P89.1.pt0 (by first | assumption | decide | omega)) ?_
    refine ab_iconst (v := 0) X d_PT_offerWaysOfD_99 (by decide) ?_
    refine ab_aalv X (0) ⟨rfl, _, fun _ => rfl⟩ d_PT_offerWaysOfD_100 (by first | assumption | decide | (show _ < 124; omega) | (show _ < 61; omega) | (show _ < 20; omega)) (rfl) (show 0 < 4 by decide) (ab_ln_lt _ _) (P89.rr (by decide) (m7 0 (by omega))) ?_
    refine ab_gR X fl_PT_24 d_PT_offerWaysOfD_101 (by first | assumption | decide | (show _ < 124; omega) | (show _ < 61; omega) | (show _ < 20; omega)) (P89.1.pt2 (by first | assumption | decide | omega)) ?_
    refine ab_aload_n X 0 d_PT_offerWaysOfD_104 rfl rfl ?_
    refine ab_gR X fl_PT_11 d_PT_offerWaysOfD_105 (by first | assumption | decide | (show _ < 124; omega) | (show _ < 61; omega) | (show _ < 20; omega)) (P89.1.pt0 (by first | assumption | decide | omega)) ?_
    refine ab_iconst (v := 1) X d_PT_offerWaysOfD_108 (by decide) ?_
    refine ab_aalv X (1) ⟨rfl, _, fun _ => rfl⟩ d_PT_offerWaysOfD_109 (by first | assumption | decide | (show _ < 124; omega) | (show _ < 61; omega) | (show _ < 20; omega)) (rfl) (show 1 < 4 by decide) (ab_ln_lt _ _) (P89.rr (by decide) (m7 1 (by omega))) ?_
    refine ab_gR X fl_PT_20 d_PT_offerWaysOfD_110 (by first | assumption | decide | (show _ < 124; omega) | (show _ < 61; omega) | (show _ < 20; omega)) (P89.1.pt1 (by first | assumption | decide | omega)) ?_
    refine ab_callS (as := [ab_O 3 f, ab_O 3 60, ab_I (nI 5), ab_O 3 (3 * (ch pq 0 + 1) + 1), ab_O 3 (3 * (ch pq 1 + 1) + 0)]) X (fun h => by cases h) (f_PT_offerTwo u89 A d S f _ _ 5 _ _ s01 s10 _ P89.1 hA hA6 hf (by omega) b89 (k01.fr (o47.trans o89) nO _ _ _ _) (k10.fr (o47.trans o89) nO _ _ _ _) (by omega) (by omega)) ls_PT_82 d_PT_offerWaysOfD_113 rfl rfl ⟨by first | exact Nat.le_of_ble_eq_true rfl | (simp only [ab_rm]; omega), by first | exact Nat.le_of_ble_eq_true rfl | (simp only [ab_rm]; omega)⟩ ⟨by first | exact Nat.le_of_ble_eq_true rfl | (simp only [ab_rm]; omega), by first | exact Nat.le_of_ble_eq_true rfl | (simp only [ab_rm]; omega)⟩ (Nat.le_of_ble_eq_true rfl) (fun u113 r113 h113 => ?_)
    obtain ⟨⟨q113, o113, b113⟩, rfl⟩ := h113
    have P113 := P89.trans q113 (by decide)
    refine ab_aload_n X 1 d_PT_offerWaysOfD_116 rfl rfl ?_
    refine ab_aload_n X 2 d_PT_offerWaysOfD_117 rfl rfl ?_
    refine ab_iconst (v := 5) X d_PT_offerWaysOfD_118 (by decide) ?_
    refine ab_aload_n X 0 d_PT_offerWaysOfD_119 rfl rfl ?_
    refine ab_gR X fl_PT_11 d_PT_offerWaysOfD_120 (by first | assumption | decide | (show _ < 124; omega) | (show _ < 61; omega) | (show _ < 20; omega)) (P113.1.pt0 (by first | assumption | decide | omega)) ?_
    refine ab_iconst (v := 0) X d_PT_offerWaysOfD_123 (by decide) ?_
    refine ab_aalv X (0) ⟨rfl, _, fun _ => rfl⟩ d_PT_offerWaysOfD_124 (by first | assumption | decide | (show _ < 124; omega) | (show _ < 61; omega) | (show _ < 20; omega)) (rfl) (show 0 < 4 by decide) (ab_ln_lt _ _) (P113.rr (by decide) (m7 0 (by omega))) ?_
    refine ab_gR X fl_PT_20 d_PT_offerWaysOfD_125 (by first | assumption | decide | (show _ < 124; omega) | (show _ < 61; omega) | (show _ < 20; omega)) (P113.1.pt1 (by first | assumption | decide | omega)) ?_
    refine ab_aload_n X 0 d_PT_offerWaysOfD_128 rfl rfl ?_
    refine ab_gR X fl_PT_11 d_PT_offerWaysOfD_129 (by first | assumption | decide | (show _ < 124; omega) | (show _ < 61; omega) | (show _ < 20; omega)) (P113.1.pt0 (by first | assumption | decide | omega)) ?_
    refine ab_iconst (v := 1) X d_PT_offerWaysOfD_132 (by decide) ?_
    refine ab_aalv X (1) ⟨rfl, _, fun _ => rfl⟩ d_PT_offerWaysOfD_133 (by first | assumption | decide | (show _ < 124; omega) | (show _ < 61; omega) | (show _ < 20; omega)) (rfl) (show 1 < 4 by decide) (ab_ln_lt _ _) (P113.rr (by decide) (m7 1 (by omega))) ?_
    refine ab_gR X fl_PT_24 d_PT_offerWaysOfD_134 (by first | assumption | decide | (show _ < 124; omega) | (show _ < 61; omega) | (show _ < 20; omega)) (P113.1.pt2 (by first | assumption | decide | omega)) ?_
    refine ab_callS (as := [ab_O 3 f, ab_O 3 60, ab_I (nI 5), ab_O 3 (3 * (ch pq 0 + 1) + 0), ab_O 3 (3 * (ch pq 1 + 1) + 1)]) X (fun h => by cases h) (f_PT_offerTwo u113 A d S f _ _ 5 _ _ s00 s11 _ P113.1 hA hA6 hf (by omega) b113 (k00.fr ((o47.trans o89).trans o113) nO _ _ _ _) (k11.fr ((o47.trans o89).trans o113) nO _ _ _ _) (by omega) (by omega)) ls_PT_82 d_PT_offerWaysOfD_137 rfl rfl ⟨by first | exact Nat.le_of_ble_eq_true rfl | (simp only [ab_rm]; omega), by first | exact Nat.le_of_ble_eq_true rfl | (simp only [ab_rm]; omega)⟩ ⟨by first | exact Nat.le_of_ble_eq_true rfl | (simp only [ab_rm]; omega), by first | exact Nat.le_of_ble_eq_true rfl | (simp only [ab_rm]; omega)⟩ (Nat.le_of_ble_eq_true rfl) (fun u137 r137 h137 => ?_)
    obtain ⟨⟨q137, o137, b137⟩, rfl⟩ := h137
    have P137 := P113.trans q137 (by decide)
    exact ab_retv X hr0 hlk d_PT_offerWaysOfD_140 ⟨⟨P137, ((o47.trans o89).trans o113).trans o137, by rw [eW]; exact b137⟩, rfl⟩
  · have e4 : u.1 2 (pq + 1) 4 = nI 8 := by rw [m4, q7]; rfl
    have eW : dW kd cn ch L pq o = some (omin o (lA kd cn ch L pq)) := (if_neg (by omega)).trans ((if_neg (by omega)).trans (if_neg (by omega)))
    refine ab_aload_n X 0 d_PT_offerWaysOfD_0 rfl rfl ?_
    refine ab_gI X fl_PT_30 d_PT_offerWaysOfD_1 (by first | assumption | decide | (show _ < 124; omega) | (show _ < 61; omega) | (show _ < 20; omega)) (e4) ?_
    refine ab_iconst (v := 1) X d_PT_offerWaysOfD_4 (by decide) ?_
    refine ab_icmp_ne X 34 d_PT_offerWaysOfD_5 rfl (fun _ => ?_) (fun hb => absurd hb ((by decide)))
    refine ab_aload_n X 0 d_PT_offerWaysOfD_34 rfl rfl ?_
    refine ab_gI X fl_PT_30 d_PT_offerWaysOfD_35 (by first | assumption | decide | (show _ < 124; omega) | (show _ < 61; omega) | (show _ < 20; omega)) (ek) ?_
    refine ab_callSN (as := [ab_I (ab_kinds (kd pq - 1))]) X (fun h => by cases h) (t_PF_leafk u (kd pq - 1) h (by omega)) ls_PT_44 d_PT_offerWaysOfD_38 rfl rfl ⟨by first | exact Nat.le_of_ble_eq_true rfl | (simp only [ab_rm]; omega), by first | exact Nat.le_of_ble_eq_true rfl | (simp only [ab_rm]; omega)⟩ ⟨by first | exact Nat.le_of_ble_eq_true rfl | (simp only [ab_rm]; omega), by first | exact Nat.le_of_ble_eq_true rfl | (simp only [ab_rm]; omega)⟩ (Nat.le_of_ble_eq_true rfl) (fun u38 r38 h38 => ?_)
    obtain ⟨e38, rfl⟩ := h38
    subst u38
    refine ab_if_ne X 50 d_PT_offerWaysOfD_41 rfl (fun hb => absurd ((by rw [if_neg (by omega)])) hb) (fun _ => ?_)
    refine ab_aload_n X 0 d_PT_offerWaysOfD_44 rfl rfl ?_
    refine ab_aload_n X 1 d_PT_offerWaysOfD_45 rfl rfl ?_
    refine ab_aload_n X 2 d_PT_offerWaysOfD_46 rfl rfl ?_
    refine ab_callV (as := [ab_O 3 f, ab_O 3 60]) X (fun h => by cases h) (f_PT_offerAside u M kd ar cn lf ch L W pq hpM hLb h mm A d S f hA hA6 hf hS K o B (by omega)) lk_PT_89 d_PT_offerWaysOfD_47 rfl rfl (by first | assumption | decide | (show _ < 124; omega) | (show _ < 61; omega) | (show _ < 20; omega)) ⟨by first | exact Nat.le_of_ble_eq_true rfl | (simp only [ab_rm]; omega), by first | exact Nat.le_of_ble_eq_true rfl | (simp only [ab_rm]; omega)⟩ ⟨by first | exact Nat.le_of_ble_eq_true rfl | (simp only [ab_rm]; omega), by first | exact Nat.le_of_ble_eq_true rfl | (simp only [ab_rm]; omega)⟩ (Nat.le_of_ble_eq_true rfl) (fun u47 r47 h47 => ?_)
    obtain ⟨⟨q47, o47, b47⟩, rfl⟩ := h47
    have P47 := P0.trans q47 (by decide)
    refine ab_aload_n X 0 d_PT_offerWaysOfD_50 rfl rfl ?_
    refine ab_gI X fl_PT_30 d_PT_offerWaysOfD_51 (by first | assumption | decide | (show _ < 124; omega) | (show _ < 61; omega) | (show _ < 20; omega)) (P47.ii (by decide) e4) ?_
    refine ab_bipush (v := 7) X d_PT_offerWaysOfD_54 (by decide) ?_
    refine ab_icmp_ne X 140 d_PT_offerWaysOfD_56 rfl (fun _ => ?_) (fun hb => absurd hb ((by decide)))
    exact ab_retv X hr0 hlk d_PT_offerWaysOfD_140 ⟨⟨P47, o47, by rw [eW]; exact b47⟩, rfl⟩
end SaChoose

