/-! The tree as the reference has it, and its three forms: what holds of them between calls. -/
def sm (B : Nat → Nat) : Nat → Nat
  | 0 => 0
  | n + 1 => sm B n + B n
/-- P parts; of each its kind, argument, count, leaves inside, children -/
def tW (P : Nat) (kd ar cn lf : Nat → Nat) (ch : Nat → Nat → Nat) : Prop := 1 ≤ P ∧ P ≤ 19 ∧ ∀ p, p < P → (1 ≤ lf p ∧ lf p ≤ 10 ∧ 1 ≤ kd p ∧ kd p ≤ 7 ∧ ar p ≤ 999) ∧ (kd p < 5 → cn p = 0) ∧ (5 ≤ kd p → 2 ≤ cn p ∧ cn p ≤ 4 ∧ (kd p < 7 → cn p = 2) ∧ (kd p = 7 → 1 ≤ ar p ∧ ar p ≤ cn p) ∧ (∀ i, i < cn p → p < ch p i ∧ ch p i < P) ∧ sm (fun i => lf (ch p i)) (cn p) ≤ lf p)
def tR (P : Nat) (kd ar cn : Nat → Nat) (ch : Nat → Nat → Nat) (u : ab_S) : Prop := u.1 17 0 5 = nI P ∧ ∀ p, p < P → u.1 18 1 p = nI (kd p) ∧ u.1 18 2 p = nI (ar p) ∧ u.1 18 3 p = nI (cn p) ∧ ∀ i, i < cn p → u.1 18 4 (4 * p + i) = nI (ch p i)
section TR
variable {P : Nat} {kd ar cn lf : Nat → Nat} {ch : Nat → Nat → Nat} {u u' : ab_S}
theorem tR.fr (T : tR P kd ar cn ch u) {F : List Nat} (g : gP F u u') (h5 : ¬ 5 ∈ F) (h1 : ¬ 100 + 1 ∈ F) (h2 : ¬ 100 + 2 ∈ F) (h3 : ¬ 100 + 3 ∈ F) (h4 : ¬ 100 + 4 ∈ F) : tR P kd ar cn ch u' := ⟨g.fi h5 T.1, fun p hp => ⟨g.ai h1 (T.2 p hp).1, g.ai h2 (T.2 p hp).2.1, g.ai h3 (T.2 p hp).2.2.1, fun i hi => g.ai h4 ((T.2 p hp).2.2.2 i hi)⟩⟩
/-- the children of and, or -/
theorem tW.two (W : tW P kd ar cn lf ch) (T : tR P kd ar cn ch u) {p : Nat} (hp : p < P) (hk : kd p = 5 ∨ kd p = 6) : ∃ x y, u.1 18 4 (4 * p) = nI x ∧ u.1 18 4 (4 * p + 1) = nI y ∧ p < x ∧ x < P ∧ p < y ∧ y < P ∧ lf x + lf y ≤ lf p ∧ 1 ≤ lf x ∧ 1 ≤ lf y ∧ x = ch p 0 ∧ y = ch p 1 := by
  obtain ⟨w1, w2, w3⟩ := W
  obtain ⟨-, -, a3⟩ := w3 p hp
  obtain ⟨b1, b2, b3, b4, b5, b6⟩ := a3 (by omega)
  have b3 := b3 (by omega)
  have t := (T.2 p hp).2.2.2
  refine ⟨ch p 0, ch p 1, t 0 (by omega), t 1 (by omega), (b5 0 (by omega)).1, (b5 0 (by omega)).2, (b5 1 (by omega)).1, (b5 1 (by omega)).2, ?_, (w3 _ (b5 0 (by omega)).2).1.1, (w3 _ (b5 1 (by omega)).2).1.1, rfl, rfl⟩
  rw [b3] at b6
  simpa [sm] using b6
end TR
/-- which ways a form of a part of the kind k may have: j 0 for B, 1 for D, 2 for V -/
def wv (k j w : Nat) : Prop := ((k < 5 ∧ (w = 1 ∨ w = 11 ∨ w = 12)) ∨ (w = 8 ∧ j = 1) ∨ (w = 24 ∧ j = 2)) ∨ ((k = 5 ∨ k = 6) ∧ ((2 ≤ w ∧ w ≤ 6) ∨ (13 ≤ w ∧ w ≤ 17) ∨ (21 ≤ w ∧ w ≤ 23))) ∨ (k = 7 ∧ (w = 7 ∨ w = 18))
/-- the rows that satisfy and dissatisfy the parts from p0 on -/
def sV (P : Nat) (lf : Nat → Nat) (p0 : Nat) (u : ab_S) : Prop := ∀ p, p0 ≤ p → p < P → (∃ m, m ≤ 4 * lf p - 2 ∧ u.1 18 14 p = nI m) ∧ bl (4 * lf p - 3) (u.1 18 11 (3 * p)) ∧ bl (4 * lf p - 2) (u.1 18 11 (3 * p + 1)) ∧ bl (4 * lf p - 2) (u.1 18 11 (3 * p + 2))
section SaMSat
variable {l : Launch} {D : va_G} {ca : Nat → ClassId}
abbrev b_MO_b : ByteArray := prog_10_method_11_code
def y_MO_b : MethodName := ⟨"PolicyForgeModel", "b", "(I)I"⟩
theorem d_MO_b_0 : decode b_MO_b 0 = .ok (.iconst 3, 1) := by decide +kernel
theorem d_MO_b_1 : decode b_MO_b 1 = .ok (.iload_n 0, 1) := by decide +kernel
theorem d_MO_b_2 : decode b_MO_b 2 = .ok (.imul, 1) := by decide +kernel
theorem d_MO_b_3 : decode b_MO_b 3 = .ok (.ireturn, 1) := by decide +kernel
set_option maxRecDepth 100000 in
set_option maxHeartbeats 1000000 in
theorem t_MO_b (u : ab_S) (p1 : Nat) : ab_C false l D ca y_MO_b b_MO_b 1 (some FieldType.int) 0 ab_nQ u [ab_I (nI p1)] (fun u' v => u' = u ∧ v = some (ab_I (nI (3 * p1)))) := by
  refine ab_C.of (by decide) (Nat.le_of_ble_eq_true rfl) ?_
  intro p e s m args below meth c ad X hZ hr0 hlk
  refine ab_iconst (v := 3) X d_MO_b_0 (by decide) ?_
  refine ab_iload_n X 0 d_MO_b_1 rfl rfl ?_
  refine ab_imul X d_MO_b_2 ?_
  refine ab_top (nI_3m p1) ?_
  exact ab_reti X hr0 hlk d_MO_b_3 ⟨rfl, rfl⟩
abbrev b_MO_d : ByteArray := prog_10_method_12_code
def y_MO_d : MethodName := ⟨"PolicyForgeModel", "d", "(I)I"⟩
theorem d_MO_d_0 : decode b_MO_d 0 = .ok (.iconst 3, 1) := by decide +kernel
theorem d_MO_d_1 : decode b_MO_d 1 = .ok (.iload_n 0, 1) := by decide +kernel
theorem d_MO_d_2 : decode b_MO_d 2 = .ok (.imul, 1) := by decide +kernel
theorem d_MO_d_3 : decode b_MO_d 3 = .ok (.iconst 1, 1) := by decide +kernel
theorem d_MO_d_4 : decode b_MO_d 4 = .ok (.iadd, 1) := by decide +kernel
theorem d_MO_d_5 : decode b_MO_d 5 = .ok (.ireturn, 1) := by decide +kernel
set_option maxRecDepth 100000 in
set_option maxHeartbeats 1000000 in
theorem t_MO_d (u : ab_S) (p1 : Nat) : ab_C false l D ca y_MO_d b_MO_d 1 (some FieldType.int) 0 ab_nQ u [ab_I (nI p1)] (fun u' v => u' = u ∧ v = some (ab_I (nI (3 * p1 + 1)))) := by
  refine ab_C.of (by decide) (Nat.le_of_ble_eq_true rfl) ?_
  intro p e s m args below meth c ad X hZ hr0 hlk
  refine ab_iconst (v := 3) X d_MO_d_0 (by decide) ?_
  refine ab_iload_n X 0 d_MO_d_1 rfl rfl ?_
  refine ab_imul X d_MO_d_2 ?_
  refine ab_top (nI_3m p1) ?_
  refine ab_iconst (v := 1) X d_MO_d_3 (by decide) ?_
  refine ab_iadd X d_MO_d_4 ?_
  refine ab_top (nI_1 _) ?_
  exact ab_reti X hr0 hlk d_MO_d_5 ⟨rfl, rfl⟩
abbrev b_MO_v : ByteArray := prog_10_method_13_code
def y_MO_v : MethodName := ⟨"PolicyForgeModel", "v", "(I)I"⟩
theorem d_MO_v_0 : decode b_MO_v 0 = .ok (.iconst 3, 1) := by decide +kernel
theorem d_MO_v_1 : decode b_MO_v 1 = .ok (.iload_n 0, 1) := by decide +kernel
theorem d_MO_v_2 : decode b_MO_v 2 = .ok (.imul, 1) := by decide +kernel
theorem d_MO_v_3 : decode b_MO_v 3 = .ok (.iconst 2, 1) := by decide +kernel
theorem d_MO_v_4 : decode b_MO_v 4 = .ok (.iadd, 1) := by decide +kernel
theorem d_MO_v_5 : decode b_MO_v 5 = .ok (.ireturn, 1) := by decide +kernel
set_option maxRecDepth 100000 in
set_option maxHeartbeats 1000000 in
theorem t_MO_v (u : ab_S) (p1 : Nat) : ab_C false l D ca y_MO_v b_MO_v 1 (some FieldType.int) 0 ab_nQ u [ab_I (nI p1)] (fun u' v => u' = u ∧ v = some (ab_I (nI (3 * p1 + 2)))) := by
  refine ab_C.of (by decide) (Nat.le_of_ble_eq_true rfl) ?_
  intro p e s m args below meth c ad X hZ hr0 hlk
  refine ab_iconst (v := 3) X d_MO_v_0 (by decide) ?_
  refine ab_iload_n X 0 d_MO_v_1 rfl rfl ?_
  refine ab_imul X d_MO_v_2 ?_
  refine ab_top (nI_3m p1) ?_
  refine ab_iconst (v := 2) X d_MO_v_3 (by decide) ?_
  refine ab_iadd X d_MO_v_4 ?_
  refine ab_top (nI_add (3 * p1) 2) ?_
  exact ab_reti X hr0 hlk d_MO_v_5 ⟨rfl, rfl⟩
abbrev b_MO_offerBoth : ByteArray := prog_10_method_40_code
def y_MO_offerBoth : MethodName := ⟨"PolicyForgeModel", "offerBoth", "(II)V"⟩
theorem d_MO_offerBoth_0 : decode b_MO_offerBoth 0 = .ok (.aload_n 0, 1) := by decide +kernel
theorem d_MO_offerBoth_1 : decode b_MO_offerBoth 1 = .ok (.invokevirtual 267, 3) := by decide +kernel
theorem d_MO_offerBoth_4 : decode b_MO_offerBoth 4 = .ok (.aload_n 0, 1) := by decide +kernel
theorem d_MO_offerBoth_5 : decode b_MO_offerBoth 5 = .ok (.iload_n 1, 1) := by decide +kernel
theorem d_MO_offerBoth_6 : decode b_MO_offerBoth 6 = .ok (.invokevirtual 270, 3) := by decide +kernel
theorem d_MO_offerBoth_9 : decode b_MO_offerBoth 9 = .ok (.aload_n 0, 1) := by decide +kernel
theorem d_MO_offerBoth_10 : decode b_MO_offerBoth 10 = .ok (.iload_n 2, 1) := by decide +kernel
theorem d_MO_offerBoth_11 : decode b_MO_offerBoth 11 = .ok (.invokevirtual 270, 3) := by decide +kernel
theorem d_MO_offerBoth_14 : decode b_MO_offerBoth 14 = .ok (.aload_n 0, 1) := by decide +kernel
theorem d_MO_offerBoth_15 : decode b_MO_offerBoth 15 = .ok (.invokevirtual 273, 3) := by decide +kernel
theorem d_MO_offerBoth_18 : decode b_MO_offerBoth 18 = .ok (.return_, 1) := by decide +kernel
theorem lk_MO_267 : ab_lk "PolicyForgeModel" 267 y_MO_newRow b_MO_newRow 1 none 0 17 := ⟨⟨rfl, T_MO, 44, rfl⟩, List.forall_mem_cons.mpr ⟨(ab_in 1229 (by decide +kernel) (by decide +kernel)), List.forall_mem_cons.mpr ⟨(ab_in 1231 (by decide +kernel) (by decide +kernel)), List.forall_mem_cons.mpr ⟨(ab_in 74 (by decide +kernel) (by decide +kernel)), List.forall_mem_cons.mpr ⟨(ab_in 100 (by decide +kernel) (by decide +kernel)), List.forall_mem_cons.mpr ⟨(ab_in 1232 (by decide +kernel) (by decide +kernel)), fun _ h => absurd h List.not_mem_nil⟩⟩⟩⟩⟩, ⟨by decide +kernel, by decide +kernel, by decide +kernel⟩, by decide⟩
theorem lk_MO_270 : ab_lk "PolicyForgeModel" 270 y_MO_yes b_MO_yes 3 none 1 17 := ⟨⟨rfl, T_MO, 44, rfl⟩, List.forall_mem_cons.mpr ⟨(ab_in 1257 (by decide +kernel) (by decide +kernel)), List.forall_mem_cons.mpr ⟨(ab_in 1259 (by decide +kernel) (by decide +kernel)), List.forall_mem_cons.mpr ⟨(ab_in 80 (by decide +kernel) (by decide +kernel)), List.forall_mem_cons.mpr ⟨(ab_in 100 (by decide +kernel) (by decide +kernel)), List.forall_mem_cons.mpr ⟨(ab_in 1260 (by decide +kernel) (by decide +kernel)), fun _ h => absurd h List.not_mem_nil⟩⟩⟩⟩⟩, ⟨by decide +kernel, by decide +kernel, by decide +kernel⟩, by decide⟩
theorem lk_MO_273 : ab_lk "PolicyForgeModel" 273 y_MO_offer b_MO_offer 3 none 0 17 := ⟨⟨rfl, T_MO, 44, rfl⟩, List.forall_mem_cons.mpr ⟨(ab_in 1249 (by decide +kernel) (by decide +kernel)), List.forall_mem_cons.mpr ⟨(ab_in 1251 (by decide +kernel) (by decide +kernel)), List.forall_mem_cons.mpr ⟨(ab_in 78 (by decide +kernel) (by decide +kernel)), List.forall_mem_cons.mpr ⟨(ab_in 100 (by decide +kernel) (by decide +kernel)), List.forall_mem_cons.mpr ⟨(ab_in 1252 (by decide +kernel) (by decide +kernel)), fun _ h => absurd h List.not_mem_nil⟩⟩⟩⟩⟩, ⟨by decide +kernel, by decide +kernel, by decide +kernel⟩, by decide⟩
set_option maxRecDepth 100000 in
set_option maxHeartbeats 1000000 in
theorem s_MO_offerBoth (u : ab_S) (f g qa qb : Nat) (q : Nat) (hq : q ≤ 64) (eb : bl q (u.1 17 0 29)) (h : mR u.2.1) (hf : f < 72) (hg : g < 72) (h1 : bl qa (u.1 18 11 f)) (h2 : bl qb (u.1 18 11 g)) (h3 : qa + qb ≤ q) (h4 : qa ≤ 50) (h5 : qb ≤ 50) : ab_C false l D ca y_MO_offerBoth b_MO_offerBoth 3 none 3 ab_nQ u [ab_O 17 0, ab_I (nI f), ab_I (nI g)] (fun u' v => (gP [26, 27, 29, 30, 115, 116] u u' ∧ bl q (u'.1 17 0 29)) ∧ v = none) := by
  refine ab_C.of (by decide) (Nat.le_of_ble_eq_true rfl) ?_
  intro p e s m args below meth c ad X hZ hr0 hlk
  have P0 : gP [26, 27, 29, 30, 115, 116] u u := gP.rf h
  refine ab_aload_n X 0 d_MO_offerBoth_0 rfl rfl ?_
  refine ab_callV (as := []) X (fun h => by cases h) (s_MO_newRow u h) lk_MO_267 d_MO_offerBoth_1 rfl rfl (by first | assumption | decide | (show _ < 124; omega) | (show _ < 61; omega) | (show _ < 20; omega)) ⟨by first | exact Nat.le_of_ble_eq_true rfl | (simp only [ab_rm]; omega), by first | exact Nat.le_of_ble_eq_true rfl | (simp only [ab_rm]; omega)⟩ ⟨by first | exact Nat.le_of_ble_eq_true rfl | (simp only [ab_rm]; omega), by first | exact Nat.le_of_ble_eq_true rfl | (simp only [ab_rm]; omega)⟩ (Nat.le_of_ble_eq_true rfl) (fun u1 r1 h1 => ?_)
  obtain ⟨⟨q1, r1⟩, rfl⟩ := h1
  have P1 := P0.trans q1 (by decide)
  refine ab_aload_n X 0 d_MO_offerBoth_4 rfl rfl ?_
  refine ab_iload_n X 1 d_MO_offerBoth_5 rfl rfl ?_
  refine ab_callV (as := [ab_I (nI f)]) X (fun h => by cases h) (s_MO_yes u1 f qa 0 P1.1 hf (by rw [P1.ai (by decide) rfl]; exact h1) h4 r1 (by omega)) lk_MO_270 d_MO_offerBoth_6 rfl rfl (by first | assumption | decide | (show _ < 124; omega) | (show _ < 61; omega) | (show _ < 20; omega)) ⟨by first | exact Nat.le_of_ble_eq_true rfl | (simp only [ab_rm]; omega), by first | exact Nat.le_of_ble_eq_true rfl | (simp only [ab_rm]; omega)⟩ ⟨by first | exact Nat.le_of_ble_eq_true rfl | (simp only [ab_rm]; omega), by first | exact Nat.le_of_ble_eq_true rfl | (simp only [ab_rm]; omega)⟩ (Nat.le_of_ble_eq_true rfl) (fun u6 r6 h6 => ?_)
  obtain ⟨⟨q6, r6, hr6, er6⟩, rfl⟩ := h6
  have P6 := P1.trans q6 (by decide)
  refine ab_aload_n X 0 d_MO_offerBoth_9 rfl rfl ?_
  refine ab_iload_n X 2 d_MO_offerBoth_10 rfl rfl ?_
  refine ab_callV (as := [ab_I (nI g)]) X (fun h => by cases h) (s_MO_yes u6 g qb r6 P6.1 hg (by rw [P6.ai (by decide) rfl]; exact h2) h5 er6 (by omega)) lk_MO_270 d_MO_offerBoth_11 rfl rfl (by first | assumption | decide | (show _ < 124; omega) | (show _ < 61; omega) | (show _ < 20; omega)) ⟨by first | exact Nat.le_of_ble_eq_true rfl | (simp only [ab_rm]; omega), by first | exact Nat.le_of_ble_eq_true rfl | (simp only [ab_rm]; omega)⟩ ⟨by first | exact Nat.le_of_ble_eq_true rfl | (simp only [ab_rm]; omega), by first | exact Nat.le_of_ble_eq_true rfl | (simp only [ab_rm]; omega)⟩ (Nat.le_of_ble_eq_true rfl) (fun u11 r11 h11 => ?_)
  obtain ⟨⟨q11, r11, hr11, er11⟩, rfl⟩ := h11
  have P11 := P6.trans q11 (by decide)
  refine ab_aload_n X 0 d_MO_offerBoth_14 rfl rfl ?_
  refine ab_callV (as := []) X (fun h => by cases h) (s_MO_offer u11 q r11 P11.1 er11 (by omega) hq (by rw [q11.fi (by decide) rfl, q6.fi (by decide) rfl, q1.fi (by decide) rfl]; exact eb)) lk_MO_273 d_MO_offerBoth_15 rfl rfl (by first | assumption | decide | (show _ < 124; omega) | (show _ < 61; omega) | (show _ < 20; omega)) ⟨by first | exact Nat.le_of_ble_eq_true rfl | (simp only [ab_rm]; omega), by first | exact Nat.le_of_ble_eq_true rfl | (simp only [ab_rm]; omega)⟩ ⟨by first | exact Nat.le_of_ble_eq_true rfl | (simp only [ab_rm]; omega), by first | exact Nat.le_of_ble_eq_true rfl | (simp only [ab_rm]; omega)⟩ (Nat.le_of_ble_eq_true rfl) (fun u15 r15 h15 => ?_)
  obtain ⟨⟨q15, b15⟩, rfl⟩ := h15
  have P15 := P11.trans q15 (by decide)
  exact ab_retv X hr0 hlk d_MO_offerBoth_18 ⟨⟨P15, b15⟩, rfl⟩
abbrev b_MO_offerEither : ByteArray := prog_10_method_41_code
def y_MO_offerEither : MethodName := ⟨"PolicyForgeModel", "offerEither", "(III)V"⟩
theorem d_MO_offerEither_0 : decode b_MO_offerEither 0 = .ok (.aload_n 0, 1) := by decide +kernel
theorem d_MO_offerEither_1 : decode b_MO_offerEither 1 = .ok (.invokevirtual 267, 3) := by decide +kernel
theorem d_MO_offerEither_4 : decode b_MO_offerEither 4 = .ok (.aload_n 0, 1) := by decide +kernel
theorem d_MO_offerEither_5 : decode b_MO_offerEither 5 = .ok (.iload_n 1, 1) := by decide +kernel
theorem d_MO_offerEither_6 : decode b_MO_offerEither 6 = .ok (.invokevirtual 270, 3) := by decide +kernel
theorem d_MO_offerEither_9 : decode b_MO_offerEither 9 = .ok (.aload_n 0, 1) := by decide +kernel
theorem d_MO_offerEither_10 : decode b_MO_offerEither 10 = .ok (.invokevirtual 273, 3) := by decide +kernel
theorem d_MO_offerEither_13 : decode b_MO_offerEither 13 = .ok (.aload_n 0, 1) := by decide +kernel
theorem d_MO_offerEither_14 : decode b_MO_offerEither 14 = .ok (.invokevirtual 267, 3) := by decide +kernel
theorem d_MO_offerEither_17 : decode b_MO_offerEither 17 = .ok (.aload_n 0, 1) := by decide +kernel
theorem d_MO_offerEither_18 : decode b_MO_offerEither 18 = .ok (.iload_n 2, 1) := by decide +kernel
theorem d_MO_offerEither_19 : decode b_MO_offerEither 19 = .ok (.invokevirtual 276, 3) := by decide +kernel
theorem d_MO_offerEither_22 : decode b_MO_offerEither 22 = .ok (.aload_n 0, 1) := by decide +kernel
theorem d_MO_offerEither_23 : decode b_MO_offerEither 23 = .ok (.iload_n 3, 1) := by decide +kernel
theorem d_MO_offerEither_24 : decode b_MO_offerEither 24 = .ok (.invokevirtual 270, 3) := by decide +kernel
theorem d_MO_offerEither_27 : decode b_MO_offerEither 27 = .ok (.aload_n 0, 1) := by decide +kernel
theorem d_MO_offerEither_28 : decode b_MO_offerEither 28 = .ok (.invokevirtual 273, 3) := by decide +kernel
theorem d_MO_offerEither_31 : decode b_MO_offerEither 31 = .ok (.return_, 1) := by decide +kernel
theorem lk_MO_276 : ab_lk "PolicyForgeModel" 276 y_MO_no b_MO_no 3 none 1 17 := ⟨⟨rfl, T_MO, 44, rfl⟩, List.forall_mem_cons.mpr ⟨(ab_in 1240 (by decide +kernel) (by decide +kernel)), List.forall_mem_cons.mpr ⟨(ab_in 1242 (by decide +kernel) (by decide +kernel)), List.forall_mem_cons.mpr ⟨(ab_in 76 (by decide +kernel) (by decide +kernel)), List.forall_mem_cons.mpr ⟨(ab_in 100 (by decide +kernel) (by decide +kernel)), List.forall_mem_cons.mpr ⟨(ab_in 1243 (by decide +kernel) (by decide +kernel)), fun _ h => absurd h List.not_mem_nil⟩⟩⟩⟩⟩, ⟨by decide +kernel, by decide +kernel, by decide +kernel⟩, by decide⟩
set_option maxRecDepth 100000 in
set_option maxHeartbeats 1000000 in
theorem s_MO_offerEither (u : ab_S) (f p1 g qa mm qb : Nat) (q : Nat) (hq : q ≤ 64) (eb : bl q (u.1 17 0 29)) (h : mR u.2.1) (hf : f < 72) (hp : p1 < 24) (hg : g < 72) (h1 : bl qa (u.1 18 11 f)) (em : u.1 18 14 p1 = nI mm) (h2 : bl qb (u.1 18 11 g)) (h3 : qa ≤ q) (h6 : mm + qb ≤ q) (h4 : qa ≤ 50) (h5 : qb ≤ 50) (h7 : mm ≤ 50) : ab_C false l D ca y_MO_offerEither b_MO_offerEither 4 none 3 ab_nQ u [ab_O 17 0, ab_I (nI f), ab_I (nI p1), ab_I (nI g)] (fun u' v => (gP [26, 27, 29, 30, 115, 116] u u' ∧ bl q (u'.1 17 0 29)) ∧ v = none) := by
  refine ab_C.of (by decide) (Nat.le_of_ble_eq_true rfl) ?_
  intro p e s m args below meth c ad X hZ hr0 hlk
  have P0 : gP [26, 27, 29, 30, 115, 116] u u := gP.rf h
  refine ab_aload_n X 0 d_MO_offerEither_0 rfl rfl ?_
  refine ab_callV (as := []) X (fun h => by cases h) (s_MO_newRow u h) lk_MO_267 d_MO_offerEither_1 rfl rfl (by first | assumption | decide | (show _ < 124; omega) | (show _ < 61; omega) | (show _ < 20; omega)) ⟨by first | exact Nat.le_of_ble_eq_true rfl | (simp only [ab_rm]; omega), by first | exact Nat.le_of_ble_eq_true rfl | (simp only [ab_rm]; omega)⟩ ⟨by first | exact Nat.le_of_ble_eq_true rfl | (simp only [ab_rm]; omega), by first | exact Nat.le_of_ble_eq_true rfl | (simp only [ab_rm]; omega)⟩ (Nat.le_of_ble_eq_true rfl) (fun u1 r1 h1 => ?_)
  obtain ⟨⟨q1, r1⟩, rfl⟩ := h1
  have P1 := P0.trans q1 (by decide)
  refine ab_aload_n X 0 d_MO_offerEither_4 rfl rfl ?_
  refine ab_iload_n X 1 d_MO_offerEither_5 rfl rfl ?_
  refine ab_callV (as := [ab_I (nI f)]) X (fun h => by cases h) (s_MO_yes u1 f qa 0 P1.1 hf (by rw [P1.ai (by decide) rfl]; exact h1) h4 r1 (by omega)) lk_MO_270 d_MO_offerEither_6 rfl rfl (by first | assumption | decide | (show _ < 124; omega) | (show _ < 61; omega) | (show _ < 20; omega)) ⟨by first | exact Nat.le_of_ble_eq_true rfl | (simp only [ab_rm]; omega), by first | exact Nat.le_of_ble_eq_true rfl | (simp only [ab_rm]; omega)⟩ ⟨by first | exact Nat.le_of_ble_eq_true rfl | (simp only [ab_rm]; omega), by first | exact Nat.le_of_ble_eq_true rfl | (simp only [ab_rm]; omega)⟩ (Nat.le_of_ble_eq_true rfl) (fun u6 r6 h6 => ?_)
  obtain ⟨⟨q6, r6, hr6, er6⟩, rfl⟩ := h6
  have P6 := P1.trans q6 (by decide)
  refine ab_aload_n X 0 d_MO_offerEither_9 rfl rfl ?_
  refine ab_callV (as := []) X (fun h => by cases h) (s_MO_offer u6 q r6 P6.1 er6 (by omega) hq (by rw [q6.fi (by decide) rfl, q1.fi (by decide) rfl]; exact eb)) lk_MO_273 d_MO_offerEither_10 rfl rfl (by first | assumption | decide | (show _ < 124; omega) | (show _ < 61; omega) | (show _ < 20; omega)) ⟨by first | exact Nat.le_of_ble_eq_true rfl | (simp only [ab_rm]; omega), by first | exact Nat.le_of_ble_eq_true rfl | (simp only [ab_rm]; omega)⟩ ⟨by first | exact Nat.le_of_ble_eq_true rfl | (simp only [ab_rm]; omega), by first | exact Nat.le_of_ble_eq_true rfl | (simp only [ab_rm]; omega)⟩ (Nat.le_of_ble_eq_true rfl) (fun u10 r10 h10 => ?_)
  obtain ⟨⟨q10, b10⟩, rfl⟩ := h10
  have P10 := P6.trans q10 (by decide)
  refine ab_aload_n X 0 d_MO_offerEither_13 rfl rfl ?_
  refine ab_callV (as := []) X (fun h => by cases h) (s_MO_newRow u10 P10.1) lk_MO_267 d_MO_offerEither_14 rfl rfl (by first | assumption | decide | (show _ < 124; omega) | (show _ < 61; omega) | (show _ < 20; omega)) ⟨by first | exact Nat.le_of_ble_eq_true rfl | (simp only [ab_rm]; omega), by first | exact Nat.le_of_ble_eq_true rfl | (simp only [ab_rm]; omega)⟩ ⟨by first | exact Nat.le_of_ble_eq_true rfl | (simp only [ab_rm]; omega), by first | exact Nat.le_of_ble_eq_true rfl | (simp only [ab_rm]; omega)⟩ (Nat.le_of_ble_eq_true rfl) (fun u14 r14 h14 => ?_)
  obtain ⟨⟨q14, r14⟩, rfl⟩ := h14
  have P14 := P10.trans q14 (by decide)
  refine ab_aload_n X 0 d_MO_offerEither_17 rfl rfl ?_
  refine ab_iload_n X 2 d_MO_offerEither_18 rfl rfl ?_
  refine ab_callV (as := [ab_I (nI p1)]) X (fun h => by cases h) (s_MO_no u14 p1 mm 0 P14.1 hp (P14.ai (by decide) em) h7 r14 (by omega)) lk_MO_276 d_MO_offerEither_19 rfl rfl (by first | assumption | decide | (show _ < 124; omega) | (show _ < 61; omega) | (show _ < 20; omega)) ⟨by first | exact Nat.le_of_ble_eq_true rfl | (simp only [ab_rm]; omega), by first | exact Nat.le_of_ble_eq_true rfl | (simp only [ab_rm]; omega)⟩ ⟨by first | exact Nat.le_of_ble_eq_true rfl | (simp only [ab_rm]; omega), by first | exact Nat.le_of_ble_eq_true rfl | (simp only [ab_rm]; omega)⟩ (Nat.le_of_ble_eq_true rfl) (fun u19 r19 h19 => ?_)
  obtain ⟨⟨q19, r19⟩, rfl⟩ := h19
  have P19 := P14.trans q19 (by decide)
  refine ab_aload_n X 0 d_MO_offerEither_22 rfl rfl ?_
  refine ab_iload_n X 3 d_MO_offerEither_23 rfl rfl ?_
  refine ab_callV (as := [ab_I (nI g)]) X (fun h => by cases h) (s_MO_yes u19 g qb (0 + mm) P19.1 hg (by rw [P19.ai (by decide) rfl]; exact h2) h5 r19 (by omega)) lk_MO_270 d_MO_offerEither_24 rfl rfl (by first | assumption | decide | (show _ < 124; omega) | (show _ < 61; omega) | (show _ < 20; omega)) ⟨by first | exact Nat.le_of_ble_eq_true rfl | (simp only [ab_rm]; omega), by first | exact Nat.le_of_ble_eq_true rfl | (simp only [ab_rm]; omega)⟩ ⟨by first | exact Nat.le_of_ble_eq_true rfl | (simp only [ab_rm]; omega), by first | exact Nat.le_of_ble_eq_true rfl | (simp only [ab_rm]; omega)⟩ (Nat.le_of_ble_eq_true rfl) (fun u24 r24 h24 => ?_)
  obtain ⟨⟨q24, r24, hr24, er24⟩, rfl⟩ := h24
  have P24 := P19.trans q24 (by decide)
  refine ab_aload_n X 0 d_MO_offerEither_27 rfl rfl ?_
  refine ab_callV (as := []) X (fun h => by cases h) (s_MO_offer u24 q r24 P24.1 er24 (by omega) hq (by rw [q24.fi (by decide) rfl, q19.fi (by decide) rfl, q14.fi (by decide) rfl]; exact b10)) lk_MO_273 d_MO_offerEither_28 rfl rfl (by first | assumption | decide | (show _ < 124; omega) | (show _ < 61; omega) | (show _ < 20; omega)) ⟨by first | exact Nat.le_of_ble_eq_true rfl | (simp only [ab_rm]; omega), by first | exact Nat.le_of_ble_eq_true rfl | (simp only [ab_rm]; omega)⟩ ⟨by first | exact Nat.le_of_ble_eq_true rfl | (simp only [ab_rm]; omega), by first | exact Nat.le_of_ble_eq_true rfl | (simp only [ab_rm]; omega)⟩ (Nat.le_of_ble_eq_true rfl) (fun u28 r28 h28 => ?_)
  obtain ⟨⟨q28, b28⟩, rfl⟩ := h28
  have P28 := P24.trans q28 (by decide)
  exact ab_retv X hr0 hlk d_MO_offerEither_31 ⟨⟨P28, b28⟩, rfl⟩
abbrev b_MO_offerChoice : ByteArray := prog_10_method_42_code
def y_MO_offerChoice : MethodName := ⟨"PolicyForgeModel", "offerChoice", "(II)V"⟩
theorem d_MO_offerChoice_0 : decode b_MO_offerChoice 0 = .ok (.aload_n 0, 1) := by decide +kernel
theorem d_MO_offerChoice_1 : decode b_MO_offerChoice 1 = .ok (.invokevirtual 267, 3) := by decide +kernel
theorem d_MO_offerChoice_4 : decode b_MO_offerChoice 4 = .ok (.aload_n 0, 1) := by decide +kernel
theorem d_MO_offerChoice_5 : decode b_MO_offerChoice 5 = .ok (.iconst 1, 1) := by decide +kernel
theorem d_MO_offerChoice_6 : decode b_MO_offerChoice 6 = .ok (.invokevirtual 264, 3) := by decide +kernel
theorem d_MO_offerChoice_9 : decode b_MO_offerChoice 9 = .ok (.aload_n 0, 1) := by decide +kernel
theorem d_MO_offerChoice_10 : decode b_MO_offerChoice 10 = .ok (.iload_n 1, 1) := by decide +kernel
theorem d_MO_offerChoice_11 : decode b_MO_offerChoice 11 = .ok (.invokevirtual 270, 3) := by decide +kernel
theorem d_MO_offerChoice_14 : decode b_MO_offerChoice 14 = .ok (.aload_n 0, 1) := by decide +kernel
theorem d_MO_offerChoice_15 : decode b_MO_offerChoice 15 = .ok (.invokevirtual 273, 3) := by decide +kernel
theorem d_MO_offerChoice_18 : decode b_MO_offerChoice 18 = .ok (.aload_n 0, 1) := by decide +kernel
theorem d_MO_offerChoice_19 : decode b_MO_offerChoice 19 = .ok (.invokevirtual 267, 3) := by decide +kernel
theorem d_MO_offerChoice_22 : decode b_MO_offerChoice 22 = .ok (.aload_n 0, 1) := by decide +kernel
theorem d_MO_offerChoice_23 : decode b_MO_offerChoice 23 = .ok (.iconst 0, 1) := by decide +kernel
theorem d_MO_offerChoice_24 : decode b_MO_offerChoice 24 = .ok (.invokevirtual 264, 3) := by decide +kernel
theorem d_MO_offerChoice_27 : decode b_MO_offerChoice 27 = .ok (.aload_n 0, 1) := by decide +kernel
theorem d_MO_offerChoice_28 : decode b_MO_offerChoice 28 = .ok (.iload_n 2, 1) := by decide +kernel
theorem d_MO_offerChoice_29 : decode b_MO_offerChoice 29 = .ok (.invokevirtual 270, 3) := by decide +kernel
theorem d_MO_offerChoice_32 : decode b_MO_offerChoice 32 = .ok (.aload_n 0, 1) := by decide +kernel
theorem d_MO_offerChoice_33 : decode b_MO_offerChoice 33 = .ok (.invokevirtual 273, 3) := by decide +kernel
theorem d_MO_offerChoice_36 : decode b_MO_offerChoice 36 = .ok (.return_, 1) := by decide +kernel
set_option maxRecDepth 100000 in
set_option maxHeartbeats 1000000 in
theorem s_MO_offerChoice (u : ab_S) (f g qa qb : Nat) (q : Nat) (hq : q ≤ 64) (eb : bl q (u.1 17 0 29)) (h : mR u.2.1) (hf : f < 72) (hg : g < 72) (h1 : bl qa (u.1 18 11 f)) (h2 : bl qb (u.1 18 11 g)) (h3 : 1 + qa ≤ q) (h6 : 1 + qb ≤ q) (h4 : qa ≤ 50) (h5 : qb ≤ 50) : ab_C false l D ca y_MO_offerChoice b_MO_offerChoice 3 none 3 ab_nQ u [ab_O 17 0, ab_I (nI f), ab_I (nI g)] (fun u' v => (gP [26, 27, 29, 30, 115, 116] u u' ∧ bl q (u'.1 17 0 29)) ∧ v = none) := by
  refine ab_C.of (by decide) (Nat.le_of_ble_eq_true rfl) ?_
  intro p e s m args below meth c ad X hZ hr0 hlk
  have P0 : gP [26, 27, 29, 30, 115, 116] u u := gP.rf h
  refine ab_aload_n X 0 d_MO_offerChoice_0 rfl rfl ?_
  refine ab_callV (as := []) X (fun h => by cases h) (s_MO_newRow u h) lk_MO_267 d_MO_offerChoice_1 rfl rfl (by first | assumption | decide | (show _ < 124; omega) | (show _ < 61; omega) | (show _ < 20; omega)) ⟨by first | exact Nat.le_of_ble_eq_true rfl | (simp only [ab_rm]; omega), by first | exact Nat.le_of_ble_eq_true rfl | (simp only [ab_rm]; omega)⟩ ⟨by first | exact Nat.le_of_ble_eq_true rfl | (simp only [ab_rm]; omega), by first | exact Nat.le_of_ble_eq_true rfl | (simp only [ab_rm]; omega)⟩ (Nat.le_of_ble_eq_true rfl) (fun u1 r1 h1 => ?_)
  obtain ⟨⟨q1, r1⟩, rfl⟩ := h1
  have P1 := P0.trans q1 (by decide)
  refine ab_aload_n X 0 d_MO_offerChoice_4 rfl rfl ?_
  refine ab_iconst (v := 1) X d_MO_offerChoice_5 (by decide) ?_
  refine ab_callV (as := [ab_I 1]) X (fun h => by cases h) (s_MO_item1 u1 1 0 P1.1 r1 (by omega)) lk_MO_264 d_MO_offerChoice_6 rfl rfl (by first | assumption | decide | (show _ < 124; omega) | (show _ < 61; omega) | (show _ < 20; omega)) ⟨by first | exact Nat.le_of_ble_eq_true rfl | (simp only [ab_rm]; omega), by first | exact Nat.le_of_ble_eq_true rfl | (simp only [ab_rm]; omega)⟩ ⟨by first | exact Nat.le_of_ble_eq_true rfl | (simp only [ab_rm]; omega), by first | exact Nat.le_of_ble_eq_true rfl | (simp only [ab_rm]; omega)⟩ (Nat.le_of_ble_eq_true rfl) (fun u6 r6 h6 => ?_)
  obtain ⟨⟨q6, r6⟩, rfl⟩ := h6
  have P6 := P1.trans q6 (by decide)
  refine ab_aload_n X 0 d_MO_offerChoice_9 rfl rfl ?_
  refine ab_iload_n X 1 d_MO_offerChoice_10 rfl rfl ?_
  refine ab_callV (as := [ab_I (nI f)]) X (fun h => by cases h) (s_MO_yes u6 f qa (0 + 1) P6.1 hf (by rw [P6.ai (by decide) rfl]; exact h1) h4 r6 (by omega)) lk_MO_270 d_MO_offerChoice_11 rfl rfl (by first | assumption | decide | (show _ < 124; omega) | (show _ < 61; omega) | (show _ < 20; omega)) ⟨by first | exact Nat.le_of_ble_eq_true rfl | (simp only [ab_rm]; omega), by first | exact Nat.le_of_ble_eq_true rfl | (simp only [ab_rm]; omega)⟩ ⟨by first | exact Nat.le_of_ble_eq_true rfl | (simp only [ab_rm]; omega), by first | exact Nat.le_of_ble_eq_true rfl | (simp only [ab_rm]; omega)⟩ (Nat.le_of_ble_eq_true rfl) (fun u11 r11 h11 => ?_)
  obtain ⟨⟨q11, r11, hr11, er11⟩, rfl⟩ := h11
  have P11 := P6.trans q11 (by decide)
  refine ab_aload_n X 0 d_MO_offerChoice_14 rfl rfl ?_
  refine ab_callV (as := []) X (fun h => by cases h) (s_MO_offer u11 q r11 P11.1 er11 (by omega) hq (by rw [q11.fi (by decide) rfl, q6.fi (by decide) rfl, q1.fi (by decide) rfl]; exact eb)) lk_MO_273 d_MO_offerChoice_15 rfl rfl (by first | assumption | decide | (show _ < 124; omega) | (show _ < 61; omega) | (show _ < 20; omega)) ⟨by first | exact Nat.le_of_ble_eq_true rfl | (simp only [ab_rm]; omega), by first | exact Nat.le_of_ble_eq_true rfl | (simp only [ab_rm]; omega)⟩ ⟨by first | exact Nat.le_of_ble_eq_true rfl | (simp only [ab_rm]; omega), by first | exact Nat.le_of_ble_eq_true rfl | (simp only [ab_rm]; omega)⟩ (Nat.le_of_ble_eq_true rfl) (fun u15 r15 h15 => ?_)
  obtain ⟨⟨q15, b15⟩, rfl⟩ := h15
  have P15 := P11.trans q15 (by decide)
  refine ab_aload_n X 0 d_MO_offerChoice_18 rfl rfl ?_
  refine ab_callV (as := []) X (fun h => by cases h) (s_MO_newRow u15 P15.1) lk_MO_267 d_MO_offerChoice_19 rfl rfl (by first | assumption | decide | (show _ < 124; omega) | (show _ < 61; omega) | (show _ < 20; omega)) ⟨by first | exact Nat.le_of_ble_eq_true rfl | (simp only [ab_rm]; omega), by first | exact Nat.le_of_ble_eq_true rfl | (simp only [ab_rm]; omega)⟩ ⟨by first | exact Nat.le_of_ble_eq_true rfl | (simp only [ab_rm]; omega), by first | exact Nat.le_of_ble_eq_true rfl | (simp only [ab_rm]; omega)⟩ (Nat.le_of_ble_eq_true rfl) (fun u19 r19 h19 => ?_)
  obtain ⟨⟨q19, r19⟩, rfl⟩ := h19
  have P19 := P15.trans q19 (by decide)
  refine ab_aload_n X 0 d_MO_offerChoice_22 rfl rfl ?_
  refine ab_iconst (v := 0) X d_MO_offerChoice_23 (by decide) ?_
  refine ab_callV (as := [ab_I 0]) X (fun h => by cases h) (s_MO_item1 u19 0 0 P19.1 r19 (by omega)) lk_MO_264 d_MO_offerChoice_24 rfl rfl (by first | assumption | decide | (show _ < 124; omega) | (show _ < 61; omega) | (show _ < 20; omega)) ⟨by first | exact Nat.le_of_ble_eq_true rfl | (simp only [ab_rm]; omega), by first | exact Nat.le_of_ble_eq_true rfl | (simp only [ab_rm]; omega)⟩ ⟨by first | exact Nat.le_of_ble_eq_true rfl | (simp only [ab_rm]; omega), by first | exact Nat.le_of_ble_eq_true rfl | (simp only [ab_rm]; omega)⟩ (Nat.le_of_ble_eq_true rfl) (fun u24 r24 h24 => ?_)
  obtain ⟨⟨q24, r24⟩, rfl⟩ := h24
  have P24 := P19.trans q24 (by decide)
  refine ab_aload_n X 0 d_MO_offerChoice_27 rfl rfl ?_
  refine ab_iload_n X 2 d_MO_offerChoice_28 rfl rfl ?_
  refine ab_callV (as := [ab_I (nI g)]) X (fun h => by cases h) (s_MO_yes u24 g qb (0 + 1) P24.1 hg (by rw [P24.ai (by decide) rfl]; exact h2) h5 r24 (by omega)) lk_MO_270 d_MO_offerChoice_29 rfl rfl (by first | assumption | decide | (show _ < 124; omega) | (show _ < 61; omega) | (show _ < 20; omega)) ⟨by first | exact Nat.le_of_ble_eq_true rfl | (simp only [ab_rm]; omega), by first | exact Nat.le_of_ble_eq_true rfl | (simp only [ab_rm]; omega)⟩ ⟨by first | exact Nat.le_of_ble_eq_true rfl | (simp only [ab_rm]; omega), by first | exact Nat.le_of_ble_eq_true rfl | (simp only [ab_rm]; omega)⟩ (Nat.le_of_ble_eq_true rfl) (fun u29 r29 h29 => ?_)
  obtain ⟨⟨q29, r29, hr29, er29⟩, rfl⟩ := h29
  have P29 := P24.trans q29 (by decide)
  refine ab_aload_n X 0 d_MO_offerChoice_32 rfl rfl ?_
  refine ab_callV (as := []) X (fun h => by cases h) (s_MO_offer u29 q r29 P29.1 er29 (by omega) hq (by rw [q29.fi (by decide) rfl, q24.fi (by decide) rfl, q19.fi (by decide) rfl]; exact b15)) lk_MO_273 d_MO_offerChoice_33 rfl rfl (by first | assumption | decide | (show _ < 124; omega) | (show _ < 61; omega) | (show _ < 20; omega)) ⟨by first | exact Nat.le_of_ble_eq_true rfl | (simp only [ab_rm]; omega), by first | exact Nat.le_of_ble_eq_true rfl | (simp only [ab_rm]; omega)⟩ ⟨by first | exact Nat.le_of_ble_eq_true rfl | (simp only [ab_rm]; omega), by first | exact Nat.le_of_ble_eq_true rfl | (simp only [ab_rm]; omega)⟩ (Nat.le_of_ble_eq_true rfl) (fun u33 r33 h33 => ?_)
  obtain ⟨⟨q33, b33⟩, rfl⟩ := h33
  have P33 := P29.trans q33 (by decide)
  exact ab_retv X hr0 hlk d_MO_offerChoice_36 ⟨⟨P33, b33⟩, rfl⟩
end SaMSat

