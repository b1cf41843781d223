/-! The ways of a part: how many words each says. -/
theorem pick {n : Nat} {P : Nat → Nat → Prop} (h : ∀ i, i < n → ∃ s, P i s) : ∃ ss : Nat → Nat, ∀ i, i < n → P i (ss i) := ⟨fun i => if hi : i < n then (h i hi).choose else 0, fun i hi => by
  show P i (if hi : i < n then (h i hi).choose else 0)
  rw [dif_pos hi]; exact (h i hi).choose_spec⟩
theorem sm_lin {a g : Nat → Nat} {k r : Nat} : ∀ n, (∀ i, i < n → a i + r ≤ k * g i) → sm a n + r * n ≤ k * sm g n := by
  intro n
  induction n with
  | zero => intro _; simp [sm]
  | succ n ih =>
    intro h
    have e1 := ih (fun i hi => h i (by omega))
    have e2 := h n (by omega)
    show sm a n + a n + r * (n + 1) ≤ k * (sm g n + g n)
    have e3 := Nat.mul_add k (sm g n) (g n)
    have e4 : r * (n + 1) = r * n + r := Nat.mul_succ r n
    omega
section Lw
variable (kd ar cn : Nat → Nat) (ch : Nat → Nat → Nat) (L : Nat → Nat → Nat)
/-- all laid aside -/
def lA (p : Nat) : Nat := sm (fun i => L (ch p i) 1) (cn p) + 3 * (cn p - 1) + (if kd p = 7 then 1 else 0)
/-- all in a row -/
def lR (p : Nat) : Nat := sm (fun i => if i + 1 < cn p then L (ch p i) 2 else L (ch p i) 0) (cn p)
/-- the ways of B that D does not have -/
def bW (p : Nat) : Option Nat := if kd p = 1 then none else if kd p < 5 then some 1 else if kd p = 5 then some (min (L (ch p 0) 2 + L (ch p 1) 0) (L (ch p 1) 2 + L (ch p 0) 0)) else if kd p = 6 then some (min (min (L (ch p 0) 1 + L (ch p 1) 0 + 3) (L (ch p 1) 1 + L (ch p 0) 0 + 3)) (L (ch p 0) 0 + L (ch p 1) 0 + 3)) else if ar p = cn p then some (lR cn ch L p) else none
/-- the ways of D that B has too -/
def dW (p : Nat) (o : Option Nat) : Option Nat := if kd p = 1 then some (omin o 1) else if kd p < 5 then o else if kd p = 6 then some (min (min (min (omin o (lA kd cn ch L p)) (L (ch p 0) 1 + L (ch p 1) 1 + 3)) (L (ch p 0) 1 + L (ch p 1) 0 + 3)) (L (ch p 0) 0 + L (ch p 1) 1 + 3)) else some (omin o (lA kd cn ch L p))
def oget : Option Nat → Nat
  | none => 0
  | some w => w
def lB (p : Nat) : Nat := oget (dW kd cn ch L p (bW kd ar cn ch L p))
def lD (p : Nat) : Nat := omin (dW kd cn ch L p none) (lB kd ar cn ch L p + 4)
def lV (p : Nat) : Nat := if kd p = 5 then min (L (ch p 0) 2 + L (ch p 1) 2) (lB kd ar cn ch L p + 1) else if kd p = 6 then min (min (L (ch p 0) 1 + L (ch p 1) 2 + 2) (L (ch p 0) 2 + L (ch p 1) 2 + 3)) (lB kd ar cn ch L p + 1) else lB kd ar cn ch L p + 1
def lS (p j : Nat) : Nat := if j = 0 then lB kd ar cn ch L p else if j = 1 then lD kd ar cn ch L p else lV kd ar cn ch L p
end Lw
theorem dW_some {kd cn : Nat → Nat} {ch L : Nat → Nat → Nat} {p : Nat} {o : Option Nat} (h : kd p = 1 ∨ 5 ≤ kd p ∨ o ≠ none) : ∃ w, dW kd cn ch L p o = some w := by
  unfold dW
  by_cases h1 : kd p = 1
  · rw [if_pos h1]; exact ⟨_, rfl⟩
  · rw [if_neg h1]
    by_cases h5 : kd p < 5
    · rw [if_pos h5]
      cases o with
      | none => exact absurd rfl ((h.resolve_left h1).resolve_left (by omega))
      | some w => exact ⟨w, rfl⟩
    · rw [if_neg h5]
      split <;> exact ⟨_, rfl⟩
theorem lB_eq {kd ar cn : Nat → Nat} {ch L : Nat → Nat → Nat} {p : Nat} (h1 : 1 ≤ kd p) : dW kd cn ch L p (bW kd ar cn ch L p) = some (lB kd ar cn ch L p) := by
  have : ∃ w, dW kd cn ch L p (bW kd ar cn ch L p) = some w := by
    refine dW_some ?_
    by_cases h : kd p = 1
    · exact Or.inl h
    · by_cases h5 : 5 ≤ kd p
      · exact Or.inr (Or.inl h5)
      · refine Or.inr (Or.inr ?_)
        unfold bW
        rw [if_neg h, if_pos (by omega)]
        intro z; cases z
  obtain ⟨w, e⟩ := this
  unfold lB
  rw [e]; rfl
/-- the parts in a part: their forms -/
def KK (cn lf : Nat → Nat) (ch L : Nat → Nat → Nat) (A : Nat → Prop) (d pq : Nat) (u : ab_S) : Prop := ∀ i, i < cn pq → ∀ j, j < 3 → ∃ sz, sz ≤ 4 * lf (ch pq i) - 3 + (if j = 0 then 0 else 1) ∧ fw A u d (3 * (ch pq i + 1) + j) (L (ch pq i) j) sz
theorem KK.fr {cn lf : Nat → Nat} {ch L : Nat → Nat → Nat} {A B : Nat → Prop} {d pq : Nat} {u u' : ab_S} (h : KK cn lf ch L A d pq u) (o : fO B u u') (hB : ∀ g, A g → ¬ B g) : KK cn lf ch L A d pq u' := fun i hi j hj => by
  obtain ⟨sz, a, b⟩ := h i hi j hj
  exact ⟨sz, a, b.fr o hB _ _ _ _⟩
theorem pm.cp {K : List Nat} {kd ar cn : Nat → Nat} {ch : Nat → Nat → Nat} {pq : Nat} {u u' : ab_S} (h : pm kd ar cn ch pq u) (g : cP K u u') (h2 : ¬ 2 ∈ K) (h10 : ¬ 10 ∈ K) : pm kd ar cn ch pq u' := h.cong (fun i k _ => (g.2.2.1 2 i k h2).1) (fun i k => (g.2.2.1 10 i k h10).2)
section SaWays
variable {l : Launch} {D : va_G} {ca : Nat → ClassId}
set_option maxRecDepth 100000 in
set_option maxHeartbeats 1000000 in
theorem f_PT_offerAside (u : ab_S) (M : Nat) (kd ar cn lf : Nat → Nat) (ch L : Nat → Nat → Nat) (W : tW M kd ar cn lf ch) (pq : Nat) (hpM : pq < M) (hLb : ∀ q, q < M → ∀ j, j < 3 → L q j ≤ 9 * lf q - 4 + (if j = 2 then 1 else 0)) (h : CI u) (mm : pm kd ar cn ch pq u) (A : Nat → Prop) (d S f : Nat) (hA : ¬ A f) (hA6 : ¬ A 60) (hf : f < 60) (hS : 4 * lf pq - 3 ≤ S) (K : KK cn lf ch L A d pq u) (o : Option Nat) (B : fB A (d + 1) S u f o) (h5 : 5 ≤ kd pq) : ab_C false l D ca y_PT_offerAside b_PT_offerAside 4 none 4 ab_nQ u [ab_O 2 (pq + 1), ab_O 3 f, ab_O 3 60] (fun u' v => (cP [3, 9] u u' ∧ fO (fun i => i = f ∨ i = 60) u u' ∧ fB A (d + 1) S u' f (some (omin o (lA kd cn ch L pq)))) ∧ v = none) := by
  refine ab_C.of (by decide) (Nat.le_of_ble_eq_true rfl) ?_
  intro p e s m args below meth c ad X hZ hr0 hlk
  have P0 : cP [3, 9] u u := cQ.rf h
  have hP19 := W.2.1
  obtain ⟨⟨l1, l2, k1, k7, r9⟩, -, kb⟩ := W.2.2 pq hpM
  obtain ⟨n2, n4, n5, n7, b5, b6⟩ := kb h5
  obtain ⟨ss, hss⟩ := pick (fun i hi => K i hi 1 (by decide))
  have sS : sm ss (cn pq) + 2 * cn pq ≤ 4 * lf pq := by
    have z := sm_lin (a := ss) (g := fun i => lf (ch pq i)) (k := 4) (r := 2) (cn pq) (fun i hi => by
      have a := (hss i hi).1
      have b := (W.2.2 _ (b5 i hi).2).1.1
      rw [if_neg (by decide)] at a
      show ss i + 2 ≤ 4 * lf (ch pq i)
      omega)
    omega
  have sW : sm (fun i => L (ch pq i) 1) (cn pq) + 4 * cn pq ≤ 9 * lf pq := by
    have z := sm_lin (a := (fun i => L (ch pq i) 1)) (g := fun i => lf (ch pq i)) (k := 9) (r := 4) (cn pq) (fun i hi => by
      have a := hLb _ (b5 i hi).2 1 (by decide)
      have b := (W.2.2 _ (b5 i hi).2).1.1
      rw [if_neg (by decide)] at a
      show L (ch pq i) 1 + 4 ≤ 9 * lf (ch pq i)
      omega)
    omega
  have eA : cwn 4 (nI (ck (kd pq))) (cn pq) (sm (fun i => L (ch pq i) 1) (cn pq)) = lA kd cn ch L pq := by
    show sm (fun i => L (ch pq i) 1) (cn pq) + 3 * (cn pq - 1) + (if (nI (ck (kd pq))) = 8 then 1 else 0) = sm (fun i => L (ch pq i) 1) (cn pq) + 3 * (cn pq - 1) + (if kd pq = 7 then 1 else 0)
    have z : ((nI (ck (kd pq))) = 8) ↔ kd pq = 7 := by
      have w : kd pq = 5 ∨ kd pq = 6 ∨ kd pq = 7 := by omega
      rcases w with w | w | w <;> rw [w] <;> decide
    by_cases y : kd pq = 7
    · rw [if_pos y, if_pos (z.mpr y)]
    · rw [if_neg y, if_neg (fun x => y (z.mp x))]
  have hl9 : lA kd cn ch L pq ≤ 900 := by unfold lA; split <;> omega
  have nA : ∀ i, A i → ¬ i = 60 := fun i hi e => hA6 (by rw [← e]; exact hi)
  have fin : ∀ (u1 : ab_S), cQ 60 [3, 9] u u1 → u1.1 3 60 4 = nI 4 → cP [3, 9] u u1 := fun u1 P1 a1 => P1.un (fun mk' hm em => by
    rw [a1]; exact ⟨fun q => by rcases q with q | q | q <;> exact absurd q (by decide), fun q => absurd q (by decide)⟩)
  have loop : ∀ (k j : Nat) (u1 : ab_S), k + j = cn pq → cQ 60 [3, 9] u u1 → fO (fun i => i = 60) u u1 → FD u1 60 4 (nI (ck (kd pq))) (nI (cnu (kd pq) (ar pq))) j (fun i => 3 * (ch pq i + 1) + 1) → ab_J p l e (ab_rm 4 0 0) s m args below meth c (MQ below (ab_Q D ca ad ab_nQ s.heap.size (fun u' v => (cP [3, 9] u u' ∧ fO (fun i => i = f ∨ i = 60) u u' ∧ fB A (d + 1) S u' f (some (omin o (lA kd cn ch L pq)))) ∧ v = none)) args s 0 0 (ab_A ad ab_nQ s.heap.size)) D ca (ab_A ad ab_nQ s.heap.size) s.heap 4 0 0 ad ab_nQ u1 16 [(3, ab_I (nI j)), (0, ab_O 2 (pq + 1)), (1, ab_O 3 f), (2, ab_O 3 60)] [] := by
    intro k
    induction k with
    | zero =>
      intro j u1 hj P1 O1 D1
      obtain rfl : j = cn pq := by omega
      have P2 := fin u1 P1 D1.1
      refine ab_iload_n X 0 d_PT_offerAside_16 rfl rfl ?_
      refine ab_aload_n X 1 d_PT_offerAside_17 rfl rfl ?_
      refine ab_gI X fl_PT_37 d_PT_offerAside_18 (by first | assumption | decide | (show _ < 124; omega) | (show _ < 61; omega) | (show _ < 20; omega)) (P1.ii (by decide) mm.2.2.1) ?_
      refine ab_icmp_ge X 44 d_PT_offerAside_21 rfl (fun _ => ?_) (fun hb => absurd ((nI_le (by omega) (by omega))) hb)
      refine ab_aload_n X 2 d_PT_offerAside_44 rfl rfl ?_
      refine ab_aload_n X 3 d_PT_offerAside_45 rfl rfl ?_
      refine ab_callV (as := [ab_O 3 60]) X (fun h => by cases h) (f_FM_off u1 A d S f 4 (cn pq) (nI (ck (kd pq))) _ (fun i => 3 * (ch pq i + 1) + 1) (fun i => L (ch pq i) 1) ss o D1 ⟨by decide, by decide, n4, by unfold shp; omega⟩ (by rw [eA]; exact hl9) (by omega) (by omega) (B.fr O1 nA (by omega)) (fun i hi => (hss i hi).2.fr O1 nA _ _ _ _) P2.1 hA hf) lk_PT_73 d_PT_offerAside_46 rfl rfl (by first | assumption | decide | (show _ < 124; omega) | (show _ < 61; omega) | (show _ < 20; omega)) ⟨by first | exact Nat.le_of_ble_eq_true rfl | (simp only [ab_rm]; omega), by first | exact Nat.le_of_ble_eq_true rfl | (simp only [ab_rm]; omega)⟩ ⟨by first | exact Nat.le_of_ble_eq_true rfl | (simp only [ab_rm]; omega), by first | exact Nat.le_of_ble_eq_true rfl | (simp only [ab_rm]; omega)⟩ (Nat.le_of_ble_eq_true rfl) (fun u46 r46 h46 => ?_)
      obtain ⟨⟨q46, o46, b46⟩, rfl⟩ := h46
      have P46 := P2.trans q46 (by decide)
      exact ab_retv X hr0 hlk d_PT_offerAside_49 ⟨⟨P46, (O1.wk (fun _ z => Or.inr z)).trans (o46.wk (fun _ z => Or.inl z)), by rw [eA] at b46; exact b46⟩, rfl⟩
    | succ k ih =>
      intro j u1 hj P1 O1 D1
      have P2 := fin u1 P1 D1.1
      have c20 := (b5 j (by omega)).2
      refine ab_iload_n X 0 d_PT_offerAside_16 rfl rfl ?_
      refine ab_aload_n X 1 d_PT_offerAside_17 rfl rfl ?_
      refine ab_gI X fl_PT_37 d_PT_offerAside_18 (by first | assumption | decide | (show _ < 124; omega) | (show _ < 61; omega) | (show _ < 20; omega)) (P1.ii (by decide) mm.2.2.1) ?_
      refine ab_icmp_ge X 44 d_PT_offerAside_21 rfl (fun hb => absurd hb ((nI_ge (by omega) (by omega)))) (fun _ => ?_)
      refine ab_aload_n X 3 d_PT_offerAside_24 rfl rfl ?_
      refine ab_aload_n X 1 d_PT_offerAside_25 rfl rfl ?_
      refine ab_gR X fl_PT_11 d_PT_offerAside_26 (by first | assumption | decide | (show _ < 124; omega) | (show _ < 61; omega) | (show _ < 20; omega)) (P2.1.pt0 (by first | assumption | decide | omega)) ?_
      refine ab_iload_n X 0 d_PT_offerAside_29 rfl rfl ?_
      refine ab_aalv X (j) ⟨rfl, _, fun _ => rfl⟩ d_PT_offerAside_30 (by first | assumption | decide | (show _ < 124; omega) | (show _ < 61; omega) | (show _ < 20; omega)) (rfl) (show j < 4 by omega) (ab_ln_lt _ _) (P1.rr (by decide) (mm.2.2.2 j (by omega))) ?_
      refine ab_gR X fl_PT_24 d_PT_offerAside_31 (by first | assumption | decide | (show _ < 124; omega) | (show _ < 61; omega) | (show _ < 20; omega)) (P2.1.pt2 (by first | assumption | decide | omega)) ?_
      refine ab_callV (as := [ab_O 3 (3 * (ch pq j + 1) + 1)]) X (fun h => by cases h) (f_FM_with u1 60 4 j (3 * (ch pq j + 1) + 1) _ _ (fun i => 3 * (ch pq i + 1) + 1) P1.1 (by decide) (by omega) D1 rfl (by omega)) lk_PT_69 d_PT_offerAside_34 rfl rfl (by first | assumption | decide | (show _ < 124; omega) | (show _ < 61; omega) | (show _ < 20; omega)) ⟨by first | exact Nat.le_of_ble_eq_true rfl | (simp only [ab_rm]; omega), by first | exact Nat.le_of_ble_eq_true rfl | (simp only [ab_rm]; omega)⟩ ⟨by first | exact Nat.le_of_ble_eq_true rfl | (simp only [ab_rm]; omega), by first | exact Nat.le_of_ble_eq_true rfl | (simp only [ab_rm]; omega)⟩ (Nat.le_of_ble_eq_true rfl) (fun u34 r34 h34 => ?_)
      obtain ⟨⟨q34, o34, d34, w34, x34⟩, rfl⟩ := h34
      have P34 := P2.trans q34 (by decide)
      refine ab_pop X d_PT_offerAside_37 rfl ?_
      refine ab_iinc3 X 0 1 2 3 d_PT_offerAside_38 rfl (by decide) rfl rfl rfl rfl rfl rfl ?_
      refine ab_goto X 16 d_PT_offerAside_41 rfl ?_
      rw [show nI j + Int32.ofInt 1 = nI (j + 1) from nI_1 j]
      exact ih (j + 1) _ (by omega) (P1.trans q34 (by decide)) (O1.trans o34) d34
  refine ab_aload_n X 2 d_PT_offerAside_0 rfl rfl ?_
  refine ab_iconst (v := 4) X d_PT_offerAside_1 (by decide) ?_
  refine ab_aload_n X 0 d_PT_offerAside_2 rfl rfl ?_
  refine ab_gI X fl_PT_30 d_PT_offerAside_3 (by first | assumption | decide | (show _ < 124; omega) | (show _ < 61; omega) | (show _ < 20; omega)) (mm.1) ?_
  refine ab_aload_n X 0 d_PT_offerAside_6 rfl rfl ?_
  refine ab_gI X fl_PT_34 d_PT_offerAside_7 (by first | assumption | decide | (show _ < 124; omega) | (show _ < 61; omega) | (show _ < 20; omega)) (mm.2.1) ?_
  refine ab_callV (as := [ab_I (nI 4), ab_I (nI (ck (kd pq))), ab_I (nI (cnu (kd pq) (ar pq)))]) X (fun h => by cases h) (f_FM_start u 60 4 (nI (ck (kd pq))) (nI (cnu (kd pq) (ar pq))) (fun i => 3 * (ch pq i + 1) + 1) (P0.ex 60).1 (by decide)) lk_PT_65 d_PT_offerAside_10 rfl rfl (by first | assumption | decide | (show _ < 124; omega) | (show _ < 61; omega) | (show _ < 20; omega)) ⟨by first | exact Nat.le_of_ble_eq_true rfl | (simp only [ab_rm]; omega), by first | exact Nat.le_of_ble_eq_true rfl | (simp only [ab_rm]; omega)⟩ ⟨by first | exact Nat.le_of_ble_eq_true rfl | (simp only [ab_rm]; omega), by first | exact Nat.le_of_ble_eq_true rfl | (simp only [ab_rm]; omega)⟩ (Nat.le_of_ble_eq_true rfl) (fun u10 r10 h10 => ?_)
  obtain ⟨⟨q10, o10, d10, w10, x10⟩, rfl⟩ := h10
  have P10 := P0.trans q10 (by decide)
  refine ab_pop X d_PT_offerAside_13 rfl ?_
  refine ab_iconst (v := 0) X d_PT_offerAside_14 (by decide) ?_
  refine ab_istore_n3 X 0 1 2 d_PT_offerAside_15 rfl (by decide) rfl rfl rfl rfl rfl rfl ?_
  exact loop (cn pq) 0 _ (by omega) P10 o10 d10
set_option maxRecDepth 100000 in
set_option maxHeartbeats 1000000 in
theorem f_PT_offerRow (u : ab_S) (M : Nat) (kd ar cn lf : Nat → Nat) (ch L : Nat → Nat → Nat) (W : tW M kd ar cn lf ch) (pq : Nat) (hpM : pq < M) (hLb : ∀ q, q < M → ∀ j, j < 3 → L q j ≤ 9 * lf q - 4 + (if j = 2 then 1 else 0)) (h : CI u) (mm : pm kd ar cn ch pq u) (A : Nat → Prop) (d S f : Nat) (hA : ¬ A f) (hA6 : ¬ A 60) (hf : f < 60) (hS : 4 * lf pq - 3 ≤ S) (K : KK cn lf ch L A d pq u) (o : Option Nat) (B : fB A (d + 1) S u f o) (h5 : kd pq = 7) (hfB : f = 3 * (pq + 1)) : ab_C false l D ca y_PT_offerRowOfAll b_PT_offerRowOfAll 3 none 4 ab_nQ u [ab_O 2 (pq + 1), ab_O 3 60] (fun u' v => (cP [3, 9] u u' ∧ fO (fun i => i = f ∨ i = 60) u u' ∧ fB A (d + 1) S u' f (some (omin o (lR cn ch L pq)))) ∧ v = none) := by
  refine ab_C.of (by decide) (Nat.le_of_ble_eq_true rfl) ?_
  intro p e s m args below meth c ad X hZ hr0 hlk
  have P0 : cP [3, 9] u u := cQ.rf h
  have hP19 := W.2.1
  obtain ⟨⟨l1, l2, k1, k7, r9⟩, -, kb⟩ := W.2.2 pq hpM
  obtain ⟨n2, n4, n5, n7, b5, b6⟩ := kb (by omega)
  obtain ⟨ss, hss⟩ := pick (n := cn pq) (P := fun i sz => sz ≤ 4 * lf (ch pq i) - 2 ∧ fw A u d ((fun i => if i + 1 < cn pq then 3 * (ch pq i + 1) + 2 else 3 * (ch pq i + 1)) i) ((fun i => if i + 1 < cn pq then L (ch pq i) 2 else L (ch pq i) 0) i) sz) (fun i hi => by
    by_cases z : i + 1 < cn pq
    · obtain ⟨sz, a, b⟩ := K i hi 2 (by decide)
      have b1 := (W.2.2 _ (b5 i hi).2).1.1
      refine ⟨sz, by rw [if_neg (by decide)] at a; omega, ?_⟩
      show fw A u d (if i + 1 < cn pq then _ else _) (if i + 1 < cn pq then _ else _) sz
      rw [if_pos z, if_pos z]; exact b
    · obtain ⟨sz, a, b⟩ := K i hi 0 (by decide)
      have b1 := (W.2.2 _ (b5 i hi).2).1.1
      refine ⟨sz, by rw [if_pos rfl] at a; omega, ?_⟩
      show fw A u d (if i + 1 < cn pq then _ else _) (if i + 1 < cn pq then _ else _) sz
      rw [if_neg z, if_neg z]; exact b)
  have sS : sm ss (cn pq) + 2 * cn pq ≤ 4 * lf pq := by
    have z := sm_lin (a := ss) (g := fun i => lf (ch pq i)) (k := 4) (r := 2) (cn pq) (fun i hi => by
      have a := (hss i hi).1
      have b := (W.2.2 _ (b5 i hi).2).1.1
      show ss i + 2 ≤ 4 * lf (ch pq i)
      omega)
    omega
  have sW : sm (fun i => if i + 1 < cn pq then L (ch pq i) 2 else L (ch pq i) 0) (cn pq) + 3 * cn pq ≤ 9 * lf pq := by
    have z := sm_lin (a := (fun i => if i + 1 < cn pq then L (ch pq i) 2 else L (ch pq i) 0)) (g := fun i => lf (ch pq i)) (k := 9) (r := 3) (cn pq) (fun i hi => by
      have a2 := hLb _ (b5 i hi).2 2 (by decide)
      have a0 := hLb _ (b5 i hi).2 0 (by decide)
      have b := (W.2.2 _ (b5 i hi).2).1.1
      rw [if_pos rfl] at a2
      rw [if_neg (by decide)] at a0
      show (if i + 1 < cn pq then L (ch pq i) 2 else L (ch pq i) 0) + 3 ≤ 9 * lf (ch pq i)
      split <;> omega)
    omega
  have eA : cwn 2 0 (cn pq) (sm (fun i => if i + 1 < cn pq then L (ch pq i) 2 else L (ch pq i) 0) (cn pq)) = lR cn ch L pq := rfl
  have hl9 : lR cn ch L pq ≤ 900 := by unfold lR; omega
  have nA : ∀ i, A i → ¬ i = 60 := fun i hi e => hA6 (by rw [← e]; exact hi)
  have fin : ∀ (u1 : ab_S), cQ 60 [3, 9] u u1 → u1.1 3 60 4 = nI 2 → cP [3, 9] u u1 := fun u1 P1 a1 => P1.un (fun mk' hm em => by
    rw [a1]; exact ⟨fun q => by rcases q with q | q | q <;> exact absurd q (by decide), fun q => absurd q (by decide)⟩)
  have loop : ∀ (k j : Nat) (u1 : ab_S), k + j = cn pq → cQ 60 [3, 9] u u1 → fO (fun i => i = 60) u u1 → FD u1 60 2 0 (nI (cn pq)) j (fun i => if i + 1 < cn pq then 3 * (ch pq i + 1) + 2 else 3 * (ch pq i + 1)) → ab_J p l e (ab_rm 4 0 0) s m args below meth c (MQ below (ab_Q D ca ad ab_nQ s.heap.size (fun u' v => (cP [3, 9] u u' ∧ fO (fun i => i = f ∨ i = 60) u u' ∧ fB A (d + 1) S u' f (some (omin o (lR cn ch L pq)))) ∧ v = none)) args s 0 0 (ab_A ad ab_nQ s.heap.size)) D ca (ab_A ad ab_nQ s.heap.size) s.heap 3 0 0 ad ab_nQ u1 13 [(2, ab_I (nI j)), (0, ab_O 2 (pq + 1)), (1, ab_O 3 60)] [] := by
    intro k
    induction k with
    | zero =>
      intro j u1 hj P1 O1 D1
      obtain rfl : j = cn pq := by omega
      have P2 := fin u1 P1 D1.1
      refine ab_iload_n X 0 d_PT_offerRowOfAll_13 rfl rfl ?_
      refine ab_aload_n X 1 d_PT_offerRowOfAll_14 rfl rfl ?_
      refine ab_gI X fl_PT_37 d_PT_offerRowOfAll_15 (by first | assumption | decide | (show _ < 124; omega) | (show _ < 61; omega) | (show _ < 20; omega)) (P1.ii (by decide) mm.2.2.1) ?_
      refine ab_icmp_ge X 63 d_PT_offerRowOfAll_18 rfl (fun _ => ?_) (fun hb => absurd ((nI_le (by omega) (by omega))) hb)
      refine ab_aload_n X 1 d_PT_offerRowOfAll_63 rfl rfl ?_
      refine ab_gR X fl_PT_20 d_PT_offerRowOfAll_64 (by first | assumption | decide | (show _ < 124; omega) | (show _ < 61; omega) | (show _ < 20; omega)) (P2.1.pt1 (by first | assumption | decide | omega)) ?_
      rw [← hfB]
      refine ab_aload_n X 2 d_PT_offerRowOfAll_67 rfl rfl ?_
      refine ab_callV (as := [ab_O 3 60]) X (fun h => by cases h) (f_FM_off u1 A d S f 2 (cn pq) 0 _ (fun i => if i + 1 < cn pq then 3 * (ch pq i + 1) + 2 else 3 * (ch pq i + 1)) (fun i => if i + 1 < cn pq then L (ch pq i) 2 else L (ch pq i) 0) ss o D1 ⟨by decide, by decide, n4, by unfold shp; omega⟩ (by rw [eA]; exact hl9) (by omega) (by omega) (B.fr O1 nA (by omega)) (fun i hi => (hss i hi).2.fr O1 nA _ _ _ _) P2.1 hA hf) lk_PT_73 d_PT_offerRowOfAll_68 rfl rfl (by first | assumption | decide | (show _ < 124; omega) | (show _ < 61; omega) | (show _ < 20; omega)) ⟨by first | exact Nat.le_of_ble_eq_true rfl | (simp only [ab_rm]; omega), by first | exact Nat.le_of_ble_eq_true rfl | (simp only [ab_rm]; omega)⟩ ⟨by first | exact Nat.le_of_ble_eq_true rfl | (simp only [ab_rm]; omega), by first | exact Nat.le_of_ble_eq_true rfl | (simp only [ab_rm]; omega)⟩ (Nat.le_of_ble_eq_true rfl) (fun u68 r68 h68 => ?_)
      obtain ⟨⟨q68, o68, b68⟩, rfl⟩ := h68
      have P68 := P2.trans q68 (by decide)
      exact ab_retv X hr0 hlk d_PT_offerRowOfAll_71 ⟨⟨P68, (O1.wk (fun _ z => Or.inr z)).trans (o68.wk (fun _ z => Or.inl z)), b68⟩, rfl⟩
    | succ k ih =>
      intro j u1 hj P1 O1 D1
      have P2 := fin u1 P1 D1.1
      have c20 := (b5 j (by omega)).2
      refine ab_iload_n X 0 d_PT_offerRowOfAll_13 rfl rfl ?_
      refine ab_aload_n X 1 d_PT_offerRowOfAll_14 rfl rfl ?_
      refine ab_gI X fl_PT_37 d_PT_offerRowOfAll_15 (by first | assumption | decide | (show _ < 124; omega) | (show _ < 61; omega) | (show _ < 20; omega)) (P1.ii (by decide) mm.2.2.1) ?_
      refine ab_icmp_ge X 63 d_PT_offerRowOfAll_18 rfl (fun hb => absurd hb ((nI_ge (by omega) (by omega)))) (fun _ => ?_)
      refine ab_aload_n X 2 d_PT_offerRowOfAll_21 rfl rfl ?_
      refine ab_iload_n X 0 d_PT_offerRowOfAll_22 rfl rfl ?_
      refine ab_aload_n X 1 d_PT_offerRowOfAll_23 rfl rfl ?_
      refine ab_gI X fl_PT_37 d_PT_offerRowOfAll_24 (by first | assumption | decide | (show _ < 124; omega) | (show _ < 61; omega) | (show _ < 20; omega)) (P1.ii (by decide) mm.2.2.1) ?_
      refine ab_iconst (v := 1) X d_PT_offerRowOfAll_27 (by decide) ?_
      refine ab_isub X d_PT_offerRowOfAll_28 ?_
      refine ab_top (nI_m1 (by omega)) ?_
      refine ab_icmp_ge X 44 d_PT_offerRowOfAll_29 rfl (fun h29 => ?_) (fun h29 => ?_)
      ·
        have g1 : (fun i => if i + 1 < cn pq then 3 * (ch pq i + 1) + 2 else 3 * (ch pq i + 1)) j = 3 * (ch pq j + 1) := if_neg (by have := nI_le_of h29 (by omega); omega)
        refine ab_aload_n X 1 d_PT_offerRowOfAll_44 rfl rfl ?_
        refine ab_gR X fl_PT_11 d_PT_offerRowOfAll_45 (by first | assumption | decide | (show _ < 124; omega) | (show _ < 61; omega) | (show _ < 20; omega)) (P2.1.pt0 (by first | assumption | decide | omega)) ?_
        refine ab_iload_n X 0 d_PT_offerRowOfAll_48 rfl rfl ?_
        refine ab_aalv X (j) ⟨rfl, _, fun _ => rfl⟩ d_PT_offerRowOfAll_49 (by first | assumption | decide | (show _ < 124; omega) | (show _ < 61; omega) | (show _ < 20; omega)) (rfl) (show j < 4 by omega) (ab_ln_lt _ _) (P1.rr (by decide) (mm.2.2.2 j (by omega))) ?_
        refine ab_gR X fl_PT_20 d_PT_offerRowOfAll_50 (by first | assumption | decide | (show _ < 124; omega) | (show _ < 61; omega) | (show _ < 20; omega)) (P2.1.pt1 (by first | assumption | decide | omega)) ?_
        refine ab_callV (as := [ab_O 3 _]) X (fun h => by cases h) (f_FM_with u1 60 2 j _ _ _ (fun i => if i + 1 < cn pq then 3 * (ch pq i + 1) + 2 else 3 * (ch pq i + 1)) P1.1 (by decide) (by omega) D1 g1 (by omega)) lk_PT_69 d_PT_offerRowOfAll_53 rfl rfl (by first | assumption | decide | (show _ < 124; omega) | (show _ < 61; omega) | (show _ < 20; omega)) ⟨by first | exact Nat.le_of_ble_eq_true rfl | (simp only [ab_rm]; omega), by first | exact Nat.le_of_ble_eq_true rfl | (simp only [ab_rm]; omega)⟩ ⟨by first | exact Nat.le_of_ble_eq_true rfl | (simp only [ab_rm]; omega), by first | exact Nat.le_of_ble_eq_true rfl | (simp only [ab_rm]; omega)⟩ (Nat.le_of_ble_eq_true rfl) (fun u53 r53 h53 => ?_)
        obtain ⟨⟨q53, o53, d53, w53, x53⟩, rfl⟩ := h53
        have P53 := P2.trans q53 (by decide)
        refine ab_pop X d_PT_offerRowOfAll_56 rfl ?_
        refine ab_iinc2 X 0 1 2 d_PT_offerRowOfAll_57 rfl (by decide) rfl rfl rfl rfl ?_
        refine ab_goto X 13 d_PT_offerRowOfAll_60 rfl ?_
        rw [show nI j + Int32.ofInt 1 = nI (j + 1) from nI_1 j]
        exact ih (j + 1) _ (by omega) (P1.trans q53 (by decide)) (O1.trans o53) d53
      ·
        have g1 : (fun i => if i + 1 < cn pq then 3 * (ch pq i + 1) + 2 else 3 * (ch pq i + 1)) j = 3 * (ch pq j + 1) + 2 := if_pos (by have := nI_lt_of h29 (by omega); omega)
        refine ab_aload_n X 1 d_PT_offerRowOfAll_32 rfl rfl ?_
        refine ab_gR X fl_PT_11 d_PT_offerRowOfAll_33 (by first | assumption | decide | (show _ < 124; omega) | (show _ < 61; omega) | (show _ < 20; omega)) (P2.1.pt0 (by first | assumption | decide | omega)) ?_
        refine ab_iload_n X 0 d_PT_offerRowOfAll_36 rfl rfl ?_
        refine ab_aalv X (j) ⟨rfl, _, fun _ => rfl⟩ d_PT_offerRowOfAll_37 (by first | assumption | decide | (show _ < 124; omega) | (show _ < 61; omega) | (show _ < 20; omega)) (rfl) (show j < 4 by omega) (ab_ln_lt _ _) (P1.rr (by decide) (mm.2.2.2 j (by omega))) ?_
        refine ab_gR X fl_PT_27 d_PT_offerRowOfAll_38 (by first | assumption | decide | (show _ < 124; omega) | (show _ < 61; omega) | (show _ < 20; omega)) (P2.1.pt3 (by first | assumption | decide | omega)) ?_
        refine ab_goto X 53 d_PT_offerRowOfAll_41 rfl ?_
        refine ab_callV (as := [ab_O 3 _]) X (fun h => by cases h) (f_FM_with u1 60 2 j _ _ _ (fun i => if i + 1 < cn pq then 3 * (ch pq i + 1) + 2 else 3 * (ch pq i + 1)) P1.1 (by decide) (by omega) D1 g1 (by omega)) lk_PT_69 d_PT_offerRowOfAll_53 rfl rfl (by first | assumption | decide | (show _ < 124; omega) | (show _ < 61; omega) | (show _ < 20; omega)) ⟨by first | exact Nat.le_of_ble_eq_true rfl | (simp only [ab_rm]; omega), by first | exact Nat.le_of_ble_eq_true rfl | (simp only [ab_rm]; omega)⟩ ⟨by first | exact Nat.le_of_ble_eq_true rfl | (simp only [ab_rm]; omega), by first | exact Nat.le_of_ble_eq_true rfl | (simp only [ab_rm]; omega)⟩ (Nat.le_of_ble_eq_true rfl) (fun u53 r53 h53 => ?_)
        obtain ⟨⟨q53, o53, d53, w53, x53⟩, rfl⟩ := h53
        have P53 := P2.trans q53 (by decide)
        refine ab_pop X d_PT_offerRowOfAll_56 rfl ?_
        refine ab_iinc2 X 0 1 2 d_PT_offerRowOfAll_57 rfl (by decide) rfl rfl rfl rfl ?_
        refine ab_goto X 13 d_PT_offerRowOfAll_60 rfl ?_
        rw [show nI j + Int32.ofInt 1 = nI (j + 1) from nI_1 j]
        exact ih (j + 1) _ (by omega) (P1.trans q53 (by decide)) (O1.trans o53) d53
  refine ab_aload_n X 1 d_PT_offerRowOfAll_0 rfl rfl ?_
  refine ab_iconst (v := 2) X d_PT_offerRowOfAll_1 (by decide) ?_
  refine ab_iconst (v := 0) X d_PT_offerRowOfAll_2 (by decide) ?_
  refine ab_aload_n X 0 d_PT_offerRowOfAll_3 rfl rfl ?_
  refine ab_gI X fl_PT_37 d_PT_offerRowOfAll_4 (by first | assumption | decide | (show _ < 124; omega) | (show _ < 61; omega) | (show _ < 20; omega)) (mm.2.2.1) ?_
  refine ab_callV (as := [ab_I (nI 2), ab_I 0, ab_I (nI (cn pq))]) X (fun h => by cases h) (f_FM_start u 60 2 0 (nI (cn pq)) (fun i => if i + 1 < cn pq then 3 * (ch pq i + 1) + 2 else 3 * (ch pq i + 1)) (P0.ex 60).1 (by decide)) lk_PT_65 d_PT_offerRowOfAll_7 rfl rfl (by first | assumption | decide | (show _ < 124; omega) | (show _ < 61; omega) | (show _ < 20; omega)) ⟨by first | exact Nat.le_of_ble_eq_true rfl | (simp only [ab_rm]; omega), by first | exact Nat.le_of_ble_eq_true rfl | (simp only [ab_rm]; omega)⟩ ⟨by first | exact Nat.le_of_ble_eq_true rfl | (simp only [ab_rm]; omega), by first | exact Nat.le_of_ble_eq_true rfl | (simp only [ab_rm]; omega)⟩ (Nat.le_of_ble_eq_true rfl) (fun u7 r7 h7 => ?_)
  obtain ⟨⟨q7, o7, d7, w7, x7⟩, rfl⟩ := h7
  have P7 := P0.trans q7 (by decide)
  refine ab_pop X d_PT_offerRowOfAll_10 rfl ?_
  refine ab_iconst (v := 0) X d_PT_offerRowOfAll_11 (by decide) ?_
  refine ab_istore_n2 X 0 1 d_PT_offerRowOfAll_12 rfl (by decide) rfl rfl rfl rfl ?_
  exact loop (cn pq) 0 _ (by omega) P7 o7 d7
end SaWays

