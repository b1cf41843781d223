/-! The ways of a part are offered, one after another. -/
/-- the forms of the parts from lo on stand -/
def cK (M : Nat) (Y : Nat → Nat → Nat × Nat × Nat) (R : Nat → List Nat) (lo : Nat) (u : ab_S) : Prop := ∀ c, lo ≤ c → c < M → ∀ j, j < 3 → kC Y R u c j
theorem pm.cp {K : List Nat} {kd ar cn : Nat → Nat} {ch : Nat → Nat → Nat} {pq : Nat} {u u' : ab_S} (h : pm kd ar cn ch pq u) (g : cP K u u') (h2 : ¬ 2 ∈ K) (h10 : ¬ 10 ∈ K) : pm kd ar cn ch pq u' := h.cong (fun i k _ => (g.2.2.1 2 i k h2).1) (fun i k => (g.2.2.1 10 i k h10).2)
theorem cK.fr {M : Nat} {Y : Nat → Nat → Nat × Nat × Nat} {R : Nat → List Nat} {lo : Nat} {u u' : ab_S} {A : Nat → Prop} (h : cK M Y R lo u) (o : fO A u u') (hA : ∀ i, A i → i < 3 * (lo + 1) ∨ 60 ≤ i) (hM : M ≤ 19) : cK M Y R lo u' := fun c a b j hj => (h c a b j hj).fr o (fun z => by have := hA _ z; omega)
theorem kCs.of {M : Nat} {kd ar cn lf : Nat → Nat} {ch : Nat → Nat → Nat} {Y : Nat → Nat → Nat × Nat × Nat} {R : Nat → List Nat} {u : ab_S} {p j w : Nat} (W : tW M kd ar cn lf ch) (hp : p < M) (hw : wok (kd p) (ar p) (cn p) j w) (h : cK M Y R (p + 1) u) (h0 : w = 8 ∨ w = 24 → kC Y R u p 0) : kCs cn ch Y R u p w := fun i hi => by
  rcases cp_in W hp hw hi with ⟨e8, e1, e2, -⟩ | ⟨-, e1, e2⟩
  · rw [e1, e2]; exact h0 e8
  · exact h _ (by omega) e2 _ (cj_lt cn w p i)
def wB1 (k a n : Nat) : List Nat := if k = 1 then [] else if k = 2 then [11] else if k < 5 then [12] else if k = 5 then [13, 14] else if k = 6 then [15, 16, 17] else if a = n then [18] else []
def wD1 (k : Nat) : List Nat := if k = 1 then [1] else if k < 5 then [] else if k = 5 then [2] else if k = 6 then [3, 4, 5, 6] else [7]
def wV1 (k : Nat) : List Nat := if k = 5 then [21] else if k = 6 then [22, 23] else []
theorem wys_0 (k a n : Nat) : wys k a n 0 = wB1 k a n ++ wD1 k := by
  unfold wys wB1 wD1
  rw [if_pos rfl]
  repeat' split
  all_goals first | rfl | omega
theorem wys_1 (k a n : Nat) : wys k a n 1 = wD1 k ++ [8] := by
  unfold wys wD1
  rw [if_neg (by decide), if_pos rfl]
  repeat' split
  all_goals first | rfl | omega
theorem wys_2 (k a n : Nat) : wys k a n 2 = wV1 k ++ [24] := by
  unfold wys wV1
  rw [if_neg (by decide), if_neg (by decide)]
  repeat' split
  all_goals first | rfl | omega
theorem pks_app {F H : Nat → Nat} : ∀ (l1 l2 : List Nat) (o : Option (Nat × Nat × Nat)), pks F H o (l1 ++ l2) = pks F H (pks F H o l1) l2 := by
  intro l1
  induction l1 with
  | nil => intro l2 o; rfl
  | cons a l1 ih => intro l2 o; exact ih l2 _
section SaXWays
variable {l : Launch} {D : va_G} {ca : Nat → ClassId}
set_option maxRecDepth 100000 in
set_option maxHeartbeats 1000000 in
theorem x_PT_offerTwo (u : ab_S) (M : Nat) (kd ar cn lf : Nat → Nat) (ch : Nat → Nat → Nat) (Y : Nat → Nat → Nat × Nat × Nat) (R : Nat → List Nat) (W : tW M kd ar cn lf ch) (hB : ∀ q, q < M → xB lf Y R q) (pq : Nat) (hpM : pq < M) (h : CI u) (f : Nat) (o : Option (Nat × Nat × Nat)) (B : xO kd ar cn ch u pq f o) (hf : f < 3 * (pq + 2)) (K : cK M Y R (pq + 1) u) (w j x1 x2 : Nat) (hw : wok (kd pq) (ar pq) (cn pq) j w) (h8 : ¬ (w = 8 ∨ w = 24)) (hm : mrk kd ar w pq = 0) (hn : ned kd ar cn w pq = 2) (hc : ct cn w pq = 2) (e1 : (fun i => 3 * (cp ch w pq i + 1) + cj cn w pq i) 0 = x1) (e2 : (fun i => 3 * (cp ch w pq i + 1) + cj cn w pq i) 1 = x2) : ab_C false l D ca y_PT_offerTwo b_PT_offerTwo 5 none 4 ab_nQ u [ab_O 3 f, ab_O 3 60, ab_I (nI (rul w)), ab_O 3 x1, ab_O 3 x2] (fun u' v => (cP [3, 9] u u' ∧ fO (fun i => i = f ∨ i = 60) u u' ∧ xO kd ar cn ch u' pq f (pk o w (tL cn ch (xL Y) pq w) (tG kd ar cn ch (xG Y) R pq w))) ∧ v = none) := by
  refine ab_C.of (by decide) (Nat.le_of_ble_eq_true rfl) ?_
  intro p e s m args below meth c ad X hZ hr0 hlk
  have P0 : cP [3, 9] u u := cQ.rf h
  have hP19 := W.2.1
  have hf60 : f < 60 := by omega
  have b1 : x1 < 60 := by
    have a := cj_lt cn w pq 0
    have c : cp ch w pq 0 < M := by rcases cp_in W hpM hw (i := 0) (by omega) with ⟨-, e, -⟩ | ⟨-, -, e⟩ <;> omega
    have e1 : 3 * (cp ch w pq 0 + 1) + cj cn w pq 0 = x1 := e1
    omega
  have b2 : x2 < 60 := by
    have a := cj_lt cn w pq 1
    have c : cp ch w pq 1 < M := by rcases cp_in W hpM hw (i := 1) (by omega) with ⟨-, e, -⟩ | ⟨-, -, e⟩ <;> omega
    have e2 : 3 * (cp ch w pq 1 + 1) + cj cn w pq 1 = x2 := e2
    omega
  have cl : ci_cl (nI (rul w)) 2 := ⟨fun _ => by omega, fun _ => by omega⟩
  refine ab_aload_n X 0 d_PT_offerTwo_0 rfl rfl ?_
  refine ab_aload_n X 1 d_PT_offerTwo_1 rfl rfl ?_
  refine ab_iload_n X 2 d_PT_offerTwo_2 rfl rfl ?_
  refine ab_iconst (v := 0) X d_PT_offerTwo_3 (by decide) ?_
  refine ab_iconst (v := 2) X d_PT_offerTwo_4 (by decide) ?_
  refine ab_callV (as := [ab_I (nI (rul w)), ab_I 0, ab_I 2]) X (fun h => by cases h) (f_FM_start u 60 (rul w) 0 2 (fun i => 3 * (cp ch w pq i + 1) + cj cn w pq i) (P0.ex 60).1 (by decide)) lk_PT_65 d_PT_offerTwo_5 rfl rfl (by first | assumption | decide | (show _ < 124; omega) | (show _ < 61; omega) | (show _ < 20; omega)) ⟨by first | exact Nat.le_of_ble_eq_true rfl | (simp only [ab_rm]; omega), by first | exact Nat.le_of_ble_eq_true rfl | (simp only [ab_rm]; omega)⟩ ⟨by first | exact Nat.le_of_ble_eq_true rfl | (simp only [ab_rm]; omega), by first | exact Nat.le_of_ble_eq_true rfl | (simp only [ab_rm]; omega)⟩ (Nat.le_of_ble_eq_true rfl) (fun u5 r5 h5 => ?_)
  obtain ⟨⟨q5, o5, d5, w5, x5⟩, rfl⟩ := h5
  have P5 := P0.trans q5 (by decide)
  refine ab_aload_n X 3 d_PT_offerTwo_8 rfl rfl ?_
  refine ab_callV (as := [ab_O 3 x1]) X (fun h => by cases h) (f_FM_with u5 60 (rul w) 0 x1 0 2 (fun i => 3 * (cp ch w pq i + 1) + cj cn w pq i) P5.1 (by decide) (by omega) d5 e1 (by decide)) lk_PT_69 d_PT_offerTwo_9 rfl rfl (by first | assumption | decide | (show _ < 124; omega) | (show _ < 61; omega) | (show _ < 20; omega)) ⟨by first | exact Nat.le_of_ble_eq_true rfl | (simp only [ab_rm]; omega), by first | exact Nat.le_of_ble_eq_true rfl | (simp only [ab_rm]; omega)⟩ ⟨by first | exact Nat.le_of_ble_eq_true rfl | (simp only [ab_rm]; omega), by first | exact Nat.le_of_ble_eq_true rfl | (simp only [ab_rm]; omega)⟩ (Nat.le_of_ble_eq_true rfl) (fun u9 r9 h9 => ?_)
  obtain ⟨⟨q9, o9, d9, w9, x9⟩, rfl⟩ := h9
  have P9 := P5.trans q9 (by decide)
  refine ab_aload X 4 d_PT_offerTwo_12 rfl ?_
  refine ab_callV (as := [ab_O 3 x2]) X (fun h => by cases h) (f_FM_with u9 60 (rul w) 1 x2 0 2 (fun i => 3 * (cp ch w pq i + 1) + cj cn w pq i) P9.1 (by decide) (by omega) d9 e2 (by decide)) lk_PT_69 d_PT_offerTwo_14 rfl rfl (by first | assumption | decide | (show _ < 124; omega) | (show _ < 61; omega) | (show _ < 20; omega)) ⟨by first | exact Nat.le_of_ble_eq_true rfl | (simp only [ab_rm]; omega), by first | exact Nat.le_of_ble_eq_true rfl | (simp only [ab_rm]; omega)⟩ ⟨by first | exact Nat.le_of_ble_eq_true rfl | (simp only [ab_rm]; omega), by first | exact Nat.le_of_ble_eq_true rfl | (simp only [ab_rm]; omega)⟩ (Nat.le_of_ble_eq_true rfl) (fun u14 r14 h14 => ?_)
  obtain ⟨⟨q14, o14, d14, w14, x14⟩, rfl⟩ := h14
  have P14 := P9.trans q14 (by decide)
  have R17 : cP [3, 9] u u14 := ci_done P14 d14.1 d14.2.2.2.1 (by decide) cl
  have O14 : fO (fun i => i = 60) u u14 := (o5.trans o9).trans o14
  have F14 : Fw kd ar cn ch u14 pq 60 w := by unfold Fw; rw [hm, hn, hc]; exact d14
  have K14 : cK M Y R (pq + 1) u14 := K.fr O14 (fun i hi => Or.inr (by omega)) hP19
  refine ab_callV (as := [ab_O 3 60]) X (fun h => by cases h) (x_FM_off u14 M kd ar cn lf ch Y R W hB pq hpM w j f o hw F14 (kCs.of W hpM hw K14 (fun z => absurd z h8)) (B.fr O14 (by omega)) R17.1 hf60) lk_PT_73 d_PT_offerTwo_17 rfl rfl (by first | assumption | decide | (show _ < 124; omega) | (show _ < 61; omega) | (show _ < 20; omega)) ⟨by first | exact Nat.le_of_ble_eq_true rfl | (simp only [ab_rm]; omega), by first | exact Nat.le_of_ble_eq_true rfl | (simp only [ab_rm]; omega)⟩ ⟨by first | exact Nat.le_of_ble_eq_true rfl | (simp only [ab_rm]; omega), by first | exact Nat.le_of_ble_eq_true rfl | (simp only [ab_rm]; omega)⟩ (Nat.le_of_ble_eq_true rfl) (fun u17 r17 h17 => ?_)
  obtain ⟨⟨q17, o17, b17⟩, rfl⟩ := h17
  have P17 := P14.trans q17 (by decide)
  exact ab_retv X hr0 hlk d_PT_offerTwo_20 ⟨⟨R17.trans q17 (by decide), (O14.wk (fun _ z => Or.inr z)).trans (o17.wk (fun _ z => Or.inl z)), b17⟩, rfl⟩
set_option maxRecDepth 100000 in
set_option maxHeartbeats 1000000 in
theorem x_PT_offerAside (u : ab_S) (M : Nat) (kd ar cn lf : Nat → Nat) (ch : Nat → Nat → Nat) (Y : Nat → Nat → Nat × Nat × Nat) (R : Nat → List Nat) (W : tW M kd ar cn lf ch) (hB : ∀ q, q < M → xB lf Y R q) (pq : Nat) (hpM : pq < M) (mm : pm kd ar cn ch pq u) (h : CI u) (f : Nat) (o : Option (Nat × Nat × Nat)) (B : xO kd ar cn ch u pq f o) (hf : f < 3 * (pq + 2)) (K : cK M Y R (pq + 1) u) (w j : Nat) (hw : wok (kd pq) (ar pq) (cn pq) j w) (hwa : w = 2 ∨ w = 3 ∨ w = 7) : ab_C false l D ca y_PT_offerAside b_PT_offerAside 4 none 4 ab_nQ u [ab_O 2 (pq + 1), ab_O 3 f, ab_O 3 60] (fun u' v => (cP [3, 9] u u' ∧ fO (fun i => i = f ∨ i = 60) u u' ∧ xO kd ar cn ch u' pq f (pk o w (tL cn ch (xL Y) pq w) (tG kd ar cn ch (xG Y) R pq w))) ∧ v = none) := by
  refine ab_C.of (by decide) (Nat.le_of_ble_eq_true rfl) ?_
  intro p e s m args below meth c ad X hZ hr0 hlk
  have P0 : cP [3, 9] u u := cQ.rf h
  have hP19 := W.2.1
  have hf60 : f < 60 := by omega
  have h5 : 5 ≤ kd pq := by unfold wok at hw; omega
  obtain ⟨⟨l1, l2, k1, k7, r9⟩, -, kb⟩ := W.2.2 pq hpM
  obtain ⟨n2, n4, n5, n7, b5, b6⟩ := kb h5
  have hr4 : rul w = 4 := by rcases hwa with rfl | rfl | rfl <;> rfl
  have hg : ∀ i, (fun i => 3 * (cp ch w pq i + 1) + cj cn w pq i) i = 3 * (ch pq i + 1) + 1 := fun i => by rcases hwa with rfl | rfl | rfl <;> rfl
  have hm : mrk kd ar w pq = (nI (ck (kd pq))) := by unfold mrk; rw [if_neg (by omega), if_pos hr4]
  have hn : ned kd ar cn w pq = cnu (kd pq) (ar pq) := by unfold ned; rw [if_neg (by omega), if_pos hr4]
  have hc : ct cn w pq = cn pq := by rcases hwa with rfl | rfl | rfl <;> rfl
  have fin : ∀ (u1 : ab_S), cQ 60 [3, 9] u u1 → u1.1 3 60 4 = nI 4 → cP [3, 9] u u1 := fun u1 P1 a1 => P1.un (fun mk' hm em => by
    rw [a1]; exact ⟨fun q => by rcases q with q | q | q <;> exact absurd q (by decide), fun q => absurd q (by decide)⟩)
  have loop : ∀ (k j1 : Nat) (u1 : ab_S), k + j1 = cn pq → cQ 60 [3, 9] u u1 → fO (fun i => i = 60) u u1 → FD u1 60 4 (nI (ck (kd pq))) (nI (cnu (kd pq) (ar pq))) j1 (fun i => 3 * (cp ch w pq i + 1) + cj cn w pq i) → ab_J p l e (ab_rm 4 0 0) s m args below meth c (MQ below (ab_Q D ca ad ab_nQ s.heap.size (fun u' v => (cP [3, 9] u u' ∧ fO (fun i => i = f ∨ i = 60) u u' ∧ xO kd ar cn ch u' pq f (pk o w (tL cn ch (xL Y) pq w) (tG kd ar cn ch (xG Y) R pq w))) ∧ v = none)) args s 0 0 (ab_A ad ab_nQ s.heap.size)) D ca (ab_A ad ab_nQ s.heap.size) s.heap 4 0 0 ad ab_nQ u1 16 [(3, ab_I (nI j1)), (0, ab_O 2 (pq + 1)), (1, ab_O 3 f), (2, ab_O 3 60)] [] := by
    intro k
    induction k with
    | zero =>
      intro j1 u1 hj P1 O1 D1
      obtain rfl : j1 = cn pq := by omega
      have P2 := fin u1 P1 D1.1
      have F1 : Fw kd ar cn ch u1 pq 60 w := by unfold Fw; rw [hr4, hm, hn, hc]; exact D1
      have K1 : cK M Y R (pq + 1) u1 := K.fr O1 (fun i hi => Or.inr (by omega)) hP19
      refine ab_iload_n X 0 d_PT_offerAside_16 rfl rfl ?_
      refine ab_aload_n X 1 d_PT_offerAside_17 rfl rfl ?_
      refine ab_gI X fl_PT_37 d_PT_offerAside_18 (by first | assumption | decide | (show _ < 124; omega) | (show _ < 61; omega) | (show _ < 20; omega)) (P1.ii (by decide) mm.2.2.1) ?_
      refine ab_icmp_ge X 44 d_PT_offerAside_21 rfl (fun _ => ?_) (fun hb => absurd ((nI_le (by omega) (by omega))) hb)
      refine ab_aload_n X 2 d_PT_offerAside_44 rfl rfl ?_
      refine ab_aload_n X 3 d_PT_offerAside_45 rfl rfl ?_
      refine ab_callV (as := [ab_O 3 60]) X (fun h => by cases h) (x_FM_off u1 M kd ar cn lf ch Y R W hB pq hpM w j f o hw F1 (kCs.of W hpM hw K1 (fun z => absurd z (by omega))) (B.fr O1 (by omega)) P2.1 hf60) lk_PT_73 d_PT_offerAside_46 rfl rfl (by first | assumption | decide | (show _ < 124; omega) | (show _ < 61; omega) | (show _ < 20; omega)) ⟨by first | exact Nat.le_of_ble_eq_true rfl | (simp only [ab_rm]; omega), by first | exact Nat.le_of_ble_eq_true rfl | (simp only [ab_rm]; omega)⟩ ⟨by first | exact Nat.le_of_ble_eq_true rfl | (simp only [ab_rm]; omega), by first | exact Nat.le_of_ble_eq_true rfl | (simp only [ab_rm]; omega)⟩ (Nat.le_of_ble_eq_true rfl) (fun u46 r46 h46 => ?_)
      obtain ⟨⟨q46, o46, b46⟩, rfl⟩ := h46
      have P46 := P2.trans q46 (by decide)
      exact ab_retv X hr0 hlk d_PT_offerAside_49 ⟨⟨P46, (O1.wk (fun _ z => Or.inr z)).trans (o46.wk (fun _ z => Or.inl z)), b46⟩, rfl⟩
    | succ k ih =>
      intro j1 u1 hj P1 O1 D1
      have P2 := fin u1 P1 D1.1
      have c20 := (b5 j1 (by omega)).2
      refine ab_iload_n X 0 d_PT_offerAside_16 rfl rfl ?_
      refine ab_aload_n X 1 d_PT_offerAside_17 rfl rfl ?_
      refine ab_gI X fl_PT_37 d_PT_offerAside_18 (by first | assumption | decide | (show _ < 124; omega) | (show _ < 61; omega) | (show _ < 20; omega)) (P1.ii (by decide) mm.2.2.1) ?_
      refine ab_icmp_ge X 44 d_PT_offerAside_21 rfl (fun hb => absurd hb ((nI_ge (by omega) (by omega)))) (fun _ => ?_)
      refine ab_aload_n X 3 d_PT_offerAside_24 rfl rfl ?_
      refine ab_aload_n X 1 d_PT_offerAside_25 rfl rfl ?_
      refine ab_gR X fl_PT_11 d_PT_offerAside_26 (by first | assumption | decide | (show _ < 124; omega) | (show _ < 61; omega) | (show _ < 20; omega)) (P2.1.pt0 (by first | assumption | decide | omega)) ?_
      refine ab_iload_n X 0 d_PT_offerAside_29 rfl rfl ?_
      refine ab_aalv X (j1) ⟨rfl, _, fun _ => rfl⟩ d_PT_offerAside_30 (by first | assumption | decide | (show _ < 124; omega) | (show _ < 61; omega) | (show _ < 20; omega)) (rfl) (show j1 < 4 by omega) (ab_ln_lt _ _) (P1.rr (by decide) (mm.2.2.2 j1 (by omega))) ?_
      refine ab_gR X fl_PT_24 d_PT_offerAside_31 (by first | assumption | decide | (show _ < 124; omega) | (show _ < 61; omega) | (show _ < 20; omega)) (P2.1.pt2 (by first | assumption | decide | omega)) ?_
      refine ab_callV (as := [ab_O 3 (3 * (ch pq j1 + 1) + 1)]) X (fun h => by cases h) (f_FM_with u1 60 4 j1 (3 * (ch pq j1 + 1) + 1) _ _ (fun i => 3 * (cp ch w pq i + 1) + cj cn w pq i) P1.1 (by decide) (by omega) D1 (hg j1) (by omega)) lk_PT_69 d_PT_offerAside_34 rfl rfl (by first | assumption | decide | (show _ < 124; omega) | (show _ < 61; omega) | (show _ < 20; omega)) ⟨by first | exact Nat.le_of_ble_eq_true rfl | (simp only [ab_rm]; omega), by first | exact Nat.le_of_ble_eq_true rfl | (simp only [ab_rm]; omega)⟩ ⟨by first | exact Nat.le_of_ble_eq_true rfl | (simp only [ab_rm]; omega), by first | exact Nat.le_of_ble_eq_true rfl | (simp only [ab_rm]; omega)⟩ (Nat.le_of_ble_eq_true rfl) (fun u34 r34 h34 => ?_)
      obtain ⟨⟨q34, o34, d34, w34, x34⟩, rfl⟩ := h34
      have P34 := P2.trans q34 (by decide)
      refine ab_pop X d_PT_offerAside_37 rfl ?_
      refine ab_iinc3 X 0 1 2 3 d_PT_offerAside_38 rfl (by decide) rfl rfl rfl rfl rfl rfl ?_
      refine ab_goto X 16 d_PT_offerAside_41 rfl ?_
      rw [show nI j1 + Int32.ofInt 1 = nI (j1 + 1) from nI_1 j1]
      exact ih (j1 + 1) _ (by omega) (P1.trans q34 (by decide)) (O1.trans o34) d34
  refine ab_aload_n X 2 d_PT_offerAside_0 rfl rfl ?_
  refine ab_iconst (v := 4) X d_PT_offerAside_1 (by decide) ?_
  refine ab_aload_n X 0 d_PT_offerAside_2 rfl rfl ?_
  refine ab_gI X fl_PT_30 d_PT_offerAside_3 (by first | assumption | decide | (show _ < 124; omega) | (show _ < 61; omega) | (show _ < 20; omega)) (mm.1) ?_
  refine ab_aload_n X 0 d_PT_offerAside_6 rfl rfl ?_
  refine ab_gI X fl_PT_34 d_PT_offerAside_7 (by first | assumption | decide | (show _ < 124; omega) | (show _ < 61; omega) | (show _ < 20; omega)) (mm.2.1) ?_
  refine ab_callV (as := [ab_I (nI 4), ab_I (nI (ck (kd pq))), ab_I (nI (cnu (kd pq) (ar pq)))]) X (fun h => by cases h) (f_FM_start u 60 4 (nI (ck (kd pq))) (nI (cnu (kd pq) (ar pq))) (fun i => 3 * (cp ch w pq i + 1) + cj cn w pq i) (P0.ex 60).1 (by decide)) lk_PT_65 d_PT_offerAside_10 rfl rfl (by first | assumption | decide | (show _ < 124; omega) | (show _ < 61; omega) | (show _ < 20; omega)) ⟨by first | exact Nat.le_of_ble_eq_true rfl | (simp only [ab_rm]; omega), by first | exact Nat.le_of_ble_eq_true rfl | (simp only [ab_rm]; omega)⟩ ⟨by first | exact Nat.le_of_ble_eq_true rfl | (simp only [ab_rm]; omega), by first | exact Nat.le_of_ble_eq_true rfl | (simp only [ab_rm]; omega)⟩ (Nat.le_of_ble_eq_true rfl) (fun u10 r10 h10 => ?_)
  obtain ⟨⟨q10, o10, d10, w10, x10⟩, rfl⟩ := h10
  have P10 := P0.trans q10 (by decide)
  refine ab_pop X d_PT_offerAside_13 rfl ?_
  refine ab_iconst (v := 0) X d_PT_offerAside_14 (by decide) ?_
  refine ab_istore_n3 X 0 1 2 d_PT_offerAside_15 rfl (by decide) rfl rfl rfl rfl rfl rfl ?_
  exact loop (cn pq) 0 _ (by omega) P10 o10 d10
set_option maxRecDepth 100000 in
set_option maxHeartbeats 1000000 in
theorem x_PT_offerRow (u : ab_S) (M : Nat) (kd ar cn lf : Nat → Nat) (ch : Nat → Nat → Nat) (Y : Nat → Nat → Nat × Nat × Nat) (R : Nat → List Nat) (W : tW M kd ar cn lf ch) (hB : ∀ q, q < M → xB lf Y R q) (pq : Nat) (hpM : pq < M) (mm : pm kd ar cn ch pq u) (h : CI u) (f : Nat) (o : Option (Nat × Nat × Nat)) (B : xO kd ar cn ch u pq f o) (hf : f < 3 * (pq + 2)) (K : cK M Y R (pq + 1) u) (h7 : kd pq = 7) (ha : ar pq = cn pq) (hfB : f = 3 * (pq + 1)) : ab_C false l D ca y_PT_offerRowOfAll b_PT_offerRowOfAll 3 none 4 ab_nQ u [ab_O 2 (pq + 1), ab_O 3 60] (fun u' v => (cP [3, 9] u u' ∧ fO (fun i => i = f ∨ i = 60) u u' ∧ xO kd ar cn ch u' pq f (pk o 18 ((tL cn ch (xL Y) pq) 18) ((tG kd ar cn ch (xG Y) R pq) 18))) ∧ v = none) := by
  refine ab_C.of (by decide) (Nat.le_of_ble_eq_true rfl) ?_
  intro p e s m args below meth c ad X hZ hr0 hlk
  have P0 : cP [3, 9] u u := cQ.rf h
  have hP19 := W.2.1
  have hf60 : f < 60 := by omega
  have hw : wok (kd pq) (ar pq) (cn pq) 0 18 := by simp [wok, h7, ha]
  obtain ⟨⟨l1, l2, k1, k7, r9⟩, -, kb⟩ := W.2.2 pq hpM
  obtain ⟨n2, n4, n5, n7, b5, b6⟩ := kb (by omega)
  have fin : ∀ (u1 : ab_S), cQ 60 [3, 9] u u1 → u1.1 3 60 4 = nI 2 → cP [3, 9] u u1 := fun u1 P1 a1 => P1.un (fun mk' hm em => by
    rw [a1]; exact ⟨fun q => by rcases q with q | q | q <;> exact absurd q (by decide), fun q => absurd q (by decide)⟩)
  have loop : ∀ (k j1 : Nat) (u1 : ab_S), k + j1 = cn pq → cQ 60 [3, 9] u u1 → fO (fun i => i = 60) u u1 → FD u1 60 2 0 (nI (cn pq)) j1 (fun i => 3 * (cp ch 18 pq i + 1) + cj cn 18 pq i) → ab_J p l e (ab_rm 4 0 0) s m args below meth c (MQ below (ab_Q D ca ad ab_nQ s.heap.size (fun u' v => (cP [3, 9] u u' ∧ fO (fun i => i = f ∨ i = 60) u u' ∧ xO kd ar cn ch u' pq f (pk o 18 ((tL cn ch (xL Y) pq) 18) ((tG kd ar cn ch (xG Y) R pq) 18))) ∧ v = none)) args s 0 0 (ab_A ad ab_nQ s.heap.size)) D ca (ab_A ad ab_nQ s.heap.size) s.heap 3 0 0 ad ab_nQ u1 13 [(2, ab_I (nI j1)), (0, ab_O 2 (pq + 1)), (1, ab_O 3 60)] [] := by
    intro k
    induction k with
    | zero =>
      intro j1 u1 hj P1 O1 D1
      obtain rfl : j1 = cn pq := by omega
      have P2 := fin u1 P1 D1.1
      have F1 : Fw kd ar cn ch u1 pq 60 18 := D1
      have K1 : cK M Y R (pq + 1) u1 := K.fr O1 (fun i hi => Or.inr (by omega)) hP19
      refine ab_iload_n X 0 d_PT_offerRowOfAll_13 rfl rfl ?_
      refine ab_aload_n X 1 d_PT_offerRowOfAll_14 rfl rfl ?_
      refine ab_gI X fl_PT_37 d_PT_offerRowOfAll_15 (by first | assumption | decide | (show _ < 124; omega) | (show _ < 61; omega) | (show _ < 20; omega)) (P1.ii (by decide) mm.2.2.1) ?_
      refine ab_icmp_ge X 63 d_PT_offerRowOfAll_18 rfl (fun _ => ?_) (fun hb => absurd ((nI_le (by omega) (by omega))) hb)
      refine ab_aload_n X 1 d_PT_offerRowOfAll_63 rfl rfl ?_
      refine ab_gR X fl_PT_20 d_PT_offerRowOfAll_64 (by first | assumption | decide | (show _ < 124; omega) | (show _ < 61; omega) | (show _ < 20; omega)) (P2.1.pt1 (by first | assumption | decide | omega)) ?_
      rw [← hfB]
      refine ab_aload_n X 2 d_PT_offerRowOfAll_67 rfl rfl ?_
      refine ab_callV (as := [ab_O 3 60]) X (fun h => by cases h) (x_FM_off u1 M kd ar cn lf ch Y R W hB pq hpM 18 0 f o hw F1 (kCs.of W hpM hw K1 (fun z => absurd z (by omega))) (B.fr O1 (by omega)) P2.1 hf60) lk_PT_73 d_PT_offerRowOfAll_68 rfl rfl (by first | assumption | decide | (show _ < 124; omega) | (show _ < 61; omega) | (show _ < 20; omega)) ⟨by first | exact Nat.le_of_ble_eq_true rfl | (simp only [ab_rm]; omega), by first | exact Nat.le_of_ble_eq_true rfl | (simp only [ab_rm]; omega)⟩ ⟨by first | exact Nat.le_of_ble_eq_true rfl | (simp only [ab_rm]; omega), by first | exact Nat.le_of_ble_eq_true rfl | (simp only [ab_rm]; omega)⟩ (Nat.le_of_ble_eq_true rfl) (fun u68 r68 h68 => ?_)
      obtain ⟨⟨q68, o68, b68⟩, rfl⟩ := h68
      have P68 := P2.trans q68 (by decide)
      exact ab_retv X hr0 hlk d_PT_offerRowOfAll_71 ⟨⟨P68, (O1.wk (fun _ z => Or.inr z)).trans (o68.wk (fun _ z => Or.inl z)), b68⟩, rfl⟩
    | succ k ih =>
      intro j1 u1 hj P1 O1 D1
      have P2 := fin u1 P1 D1.1
      have c20 := (b5 j1 (by omega)).2
      have gg : ∀ i, (fun i => 3 * (cp ch 18 pq i + 1) + cj cn 18 pq i) i = 3 * (ch pq i + 1) + (if i + 1 < cn pq then 2 else 0) := fun i => rfl
      refine ab_iload_n X 0 d_PT_offerRowOfAll_13 rfl rfl ?_
      refine ab_aload_n X 1 d_PT_offerRowOfAll_14 rfl rfl ?_
      refine ab_gI X fl_PT_37 d_PT_offerRowOfAll_15 (by first | assumption | decide | (show _ < 124; omega) | (show _ < 61; omega) | (show _ < 20; omega)) (P1.ii (by decide) mm.2.2.1) ?_
      refine ab_icmp_ge X 63 d_PT_offerRowOfAll_18 rfl (fun hb => absurd hb ((nI_ge (by omega) (by omega)))) (fun _ => ?_)
      refine ab_aload_n X 2 d_PT_offerRowOfAll_21 rfl rfl ?_
      refine ab_iload_n X 0 d_PT_offerRowOfAll_22 rfl rfl ?_
      refine ab_aload_n X 1 d_PT_offerRowOfAll_23 rfl rfl ?_
      refine ab_gI X fl_PT_37 d_PT_offerRowOfAll_24 (by first | assumption | decide | (show _ < 124; omega) | (show _ < 61; omega) | (show _ < 20; omega)) (P1.ii (by decide) mm.2.2.1) ?_
      refine ab_iconst (v := 1) X d_PT_offerRowOfAll_27 (by decide) ?_
      refine ab_isub X d_PT_offerRowOfAll_28 ?_
      refine ab_top (nI_m1 (by omega)) ?_
      refine ab_icmp_ge X 44 d_PT_offerRowOfAll_29 rfl (fun h29 => ?_) (fun h29 => ?_)
      ·
        have g1 : (fun i => 3 * (cp ch 18 pq i + 1) + cj cn 18 pq i) j1 = 3 * (ch pq j1 + 1) := (gg j1).trans (by rw [if_neg (by have := nI_le_of h29 (by omega); omega)]; rfl)
        refine ab_aload_n X 1 d_PT_offerRowOfAll_44 rfl rfl ?_
        refine ab_gR X fl_PT_11 d_PT_offerRowOfAll_45 (by first | assumption | decide | (show _ < 124; omega) | (show _ < 61; omega) | (show _ < 20; omega)) (P2.1.pt0 (by first | assumption | decide | omega)) ?_
        refine ab_iload_n X 0 d_PT_offerRowOfAll_48 rfl rfl ?_
        refine ab_aalv X (j1) ⟨rfl, _, fun _ => rfl⟩ d_PT_offerRowOfAll_49 (by first | assumption | decide | (show _ < 124; omega) | (show _ < 61; omega) | (show _ < 20; omega)) (rfl) (show j1 < 4 by omega) (ab_ln_lt _ _) (P1.rr (by decide) (mm.2.2.2 j1 (by omega))) ?_
        refine ab_gR X fl_PT_20 d_PT_offerRowOfAll_50 (by first | assumption | decide | (show _ < 124; omega) | (show _ < 61; omega) | (show _ < 20; omega)) (P2.1.pt1 (by first | assumption | decide | omega)) ?_
        refine ab_callV (as := [ab_O 3 _]) X (fun h => by cases h) (f_FM_with u1 60 2 j1 _ _ _ (fun i => 3 * (cp ch 18 pq i + 1) + cj cn 18 pq i) P1.1 (by decide) (by omega) D1 g1 (by omega)) lk_PT_69 d_PT_offerRowOfAll_53 rfl rfl (by first | assumption | decide | (show _ < 124; omega) | (show _ < 61; omega) | (show _ < 20; omega)) ⟨by first | exact Nat.le_of_ble_eq_true rfl | (simp only [ab_rm]; omega), by first | exact Nat.le_of_ble_eq_true rfl | (simp only [ab_rm]; omega)⟩ ⟨by first | exact Nat.le_of_ble_eq_true rfl | (simp only [ab_rm]; omega), by first | exact Nat.le_of_ble_eq_true rfl | (simp only [ab_rm]; omega)⟩ (Nat.le_of_ble_eq_true rfl) (fun u53 r53 h53 => ?_)
        obtain ⟨⟨q53, o53, d53, w53, x53⟩, rfl⟩ := h53
        have P53 := P2.trans q53 (by decide)
        refine ab_pop X d_PT_offerRowOfAll_56 rfl ?_
        refine ab_iinc2 X 0 1 2 d_PT_offerRowOfAll_57 rfl (by decide) rfl rfl rfl rfl ?_
        refine ab_goto X 13 d_PT_offerRowOfAll_60 rfl ?_
        rw [show nI j1 + Int32.ofInt 1 = nI (j1 + 1) from nI_1 j1]
        exact ih (j1 + 1) _ (by omega) (P1.trans q53 (by decide)) (O1.trans o53) d53
      ·
        have g1 : (fun i => 3 * (cp ch 18 pq i + 1) + cj cn 18 pq i) j1 = 3 * (ch pq j1 + 1) + 2 := (gg j1).trans (by rw [if_pos (by have := nI_lt_of h29 (by omega); omega)])
        refine ab_aload_n X 1 d_PT_offerRowOfAll_32 rfl rfl ?_
        refine ab_gR X fl_PT_11 d_PT_offerRowOfAll_33 (by first | assumption | decide | (show _ < 124; omega) | (show _ < 61; omega) | (show _ < 20; omega)) (P2.1.pt0 (by first | assumption | decide | omega)) ?_
        refine ab_iload_n X 0 d_PT_offerRowOfAll_36 rfl rfl ?_
        refine ab_aalv X (j1) ⟨rfl, _, fun _ => rfl⟩ d_PT_offerRowOfAll_37 (by first | assumption | decide | (show _ < 124; omega) | (show _ < 61; omega) | (show _ < 20; omega)) (rfl) (show j1 < 4 by omega) (ab_ln_lt _ _) (P1.rr (by decide) (mm.2.2.2 j1 (by omega))) ?_
        refine ab_gR X fl_PT_27 d_PT_offerRowOfAll_38 (by first | assumption | decide | (show _ < 124; omega) | (show _ < 61; omega) | (show _ < 20; omega)) (P2.1.pt3 (by first | assumption | decide | omega)) ?_
        refine ab_goto X 53 d_PT_offerRowOfAll_41 rfl ?_
        refine ab_callV (as := [ab_O 3 _]) X (fun h => by cases h) (f_FM_with u1 60 2 j1 _ _ _ (fun i => 3 * (cp ch 18 pq i + 1) + cj cn 18 pq i) P1.1 (by decide) (by omega) D1 g1 (by omega)) lk_PT_69 d_PT_offerRowOfAll_53 rfl rfl (by first | assumption | decide | (show _ < 124; omega) | (show _ < 61; omega) | (show _ < 20; omega)) ⟨by first | exact Nat.le_of_ble_eq_true rfl | (simp only [ab_rm]; omega), by first | exact Nat.le_of_ble_eq_true rfl | (simp only [ab_rm]; omega)⟩ ⟨by first | exact Nat.le_of_ble_eq_true rfl | (simp only [ab_rm]; omega), by first | exact Nat.le_of_ble_eq_true rfl | (simp only [ab_rm]; omega)⟩ (Nat.le_of_ble_eq_true rfl) (fun u53 r53 h53 => ?_)
        obtain ⟨⟨q53, o53, d53, w53, x53⟩, rfl⟩ := h53
        have P53 := P2.trans q53 (by decide)
        refine ab_pop X d_PT_offerRowOfAll_56 rfl ?_
        refine ab_iinc2 X 0 1 2 d_PT_offerRowOfAll_57 rfl (by decide) rfl rfl rfl rfl ?_
        refine ab_goto X 13 d_PT_offerRowOfAll_60 rfl ?_
        rw [show nI j1 + Int32.ofInt 1 = nI (j1 + 1) from nI_1 j1]
        exact ih (j1 + 1) _ (by omega) (P1.trans q53 (by decide)) (O1.trans o53) d53
  refine ab_aload_n X 1 d_PT_offerRowOfAll_0 rfl rfl ?_
  refine ab_iconst (v := 2) X d_PT_offerRowOfAll_1 (by decide) ?_
  refine ab_iconst (v := 0) X d_PT_offerRowOfAll_2 (by decide) ?_
  refine ab_aload_n X 0 d_PT_offerRowOfAll_3 rfl rfl ?_
  refine ab_gI X fl_PT_37 d_PT_offerRowOfAll_4 (by first | assumption | decide | (show _ < 124; omega) | (show _ < 61; omega) | (show _ < 20; omega)) (mm.2.2.1) ?_
  refine ab_callV (as := [ab_I (nI 2), ab_I 0, ab_I (nI (cn pq))]) X (fun h => by cases h) (f_FM_start u 60 2 0 (nI (cn pq)) (fun i => 3 * (cp ch 18 pq i + 1) + cj cn 18 pq i) (P0.ex 60).1 (by decide)) lk_PT_65 d_PT_offerRowOfAll_7 rfl rfl (by first | assumption | decide | (show _ < 124; omega) | (show _ < 61; omega) | (show _ < 20; omega)) ⟨by first | exact Nat.le_of_ble_eq_true rfl | (simp only [ab_rm]; omega), by first | exact Nat.le_of_ble_eq_true rfl | (simp only [ab_rm]; omega)⟩ ⟨by first | exact Nat.le_of_ble_eq_true rfl | (simp only [ab_rm]; omega), by first | exact Nat.le_of_ble_eq_true rfl | (simp only [ab_rm]; omega)⟩ (Nat.le_of_ble_eq_true rfl) (fun u7 r7 h7 => ?_)
  obtain ⟨⟨q7, o7, d7, w7, x7⟩, rfl⟩ := h7
  have P7 := P0.trans q7 (by decide)
  refine ab_pop X d_PT_offerRowOfAll_10 rfl ?_
  refine ab_iconst (v := 0) X d_PT_offerRowOfAll_11 (by decide) ?_
  refine ab_istore_n2 X 0 1 d_PT_offerRowOfAll_12 rfl (by decide) rfl rfl rfl rfl ?_
  exact loop (cn pq) 0 _ (by omega) P7 o7 d7
end SaXWays

