/-! The class's read: the forms chosen, the script written. -/
def mkN (kd ar : Nat → Nat) (w p : Nat) : Nat := if rul w = 1 then 1000 * kd p + ar p else if rul w = 4 then ck (kd p) else 0
theorem mrk_nI (kd ar : Nat → Nat) (w p : Nat) : mrk kd ar w p = nI (mkN kd ar w p) := by
  unfold mrk mkN
  by_cases z1 : rul w = 1
  · rw [if_pos z1, if_pos z1]
  · rw [if_neg z1, if_neg z1]
    by_cases z4 : rul w = 4
    · rw [if_pos z4, if_pos z4]
    · rw [if_neg z4, if_neg z4]; rfl
theorem wdr_wds {kd ar cn : Nat → Nat} {p j w : Nat} {cw : Nat → List Nat} (hw : wok (kd p) (ar p) (cn p) j w) : wdr (rul w) (mkN kd ar w p) (ned kd ar cn w p) (ct cn w p) cw = wds kd ar cn w p cw := by
  unfold wdr wds
  by_cases z1 : rul w = 1
  · have e : mkN kd ar w p = 1000 * kd p + ar p := if_pos z1
    rw [if_pos z1, if_pos z1, e]
  rw [if_neg z1, if_neg z1]
  by_cases z3 : rul w = 3
  · rw [if_pos z3, if_pos z3]
  rw [if_neg z3, if_neg z3]
  by_cases z4 : rul w = 4
  · have e1 : mkN kd ar w p = ck (kd p) := (if_neg z1).trans (if_pos z4)
    have e2 : ned kd ar cn w p = cnu (kd p) (ar p) := (if_neg z1).trans (if_pos z4)
    rw [if_pos z4, if_pos z4, e1, e2]
    have c : (w = 2 ∧ kd p = 5) ∨ (w = 3 ∧ kd p = 6) ∨ (w = 7 ∧ kd p = 7) := by
      have := rul_4 z4
      unfold wok at hw
      omega
    rcases c with ⟨rfl, c⟩ | ⟨rfl, c⟩ | ⟨rfl, c⟩ <;> rw [c] <;> rfl
  rw [if_neg z4, if_neg z4]
theorem cQ.gx {K : List Nat} {A B : Nat → Prop} {u u' : ab_S} (g : cP K u u') (h3 : ¬ 3 ∈ K) (h4 : ¬ 4 ∈ K) (h8 : ¬ 8 ∈ K) (h9 : ¬ 9 ∈ K) : gX A B u u' := ⟨fun i k _ => (g.2.2.1 3 i k h3).1, fun i => (g.2.2.1 3 i 1 h3).1, fun i k _ => (g.2.2.1 9 i k h9).2, fun i k _ => ⟨(g.2.2.1 4 i k h4).1, (g.2.2.1 8 i k h8).1⟩⟩
/-- the machine and the rows that are no form's stay -/
def kW (u u' : ab_S) : Prop := (∀ i k, 122 ≤ i → u'.1 4 i k = u.1 4 i k ∧ u'.1 8 i k = u.1 8 i k) ∧ ∀ i k, u'.1 7 i k = u.1 7 i k
theorem kW.rf {u : ab_S} : kW u u := ⟨fun _ _ _ => ⟨rfl, rfl⟩, fun _ _ => rfl⟩
theorem kW.trans {u u1 u2 : ab_S} (h : kW u u1) (g : kW u1 u2) : kW u u2 := ⟨fun i k z => ⟨(g.1 i k z).1.trans (h.1 i k z).1, (g.1 i k z).2.trans (h.1 i k z).2⟩, fun i k => (g.2 i k).trans (h.2 i k)⟩
theorem cQ.kw {K : List Nat} {u u' : ab_S} (g : cP K u u') (h4 : ¬ 4 ∈ K) (h8 : ¬ 8 ∈ K) (h7 : ¬ 7 ∈ K) : kW u u' := ⟨fun i k _ => ⟨(g.2.2.1 4 i k h4).1, (g.2.2.1 8 i k h8).1⟩, fun i k => (g.2.2.1 7 i k h7).1⟩
section SaXRead
variable {l : Launch} {D : va_G} {ca : Nat → ClassId}
theorem x_SC_write (M : Nat) (kd ar cn lf : Nat → Nat) (ch : Nat → Nat → Nat) (Y : Nat → Nat → Nat × Nat × Nat) (R : Nat → List Nat) (W : tW M kd ar cn lf ch) (F : ∀ q, q < M → xF kd ar cn ch Y R q) : ∀ (n x q j : Nat) (u : ab_S) (ws fs : List Nat), x + n = 41 → q < M → j < 3 → dpt M q j ≤ n → CI u → cX M kd ar cn ch Y R 0 u → sX u ws fs → ws.length + (Y q j).2.1 ≤ 128 → fs.length + (Fl cn ch Y q j).length ≤ 38 → ab_C false l D ca y_SC_write b_SC_write 3 none (2 * n + 2) ab_nQ u [ab_O 5 0, ab_O 3 (3 * (q + 1) + j), ab_I (nI x)] (fun u' v => (cP [5, 13, 14] u u' ∧ sX u' (ws ++ Wd kd ar cn ch Y q j) (fs ++ Fl cn ch Y q j)) ∧ v = none) := by
  have hM := W.2.1
  intro n
  induction n with
  | zero => intro x q j u ws fs _ hq hj hd; unfold dpt at hd; omega
  | succ n ih =>
    intro x q j u ws fs hx hq hj hd h C S hn hk
    obtain ⟨-, hw, -⟩ := (F q hq).way W hq hj
    have l1 := (W.2.2 q hq).1
    have hL := Wd_len W F _ q j (Nat.le_refl _) hq hj
    have hn4 : ct cn (Y q j).1 q ≤ 4 ∧ (ct cn (Y q j).1 q = 0 → rul (Y q j).1 = 1) := by
      by_cases h8 : (Y q j).1 = 8 ∨ (Y q j).1 = 24
      · rcases h8 with e | e <;> rw [e] <;> exact ⟨show 1 ≤ 4 by decide, fun z => absurd (show (1 : Nat) = 0 from z) (by decide)⟩
      · rcases ct_cn W hq hw h8 with ⟨e, e2, -⟩ | ⟨e, e2, e3⟩
        · exact ⟨by omega, fun _ => e2⟩
        · have := ((W.2.2 q hq).2.2 e3).2.1
          exact ⟨by omega, fun z => by omega⟩
    have Fq : FD u (3 * (q + 1) + j) (rul (Y q j).1) (nI (mkN kd ar (Y q j).1 q)) (nI (ned kd ar cn (Y q j).1 q)) (ct cn (Y q j).1 q) (fun i => 3 * (cp ch (Y q j).1 q i + 1) + cj cn (Y q j).1 q i) := by
      rw [← mrk_nI]; exact (C q (Nat.zero_le _) hq j hj).1
    have sh : shx (rul (Y q j).1) (ct cn (Y q j).1 q) := by
      refine ⟨fun z => ?_, fun z => ?_, fun z => ?_, fun z => ct_2 z⟩
      · rcases rul_1 z with e | e | e <;> rw [e] <;> rfl
      · rcases z with z | z
        · rw [rul_3 z]; rfl
        · exact ct_1 z
      · exact Nat.pos_of_ne_zero (fun y => by have := hn4.2 y; omega)
    have eW : wdr (rul (Y q j).1) (mkN kd ar (Y q j).1 q) (ned kd ar cn (Y q j).1 q) (ct cn (Y q j).1 q) (fun i => Wd kd ar cn ch Y (cp ch (Y q j).1 q i) (cj cn (Y q j).1 q i)) = Wd kd ar cn ch Y q j := (wdr_wds hw).trans (Wd_fix W F hq hj).symm
    have eF : cat (fun i => Fl cn ch Y (cp ch (Y q j).1 q i) (cj cn (Y q j).1 q i)) (ct cn (Y q j).1 q) ++ [3 * (q + 1) + j] = Fl cn ch Y q j := (Fl_fix W F hq hj).symm
    have mk1 : rul (Y q j).1 = 4 → mkN kd ar (Y q j).1 q < 1000 := fun z => by
      have e : mkN kd ar (Y q j).1 q = ck (kd q) := (if_neg (by omega)).trans (if_pos z)
      rw [e]; unfold ck; split <;> omega
    have key := x_SC_write1 (l := l) (D := D) (ca := ca) (cX M kd ar cn ch Y R 0) (fun u u' hc g => hc.gx (g.gx (A := fun _ => False) (B := fun _ => False) (by decide) (by decide) (by decide) (by decide)) (fun _ z => z.elim) (fun _ z => z.elim) hM) (fun i => Wd kd ar cn ch Y (cp ch (Y q j).1 q i) (cj cn (Y q j).1 q i)) (fun i => Fl cn ch Y (cp ch (Y q j).1 q i) (cj cn (Y q j).1 q i)) (2 * n + 2) (nI x) (ct cn (Y q j).1 q) (fun i => 3 * (cp ch (Y q j).1 q i + 1) + cj cn (Y q j).1 q i) (fun i u1 ws1 fs1 hi h1 Q1 S1 b1 b2 => by
        obtain ⟨a1, a2⟩ := dpt_lt W F hq hj hi
        rw [show nI x + 1 = nI (x + 1) from (nI_succ x).symm]
        refine ih (x + 1) _ _ u1 ws1 fs1 (by omega) a1 (cj_lt _ _ _ _) (by omega) h1 Q1 S1 ?_ b2
        rw [← (Wd_len W F _ _ _ (Nat.le_refl _) a1 (cj_lt _ _ _ _)).1]
        exact b1) u (3 * (q + 1) + j) (rul (Y q j).1) (mkN kd ar (Y q j).1 q) (ned kd ar cn (Y q j).1 q) ws fs Fq hn4.1 (fun i hi => by
        have a := (dpt_lt W F hq hj hi).1
        have b := cj_lt cn (Y q j).1 q i
        show 3 * (cp ch (Y q j).1 q i + 1) + cj cn (Y q j).1 q i < 61
        omega) C h (by omega) S (by omega) (rul_r _) sh mk1 (by rw [eW, hL.1]; exact hn) (by
        rw [← eF, List.length_append] at hk
        exact hk) (nI_nlt (a := 40) (by omega) (by decide))
    rw [eW, eF] at key
    exact key
set_option maxRecDepth 100000 in
set_option maxHeartbeats 1000000 in
theorem x_RD_whole (u : ab_S) (T : Nat → Int32) (t : Nat) (ht : t ≤ 100) (eL : u.1 1 0 3 = nI t) (hT : ∀ k, k < t → u.1 11 0 k = T k) (h : CI u) : ab_C true l D ca y_RD_whole b_RD_whole 2 (some (FieldType.object "PolicyForge$Part")) 90 ab_nQ u [ab_O 1 0] (fun u' v => (parse T t = none ∧ wP u u' ∧ (∀ z i k, ¬ z ∈ [1, 2, 10] → u'.1 z i k = u.1 z i k ∧ u'.2.1 z i k = u.2.1 z i k) ∧ v = some (ab_R none)) ∨ ∃ (q M O : Nat) (kd ar cn op : Nat → Nat) (ch : Nat → Nat → Nat), parse T t = some (q, M, O, kd, ar, cn, op, ch) ∧ wP u u' ∧ cT M kd ar cn ch u' ∧ (∀ z i k, ¬ z ∈ [1, 2, 10] → u'.1 z i k = u.1 z i k ∧ u'.2.1 z i k = u.2.1 z i k) ∧ v = some (ab_O 2 1)) := by
  refine ab_C.of (by decide) (Nat.le_of_ble_eq_true rfl) ?_
  intro p e s m args below meth c ad X hZ hr0 hlk
  have P0 : cP [1, 2, 10] u u := cQ.rf h
  have fin : ∀ (u1 : ab_S) (r : Option (Nat × Nat)), cP [1, 2, 10] u u1 → (∀ u', u' = ab_ui u1 1 0 3 0 → wP u u' → (∀ z i k, ¬ z ∈ [1, 2, 10] → u'.1 z i k = u.1 z i k ∧ u'.2.1 z i k = u.2.1 z i k) → ((fun u' v => (parse T t = none ∧ wP u u' ∧ (∀ z i k, ¬ z ∈ [1, 2, 10] → u'.1 z i k = u.1 z i k ∧ u'.2.1 z i k = u.2.1 z i k) ∧ v = some (ab_R none)) ∨ ∃ (q M O : Nat) (kd ar cn op : Nat → Nat) (ch : Nat → Nat → Nat), parse T t = some (q, M, O, kd, ar, cn, op, ch) ∧ wP u u' ∧ cT M kd ar cn ch u' ∧ (∀ z i k, ¬ z ∈ [1, 2, 10] → u'.1 z i k = u.1 z i k ∧ u'.2.1 z i k = u.2.1 z i k) ∧ v = some (ab_O 2 1)) : ab_S → Option ab_V → Prop) u' (some (ab_R r))) → ab_J p l e (ab_rm 90 0 0) s m args below meth c (MQ below (ab_Q D ca ad ab_nQ s.heap.size (fun u' v => (parse T t = none ∧ wP u u' ∧ (∀ z i k, ¬ z ∈ [1, 2, 10] → u'.1 z i k = u.1 z i k ∧ u'.2.1 z i k = u.2.1 z i k) ∧ v = some (ab_R none)) ∨ ∃ (q M O : Nat) (kd ar cn op : Nat → Nat) (ch : Nat → Nat → Nat), parse T t = some (q, M, O, kd, ar, cn, op, ch) ∧ wP u u' ∧ cT M kd ar cn ch u' ∧ (∀ z i k, ¬ z ∈ [1, 2, 10] → u'.1 z i k = u.1 z i k ∧ u'.2.1 z i k = u.2.1 z i k) ∧ v = some (ab_O 2 1))) args s 0 0 (ab_A ad ab_nQ s.heap.size)) D ca (ab_A ad ab_nQ s.heap.size) s.heap 2 0 0 ad ab_nQ u1 51 [(1, ab_R r), (0, ab_O 1 0)] [] := by
    intro u1 r P1 hr
    refine ab_aload_n X 1 d_RD_whole_51 rfl rfl ?_
    refine ab_iconst (v := 0) X d_RD_whole_52 (by decide) ?_
    refine ab_putI X fp_RD_26 d_RD_whole_53 (by first | assumption | decide) rfl rfl ?_
    refine ab_aload_n X 0 d_RD_whole_56 rfl rfl ?_
    exact ab_retr X hr0 hlk d_RD_whole_57 (hr _ rfl (wP.len (P1.wk (by decide))) (fun z i k hz => ⟨(ui_n _ (fun y => hz (by rw [y.1]; decide))).trans (P1.2.2.1 z i k hz).1, (P1.2.2.1 z i k hz).2⟩))
  have I17 : ∀ {u2 u7 u12 u17 : ab_S}, u2 = ab_ui u 1 0 4 0 → u7 = ab_ui u2 1 0 5 (-1) → u12 = ab_ui u7 1 0 6 0 → u17 = ab_ui u12 1 0 7 0 → CI u17 → rdI T t 0 0 z1f u17 := by
    intro u2 u7 u12 u17 e2 e7 e12 e17 h17
    have fr : ∀ c i k, ¬ (c = 1 ∧ (k = 4 ∨ k = 5 ∨ k = 6 ∨ k = 7)) → u17.1 c i k = u.1 c i k := fun c i k z => by rw [e17, e12, e7, e2]; exact (ui_n _ (by omega)).trans ((ui_n _ (by omega)).trans ((ui_n _ (by omega)).trans (ui_n _ (by omega))))
    exact ⟨h17, (fr _ _ _ (by omega)).trans eL, fun k hk => (fr _ _ _ (by omega)).trans (hT k hk), by rw [e17, e12, e7, e2]; simp [ab_up]; rfl, Nat.zero_le _, gv e17, by rw [e17, e12]; simp [ab_up]; rfl, by decide⟩
  have pr : ∀ {E : Option Cf}, pP T t 41 (0, 0, 0, z1f, z1f, z1f, z1f, z2f) = E → parse T t = match E with | none => none | some c => if c.1 < t then none else some c := fun {E} e => by unfold parse; rw [e]; cases E <;> rfl
  refine ab_aload_n X 0 d_RD_whole_0 rfl rfl ?_
  refine ab_iconst (v := 0) X d_RD_whole_1 (by decide) ?_
  refine ab_putI X fp_RD_30 d_RD_whole_2 (by first | assumption | decide | (show _ < 124; omega) | (show _ < 61; omega) | (show _ < 20; omega)) rfl rfl ?_
  refine ab_gen (fun u2 e2 => ?_)
  have P2 : cP [1, 2, 10] u u2 := by rw [e2]; exact P0.at (by decide) (n := 0) (by omega)
  refine ab_aload_n X 0 d_RD_whole_5 rfl rfl ?_
  refine ab_iconst (v := (-1)) X d_RD_whole_6 (by decide) ?_
  refine ab_putI X fp_RD_33 d_RD_whole_7 (by first | assumption | decide | (show _ < 124; omega) | (show _ < 61; omega) | (show _ < 20; omega)) rfl rfl ?_
  refine ab_gen (fun u7 e7 => ?_)
  have P7 : cP [1, 2, 10] u u7 := by rw [e7]; exact P2.ui rfl (by decide)
  refine ab_aload_n X 0 d_RD_whole_10 rfl rfl ?_
  refine ab_iconst (v := 0) X d_RD_whole_11 (by decide) ?_
  refine ab_putI X fp_RD_36 d_RD_whole_12 (by first | assumption | decide | (show _ < 124; omega) | (show _ < 61; omega) | (show _ < 20; omega)) rfl rfl ?_
  refine ab_gen (fun u12 e12 => ?_)
  have P12 : cP [1, 2, 10] u u12 := by rw [e12]; exact P7.ui rfl (by decide)
  refine ab_aload_n X 0 d_RD_whole_15 rfl rfl ?_
  refine ab_iconst (v := 0) X d_RD_whole_16 (by decide) ?_
  refine ab_putI X fp_RD_39 d_RD_whole_17 (by first | assumption | decide | (show _ < 124; omega) | (show _ < 61; omega) | (show _ < 20; omega)) rfl rfl ?_
  refine ab_gen (fun u17 e17 => ?_)
  have P17 : cP [1, 2, 10] u u17 := by rw [e17]; exact P12.used (by decide) (n := 0) (by omega)
  refine ab_aload_n X 0 d_RD_whole_20 rfl rfl ?_
  refine ab_iconst (v := 0) X d_RD_whole_21 (by decide) ?_
  refine ab_callV (as := [ab_I (nI 0)]) X (fun _ => hZ rfl) (f_RD_readPart T t ht 41 0 u17 0 0 0 z1f z1f z1f z1f z2f rfl (I17 e2 e7 e12 e17 P17.1)) lk_RD_42 d_RD_whole_22 rfl rfl (by first | assumption | decide | (show _ < 124; omega) | (show _ < 61; omega) | (show _ < 20; omega)) ⟨by first | exact Nat.le_of_ble_eq_true rfl | (simp only [ab_rm]; omega), by first | exact Nat.le_of_ble_eq_true rfl | (simp only [ab_rm]; omega)⟩ ⟨by first | exact Nat.le_of_ble_eq_true rfl | (simp only [ab_rm]; omega), by first | exact Nat.le_of_ble_eq_true rfl | (simp only [ab_rm]; omega)⟩ (Nat.le_of_ble_eq_true rfl) (fun u22 r22 h22 => ?_)
  rcases h22 with ⟨f22, q22, rfl⟩ | ⟨q', M', O', kd', ar', cn', op', ch', f22, q22, I22, T22, rfl⟩
  ·
    have P22 := P17.trans q22 (by decide)
    refine ab_astore_n1 X 0 d_RD_whole_25 rfl (by decide) rfl rfl ?_
    refine ab_aload_n X 0 d_RD_whole_26 rfl rfl ?_
    refine ab_ifnull X 51 d_RD_whole_27 rfl (fun _ => ?_) (fun hb => absurd (rfl) hb)
    exact fin _ _ P22 (fun u' e w fr => Or.inl ⟨pr f22, w, fr, rfl⟩)
  ·
    have P22 := P17.trans q22 (by decide)
    refine ab_astore_n1 X 0 d_RD_whole_25 rfl (by decide) rfl rfl ?_
    refine ab_aload_n X 0 d_RD_whole_26 rfl rfl ?_
    refine ab_ifnull X 51 d_RD_whole_27 rfl (fun hb => absurd hb ((by intro z; cases z))) (fun _ => ?_)
    refine ab_aload_n X 1 d_RD_whole_30 rfl rfl ?_
    refine ab_gI X fl_RD_30 d_RD_whole_31 (by first | assumption | decide | (show _ < 124; omega) | (show _ < 61; omega) | (show _ < 20; omega)) (I22.2.2.2.1) ?_
    refine ab_aload_n X 1 d_RD_whole_34 rfl rfl ?_
    refine ab_gI X fl_RD_26 d_RD_whole_35 (by first | assumption | decide | (show _ < 124; omega) | (show _ < 61; omega) | (show _ < 20; omega)) (I22.2.1) ?_
    refine ab_icmp_ge X 51 d_RD_whole_38 rfl (fun h38 => ?_) (fun h38 => ?_)
    ·
      have hc := nI_le_of h38 (by omega)
      have hp := (pr f22).trans (if_neg (show ¬ q' < t by omega))
      first | exact fin _ _ P22 (fun u' e w fr => Or.inl ⟨hp, w, fr, rfl⟩) | exact fin _ _ P22 (fun u' e w fr => Or.inr ⟨_, _, _, _, _, _, _, _, hp, w, ⟨by rw [e]; exact (ui_n _ (by omega)).trans I22.2.2.2.2.2.1, by rw [e]; exact (ui_n _ (by omega)).trans I22.2.2.2.2.2.2.1, fun h19 p hp => ((T22 h19).1 p (Nat.zero_le _) hp).kq ⟨fun k z => by rw [e]; exact ui_n _ (by omega), fun i => by rw [e]⟩ rfl rfl rfl (fun _ => rfl)⟩, fr, rfl⟩)
    ·
      have hc := nI_lt_of h38 (by have := I22.2.2.2.2.1; omega)
      have hp := (pr f22).trans (if_pos hc)
      refine ab_aload_n X 1 d_RD_whole_41 rfl rfl ?_
      refine ab_aload_n X 1 d_RD_whole_42 rfl rfl ?_
      refine ab_gI X fl_RD_30 d_RD_whole_43 (by first | assumption | decide | (show _ < 124; omega) | (show _ < 61; omega) | (show _ < 20; omega)) (I22.2.2.2.1) ?_
      refine ab_putI X fp_RD_33 d_RD_whole_46 (by first | assumption | decide | (show _ < 124; omega) | (show _ < 61; omega) | (show _ < 20; omega)) rfl rfl ?_
      refine ab_gen (fun u46 e46 => ?_)
      have P46 : cP [1, 2, 10] u u46 := by rw [e46]; exact P22.ui rfl (by decide)
      refine ab_null X d_RD_whole_49 ?_
      refine ab_astore_n1 X 1 d_RD_whole_50 rfl (by decide) rfl rfl ?_
      first | exact fin _ _ P46 (fun u' e w fr => Or.inl ⟨hp, w, fr, rfl⟩) | exact fin _ _ P46 (fun u' e w fr => Or.inr ⟨_, _, _, _, _, _, _, _, hp, w, ⟨by rw [e]; exact (ui_n _ (by omega)).trans I22.2.2.2.2.2.1, by rw [e]; exact (ui_n _ (by omega)).trans I22.2.2.2.2.2.2.1, fun h19 p hp => ((T22 h19).1 p (Nat.zero_le _) hp).kq ⟨fun k z => by rw [e]; exact ui_n _ (by omega), fun i => by rw [e]⟩ rfl rfl rfl (fun _ => rfl)⟩, fr, rfl⟩)
set_option maxRecDepth 100000 in
set_option maxHeartbeats 1000000 in
theorem x_PF_read (hfl : ab_fl0 l) (u : ab_S) (T : Nat → Int32) (t : Nat) (ht : t ≤ 100) (eL : u.1 1 0 3 = nI t) (hT : ∀ k, k < t → u.1 11 0 k = T k) (dn : dnn u) (h : CI u) : ab_CT l D ca y_PF_read b_PF_read 2 (some FieldType.int) 100 ab_nQ u [ab_O 0 0] (fun u' v => (∃ (q M O : Nat) (kd ar cn op lf : Nat → Nat) (ch : Nat → Nat → Nat) (Y : Nat → Nat → Nat × Nat × Nat) (R : Nat → List Nat), parse T t = some (q, M, O, kd, ar, cn, op, ch) ∧ tW M kd ar cn lf ch ∧ (∀ q, q < M → xF kd ar cn ch Y R q) ∧ wP u u' ∧ u'.2.1 0 0 7 = some (2, 1) ∧ cT M kd ar cn ch u' ∧ cX M kd ar cn ch Y R 0 u' ∧ sX u' (Wd kd ar cn ch Y 0 0) (Fl cn ch Y 0 0) ∧ dnn u' ∧ kW u u' ∧ v = some (ab_I (nI (Y 0 0).2.1)))) (fun u' E => (wP u u' ∧ parse T t = none ∧ u'.2.1 0 0 7 = none ∧ sX u' [] [] ∧ dnn u' ∧ kW u u') ∧ E = ab_IAE) := by
  refine ab_CT.of (by decide) (Nat.le_of_ble_eq_true rfl) ?_
  intro p e s m args below meth c ad X hZ hW0 hnh hr0 hlk
  have P0 : cP [0, 1, 2, 3, 4, 5, 6, 7, 8, 9, 10, 11, 12, 13, 14, 15, 16] u u := cQ.rf h
  have loop : ∀ (q M O : Nat) (kd ar cn op : Nat → Nat) (ch : Nat → Nat → Nat), parse T t = some (q, M, O, kd, ar, cn, op, ch) → ∀ (lf : Nat → Nat) (Y : Nat → Nat → Nat × Nat × Nat) (R : Nat → List Nat), tW M kd ar cn lf ch → (∀ q, q < M → xF kd ar cn ch Y R q) → ∀ (j : Nat) (u1 : ab_S), j ≤ M → wP u u1 → u1.2.1 0 0 7 = some (2, 1) → cT M kd ar cn ch u1 → cX M kd ar cn ch Y R j u1 → dnn u1 → sX u1 [] [] → kW u u1 → ab_J p l e (ab_rm 100 1 6) s m args below meth c (ab_MQ below (ab_QT D ca ad ab_nQ s.heap.size (fun u' v => (∃ (q M O : Nat) (kd ar cn op lf : Nat → Nat) (ch : Nat → Nat → Nat) (Y : Nat → Nat → Nat × Nat × Nat) (R : Nat → List Nat), parse T t = some (q, M, O, kd, ar, cn, op, ch) ∧ tW M kd ar cn lf ch ∧ (∀ q, q < M → xF kd ar cn ch Y R q) ∧ wP u u' ∧ u'.2.1 0 0 7 = some (2, 1) ∧ cT M kd ar cn ch u' ∧ cX M kd ar cn ch Y R 0 u' ∧ sX u' (Wd kd ar cn ch Y 0 0) (Fl cn ch Y 0 0) ∧ dnn u' ∧ kW u u' ∧ v = some (ab_I (nI (Y 0 0).2.1)))) (fun u' E => (wP u u' ∧ parse T t = none ∧ u'.2.1 0 0 7 = none ∧ sX u' [] [] ∧ dnn u' ∧ kW u u') ∧ E = ab_IAE)) args s 1 6 (ab_A ad ab_nQ s.heap.size)) D ca (ab_A ad ab_nQ s.heap.size) s.heap 2 0 0 ad ab_nQ u1 43 [(1, ab_I (nI j - 1)), (0, ab_O 0 0)] [] := by
    intro q M O kd ar cn op ch hp lf Y R W F j
    have hP19 := W.2.1
    have hB : ∀ q, q < M → xB lf Y R q := fun q hq => xf_b W F (M - q) q (by omega) hq
    induction j with
    | zero =>
      intro u1 hj P1 eg C1 F1 D1 S1 K1
      have l0 := (W.2.2 0 W.1).1
      have b0 := ((hB 0 W.1).1 0 (by decide)).2.1
      have lf0 := (Wd_len W F _ 0 0 (Nat.le_refl _) W.1 (by decide)).2
      have lw0 := (Wd_len W F _ 0 0 (Nat.le_refl _) W.1 (by decide)).1
      rw [if_neg (by decide)] at b0
      rw [if_pos rfl] at lf0
      refine ab_iload_n X 0 d_PF_read_43 rfl rfl ?_
      refine ab_if_lt X 69 d_PF_read_44 rfl (fun _ => ?_) (fun hb => absurd ((by decide)) hb)
      refine ab_aload_n X 1 d_PF_read_69 rfl rfl ?_
      refine ab_gR X fl_PF_37 d_PF_read_70 (by first | assumption | decide | (show _ < 124; omega) | (show _ < 61; omega) | (show _ < 20; omega)) (P1.1.pf3) ?_
      refine ab_aload_n X 1 d_PF_read_73 rfl rfl ?_
      refine ab_gR X fl_PF_58 d_PF_read_74 (by first | assumption | decide | (show _ < 124; omega) | (show _ < 61; omega) | (show _ < 20; omega)) (eg) ?_
      refine ab_gR X fl_PF_94 d_PF_read_77 (by first | assumption | decide | (show _ < 124; omega) | (show _ < 61; omega) | (show _ < 20; omega)) (P1.1.pt1 (by first | assumption | decide | omega)) ?_
      refine ab_iconst (v := 0) X d_PF_read_80 (by decide) ?_
      refine ab_callV (as := [ab_O 3 (3 * (0 + 1) + 0), ab_I (nI 0)]) X (fun h => by cases h) (x_SC_write M kd ar cn lf ch Y R W F 41 0 0 0 u1 [] [] rfl W.1 (by decide) (by unfold dpt; rw [if_pos rfl]; omega) P1.1 F1 S1 (by show 0 + _ ≤ 128; omega) (by show 0 + _ ≤ 38; omega)) lk_PF_97 d_PF_read_81 rfl rfl (by first | assumption | decide | (show _ < 124; omega) | (show _ < 61; omega) | (show _ < 20; omega)) ⟨by first | exact Nat.le_of_ble_eq_true rfl | (simp only [ab_rm]; omega), by first | exact Nat.le_of_ble_eq_true rfl | (simp only [ab_rm]; omega)⟩ ⟨by first | exact Nat.le_of_ble_eq_true rfl | (simp only [ab_rm]; omega), by first | exact Nat.le_of_ble_eq_true rfl | (simp only [ab_rm]; omega)⟩ (Nat.le_of_ble_eq_true rfl) (fun u81 r81 h81 => ?_)
      obtain ⟨⟨q81, c81⟩, rfl⟩ := h81
      have P81 := P1.trans q81 (by decide)
      refine ab_aload_n X 1 d_PF_read_84 rfl rfl ?_
      refine ab_gR X fl_PF_37 d_PF_read_85 (by first | assumption | decide | (show _ < 124; omega) | (show _ < 61; omega) | (show _ < 20; omega)) (P81.1.pf3) ?_
      refine ab_gI X fl_PF_101 d_PF_read_88 (by first | assumption | decide | (show _ < 124; omega) | (show _ < 61; omega) | (show _ < 20; omega)) ((c81.1.trans (by rw [List.nil_append, lw0]))) ?_
      exact ab_retTi X hr0 hlk d_PF_read_91 ⟨q, M, O, kd, ar, cn, op, lf, ch, Y, R, hp, W, F, P81, q81.rr (by decide) eg, C1.fr q81 (by decide) (by decide) (by decide), F1.gx (q81.gx (A := fun _ => False) (B := fun _ => False) (by decide) (by decide) (by decide) (by decide)) (fun _ z => z.elim) (fun _ z => z.elim) hP19, c81, D1.gx (q81.gx (A := fun _ => False) (B := fun _ => False) (by decide) (by decide) (by decide) (by decide)), K1.trans (q81.kw (by decide) (by decide) (by decide)), rfl⟩
    | succ j ih =>
      intro u1 hj P1 eg C1 F1 D1 S1 K1
      rw [nI_m1 (by omega), show j + 1 - 1 = j by omega]
      refine ab_iload_n X 0 d_PF_read_43 rfl rfl ?_
      refine ab_if_lt X 69 d_PF_read_44 rfl (fun hb => absurd hb ((nI_pos (by omega)))) (fun _ => ?_)
      refine ab_aload_n X 1 d_PF_read_47 rfl rfl ?_
      refine ab_gR X fl_PF_12 d_PF_read_48 (by first | assumption | decide | (show _ < 124; omega) | (show _ < 61; omega) | (show _ < 20; omega)) (P1.1.pf0) ?_
      refine ab_gR X fl_PF_84 d_PF_read_51 (by first | assumption | decide | (show _ < 124; omega) | (show _ < 61; omega) | (show _ < 20; omega)) (P1.1.rd1) ?_
      refine ab_iload_n X 0 d_PF_read_54 rfl rfl ?_
      refine ab_aalv X (j) ⟨rfl, _, fun _ => rfl⟩ d_PF_read_55 (by first | assumption | decide | (show _ < 124; omega) | (show _ < 61; omega) | (show _ < 20; omega)) (rfl) (show j < 19 by omega) (ab_ln_lt _ _) (P1.1.rp (by omega)) ?_
      refine ab_aload_n X 1 d_PF_read_56 rfl rfl ?_
      refine ab_gR X fl_PF_21 d_PF_read_57 (by first | assumption | decide | (show _ < 124; omega) | (show _ < 61; omega) | (show _ < 20; omega)) (P1.1.pf1) ?_
      refine ab_callV (as := [ab_O 3 60]) X (fun h => by cases h) (x_PT_chooseF u1 M kd ar cn lf ch Y R W hB j (by omega) (F j (by omega)) (C1.2.2 hP19 j (by omega)) D1 F1 P1.1) lk_PF_88 d_PF_read_60 rfl rfl (by first | assumption | decide | (show _ < 124; omega) | (show _ < 61; omega) | (show _ < 20; omega)) ⟨by first | exact Nat.le_of_ble_eq_true rfl | (simp only [ab_rm]; omega), by first | exact Nat.le_of_ble_eq_true rfl | (simp only [ab_rm]; omega)⟩ ⟨by first | exact Nat.le_of_ble_eq_true rfl | (simp only [ab_rm]; omega), by first | exact Nat.le_of_ble_eq_true rfl | (simp only [ab_rm]; omega)⟩ (Nat.le_of_ble_eq_true rfl) (fun u60 r60 h60 => ?_)
      obtain ⟨⟨q60, f60, d60, g60⟩, rfl⟩ := h60
      have P60 := P1.trans q60 (by decide)
      refine ab_iinc1 X 0 1 d_PF_read_63 rfl (by decide) rfl rfl ?_
      refine ab_goto X 43 d_PF_read_66 rfl ?_
      rw [show nI j + Int32.ofInt (-1) = nI j - 1 from by rw [Int32.sub_eq_add_neg]; rfl]
      exact ih _ (by omega) P60 (q60.rr (by decide) eg) (C1.fr q60 (by decide) (by decide) (by decide)) f60 d60 (S1.cp q60 (by decide) (by decide) (by decide)) (K1.trans ⟨fun i k z => g60.2.2.2 i k (by omega), fun i k => (q60.2.2.1 7 i k (by decide)).1⟩)
  refine ab_aload_n X 0 d_PF_read_0 rfl rfl ?_
  refine ab_gR X fl_PF_37 d_PF_read_1 (by first | assumption | decide | (show _ < 124; omega) | (show _ < 61; omega) | (show _ < 20; omega)) (P0.1.pf3) ?_
  refine ab_callV (as := []) X (fun h => by cases h) (x_SC_start u h) lk_PF_73 d_PF_read_4 rfl rfl (by first | assumption | decide | (show _ < 124; omega) | (show _ < 61; omega) | (show _ < 20; omega)) ⟨by first | exact Nat.le_of_ble_eq_true rfl | (simp only [ab_rm]; omega), by first | exact Nat.le_of_ble_eq_true rfl | (simp only [ab_rm]; omega)⟩ ⟨by first | exact Nat.le_of_ble_eq_true rfl | (simp only [ab_rm]; omega), by first | exact Nat.le_of_ble_eq_true rfl | (simp only [ab_rm]; omega)⟩ (Nat.le_of_ble_eq_true rfl) (fun u4 r4 h4 => ?_)
  obtain ⟨⟨q4, c4⟩, rfl⟩ := h4
  have P4 := P0.trans q4 (by decide)
  refine ab_aload_n X 0 d_PF_read_7 rfl rfl ?_
  refine ab_aload_n X 0 d_PF_read_8 rfl rfl ?_
  refine ab_gR X fl_PF_12 d_PF_read_9 (by first | assumption | decide | (show _ < 124; omega) | (show _ < 61; omega) | (show _ < 20; omega)) (P4.1.pf0) ?_
  refine ab_callV (as := []) X (fun _ => hZ) (x_RD_whole u4 T t ht (q4.ii (by decide) eL) (fun k hk => q4.ii (by decide) (hT k hk)) P4.1) lk_PF_74 d_PF_read_12 rfl rfl (by first | assumption | decide | (show _ < 124; omega) | (show _ < 61; omega) | (show _ < 20; omega)) ⟨by first | exact Nat.le_of_ble_eq_true rfl | (simp only [ab_rm]; omega), by first | exact Nat.le_of_ble_eq_true rfl | (simp only [ab_rm]; omega)⟩ ⟨by first | exact Nat.le_of_ble_eq_true rfl | (simp only [ab_rm]; omega), by first | exact Nat.le_of_ble_eq_true rfl | (simp only [ab_rm]; omega)⟩ (Nat.le_of_ble_eq_true rfl) (fun u12 r12 h12 => ?_)
  rcases h12 with ⟨f12, q12, k12, rfl⟩ | ⟨q', M', O', kd', ar', cn', op', ch', f12, q12, C12, k12, rfl⟩
  ·
    have P12 := wP.of P4 q12
    refine ab_putR X fp_PF_58 d_PF_read_15 (by first | assumption | decide | (show _ < 124; omega) | (show _ < 61; omega) | (show _ < 20; omega)) ?_
    refine ab_gen (fun u15 e15 => ?_)
    have P15 : wP u u15 := by rw [e15]; exact P12.pol (by first | exact Or.inl rfl | exact Or.inr ⟨1, by decide, rfl⟩)
    have k15 : ∀ z i k, ¬ z ∈ [0, 1, 2, 5, 10, 13, 14] → u15.1 z i k = u.1 z i k := fun z i k hz => by rw [e15]; exact (k12 z i k (fun y => hz (by revert y; simp only [List.mem_cons, List.not_mem_nil, or_false]; omega))).1.trans (q4.2.2.1 z i k (fun y => hz (by revert y; simp only [List.mem_cons, List.not_mem_nil, or_false]; omega))).1
    have d15 : dnn u15 := fun f hf => (k15 3 f 1 (by decide)).trans (dn f hf)
    have w15 : kW u u15 := ⟨fun i k _ => ⟨k15 4 i k (by decide), k15 8 i k (by decide)⟩, fun i k => k15 7 i k (by decide)⟩
    have s15 : sX u15 [] [] := ⟨by rw [e15]; exact (k12 5 0 2 (by decide)).1.trans c4.1, fun i hi => absurd hi (Nat.not_lt_zero i), by rw [e15]; exact (k12 5 0 3 (by decide)).1.trans c4.2.2.1, fun i hi => absurd hi (Nat.not_lt_zero i)⟩
    refine ab_aload_n X 0 d_PF_read_18 rfl rfl ?_
    refine ab_gR X fl_PF_58 d_PF_read_19 (by first | assumption | decide | (show _ < 124; omega) | (show _ < 61; omega) | (show _ < 20; omega)) ((show _ = (none : Option (Nat × Nat)) by rw [e15]; simp [ab_up])) ?_
    refine ab_ifnonnull X 33 d_PF_read_22 rfl (fun hb => absurd (rfl) hb) (fun _ => ?_)
    exact ab_throw (cells := 0) (slots := 0) X hfl hZ hW0 hnh hlk ow_PF_78 d_PF_read_25 d_PF_read_28 d_PF_read_29 d_PF_read_32 ⟨Nat.le_of_ble_eq_true rfl, Nat.le_of_ble_eq_true rfl⟩ ⟨Nat.le_of_ble_eq_true rfl, Nat.le_of_ble_eq_true rfl⟩ ⟨⟨P15, f12, by rw [e15]; simp [ab_up], s15, d15, w15⟩, rfl⟩
  ·
    have P12 := wP.of P4 q12
    refine ab_putR X fp_PF_58 d_PF_read_15 (by first | assumption | decide | (show _ < 124; omega) | (show _ < 61; omega) | (show _ < 20; omega)) ?_
    refine ab_gen (fun u15 e15 => ?_)
    have P15 : wP u u15 := by rw [e15]; exact P12.pol (by first | exact Or.inl rfl | exact Or.inr ⟨1, by decide, rfl⟩)
    have k15 : ∀ z i k, ¬ z ∈ [0, 1, 2, 5, 10, 13, 14] → u15.1 z i k = u.1 z i k := fun z i k hz => by rw [e15]; exact (k12 z i k (fun y => hz (by revert y; simp only [List.mem_cons, List.not_mem_nil, or_false]; omega))).1.trans (q4.2.2.1 z i k (fun y => hz (by revert y; simp only [List.mem_cons, List.not_mem_nil, or_false]; omega))).1
    have d15 : dnn u15 := fun f hf => (k15 3 f 1 (by decide)).trans (dn f hf)
    have w15 : kW u u15 := ⟨fun i k _ => ⟨k15 4 i k (by decide), k15 8 i k (by decide)⟩, fun i k => k15 7 i k (by decide)⟩
    have s15 : sX u15 [] [] := ⟨by rw [e15]; exact (k12 5 0 2 (by decide)).1.trans c4.1, fun i hi => absurd hi (Nat.not_lt_zero i), by rw [e15]; exact (k12 5 0 3 (by decide)).1.trans c4.2.2.1, fun i hi => absurd hi (Nat.not_lt_zero i)⟩
    refine ab_aload_n X 0 d_PF_read_18 rfl rfl ?_
    refine ab_gR X fl_PF_58 d_PF_read_19 (by first | assumption | decide | (show _ < 124; omega) | (show _ < 61; omega) | (show _ < 20; omega)) ((show _ = (some (2, 1) : Option (Nat × Nat)) by rw [e15]; simp [ab_up])) ?_
    refine ab_ifnonnull X 33 d_PF_read_22 rfl (fun _ => ?_) (fun hb => absurd hb ((by intro z; cases z)))
    refine ab_aload_n X 0 d_PF_read_33 rfl rfl ?_
    refine ab_gR X fl_PF_12 d_PF_read_34 (by first | assumption | decide | (show _ < 124; omega) | (show _ < 61; omega) | (show _ < 20; omega)) (P15.1.pf0) ?_
    refine ab_gI X fl_PF_81 d_PF_read_37 (by first | assumption | decide | (show _ < 124; omega) | (show _ < 61; omega) | (show _ < 20; omega)) ((show _ = nI (mn M') by rw [e15]; exact C12.1)) ?_
    refine ab_iconst (v := 1) X d_PF_read_40 (by decide) ?_
    refine ab_isub X d_PF_read_41 ?_
    refine ab_istore_n1 X 0 d_PF_read_42 rfl (by decide) rfl rfl ?_
    obtain ⟨lf, W⟩ := parse_tW f12
    have em : mn M' = M' := by have := W.2.1; unfold mn; split <;> omega
    obtain ⟨Y, R, F⟩ := xf_ex W
    rw [em]
    exact loop _ _ _ _ _ _ _ _ f12 lf Y R W F M' _ (Nat.le_refl _) P15 (by rw [e15]; simp [ab_up]) (C12.cong (by rw [e15]) (by rw [e15]) (fun i k _ => by rw [e15]) (fun i k => by rw [e15]; show ab_up u12.2.1 0 0 7 (some (2, 1)) 10 i k = u12.2.1 10 i k; exact ab_up_n _ _ (by omega))) (fun q a b => absurd b (by omega)) d15 s15 w15
end SaXRead

