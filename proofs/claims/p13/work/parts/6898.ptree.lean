/-! What has been read is a tree. -/
theorem tmA_le {T : Nat → Int32} {t : Nat} : ∀ (r j n q n' q' : Nat), r + j = 3 → n + 1 ≤ 10 ^ j → tmA T t r n q = some (n', q') → n' ≤ 999 := by
  intro r
  induction r with
  | zero =>
    intro j n q n' q' hj hn h
    obtain rfl : j = 3 := by omega
    cases h
    omega
  | succ r ih =>
    intro j n q n' q' hj hn h
    unfold tmA at h
    have hp : 10 ^ j ≤ 1000 := Nat.le_trans (Nat.pow_le_pow_right (by decide) (show j ≤ 3 by omega)) (by decide)
    by_cases h1 : ta T t q < 48 ∨ 57 < ta T t q
    · rw [if_pos h1] at h
      cases h
      omega
    · rw [if_neg h1] at h
      by_cases h2 : 10 * n + dgv 48 (ta T t q) = 0 ∧ r = 0
      · rw [if_pos h2] at h; cases h
      · rw [if_neg h2] at h
        have d := (dgv_of (c := ta T t q) (lo := 48) (hi := 57) (by decide) (by decide) (fun z => h1 (Or.inl z)) (Int32.not_lt.mp (fun z => h1 (Or.inr z)))).1
        refine ih (j + 1) _ _ _ _ (by omega) ?_ h
        have : 10 ^ (j + 1) = 10 * 10 ^ j := Nat.pow_succ'
        omega
theorem lfA_le {T : Nat → Int32} {t k q a q' : Nat} (h : lfA T t k q = some (a, q')) : a ≤ 999 := by
  unfold lfA at h
  by_cases k1 : k = 1
  · rw [if_pos k1] at h
    by_cases z : ta T t q < 65 ∨ 72 < ta T t q ∨ ta T t (q + 1) ≠ 41
    · rw [if_pos z] at h; cases h
    · rw [if_neg z] at h
      cases h
      have := (dgv_of (c := ta T t q) (lo := 65) (hi := 72) (by decide) (by decide) (fun y => z (Or.inl y)) (Int32.not_lt.mp (fun y => z (Or.inr (Or.inl y))))).1
      omega
  · rw [if_neg k1] at h
    by_cases k2 : k = 2
    · rw [if_pos k2] at h
      by_cases z : ta T t q < 48 ∨ 57 < ta T t q ∨ ta T t (q + 1) ≠ 41
      · rw [if_pos z] at h; cases h
      · rw [if_neg z] at h
        cases h
        have := (dgv_of (c := ta T t q) (lo := 48) (hi := 57) (by decide) (by decide) (fun y => z (Or.inl y)) (Int32.not_lt.mp (fun y => z (Or.inr (Or.inl y))))).1
        omega
    · rw [if_neg k2] at h
      unfold glA at h
      cases hm : tmA T t 3 0 q with
      | none => rw [hm] at h; cases h
      | some w =>
        obtain ⟨n', q2⟩ := w
        rw [hm] at h
        replace h : (if n' = 0 ∨ ta T t q2 ≠ 41 then none else some (n', q2 + 1)) = some (a, q') := h
        by_cases z : n' = 0 ∨ ta T t q2 ≠ 41
        · rw [if_pos z] at h; cases h
        · rw [if_neg z] at h
          cases h
          exact tmA_le 3 0 0 q _ _ rfl (by decide) hm
/-- while it is read -/
def rJ (M O : Nat) (kd ar cn en cl op : Nat → Nat) (ch : Nat → Nat → Nat) : Prop := rt M O kd ar cn en cl op ch ∧ lcn kd M ≤ 10 ∧ (0 < O → op 0 = 0) ∧ ∀ p, p < M → kd p = 7 → 1 ≤ ar p ∧ ar p ≤ 4
section PT
variable {T : Nat → Int32} {t q M O : Nat} {kd ar cn en cl op : Nat → Nat} {ch : Nat → Nat → Nat}
theorem bg_rt (R : rJ M O kd ar cn en cl op ch) (hO : (O = 0 ∧ M = 0) ∨ rR O kd cn op) {q' M' O' : Nat} {kd' ar' cn' op' : Nat → Nat} {ch' : Nat → Nat → Nat} (h : bg T t q M O kd ar cn op ch = some (q', M', O', kd', ar', cn', op', ch')) : (∃ en' cl', rJ M' O' kd' ar' cn' en' cl' op' ch') ∧ (O' = O ∨ (O' = O + 1 ∧ rR O' kd' cn' op' ∧ cn' (op' O) = 0)) := by
  have k7 := kA_le T t q
  obtain ⟨R, hL, h0, hA⟩ := R
  have add := fun k a hk1 hk7 ha => rt.add R k a hk1 hk7 ha (fun z => by rcases hO with z1 | z1; exact z1.2; exact absurd z1.1 (by omega)) (fun z => by rcases hO with z1 | z1; (exact absurd z1.1 (by omega)); exact z1.2) (up1 (c1f O cn op) M 0) (h1f O M cn op ch) rfl rfl
  have hA2 : ∀ k a, (k = 7 → 1 ≤ a ∧ a ≤ 4) → ∀ p, p < M + 1 → up1 kd M k p = 7 → 1 ≤ up1 ar M a p ∧ up1 ar M a p ≤ 4 := fun k a ha p hp hk => by
    by_cases z : p = M
    · rw [z, up1_s] at hk ⊢; exact ha hk
    · rw [up1_n _ z] at hk ⊢; exact hA p (by omega) hk
  have ro : 0 < O + 1 → up1 op O M 0 = 0 := fun _ => by
    by_cases z : O = 0
    · subst z; rw [up1_s]; rcases hO with z1 | z1; exact z1.2; exact absurd z1.1 (by omega)
    · rw [up1_n _ (by omega)]; exact h0 (by omega)
  have rr : ∀ k, rR (O + 1) (up1 kd M k) (up1 (c1f O cn op) M 0) (up1 op O M) ∧ up1 (c1f O cn op) M 0 (up1 op O M O) = 0 := fun k => ⟨⟨by omega, by rw [show O + 1 - 1 = O by omega, up1_s, up1_s]; decide, fun _ => by rw [show O + 1 - 1 = O by omega, up1_s, up1_s]; decide⟩, by rw [up1_s, up1_s]⟩
  unfold bg at h
  by_cases h1 : kA T t q = 0 ∨ (kA T t q < 5 ∧ lcn kd M = 10)
  · rw [if_pos h1] at h; cases h
  · rw [if_neg h1] at h
    by_cases h2 : kA T t q < 5
    · rw [if_pos h2] at h
      cases hl : lfA T t (kA T t q) (q + ab_sl.getD (kA T t q - 1) 0) with
      | none => rw [hl] at h; cases h
      | some z =>
        obtain ⟨a, q2⟩ := z
        have ha := lfA_le hl
        rw [hl] at h
        cases h
        refine ⟨⟨_, _, (add (kA T t q) a (by omega) (by omega) ha).1 h2, ?_, h0, hA2 _ _ (fun z => by omega)⟩, Or.inl rfl⟩
        rw [lcn_up, if_pos h2]; omega
    · rw [if_neg h2] at h
      by_cases h3 : kA T t q < 7
      · rw [if_pos h3] at h
        cases h
        refine ⟨⟨_, _, (add (kA T t q) 0 (by omega) (by omega) (by decide)).2 (by omega), ?_, ro, hA2 _ _ (fun z => by omega)⟩, Or.inr ⟨rfl, (rr _).1, (rr 0).2⟩⟩
        rw [lcn_up, if_neg (by omega)]; omega
      · rw [if_neg h3] at h
        have e7 : kA T t q = 7 := by omega
        by_cases h4 : ta T t (q + 4) < 49 ∨ 52 < ta T t (q + 4) ∨ ta T t (q + 4 + 1) ≠ 44
        · rw [if_pos h4] at h; cases h
        · rw [if_neg h4] at h
          cases h
          have d1 := dgv_of (c := ta T t (q + 4)) (lo := 49) (hi := 52) (by decide) (by decide) (fun y => h4 (Or.inl y)) (Int32.not_lt.mp (fun y => h4 (Or.inr (Or.inl y))))
          have d2 := dgv1 (c := ta T t (q + 4)) (fun y => h4 (Or.inl y)) (Int32.le_trans (Int32.not_lt.mp (fun y => h4 (Or.inr (Or.inl y)))) (by decide))
          refine ⟨⟨_, _, (add 7 _ (by decide) (by decide) (by omega)).2 (by decide), ?_, ro, hA2 _ _ (fun z => ⟨by omega, by omega⟩)⟩, Or.inr ⟨rfl, (rr _).1, (rr 0).2⟩⟩
          rw [lcn_up, if_neg (by decide)]; omega
theorem pE_rt (R : rJ M (O + 1) kd ar cn en cl op ch) (h2 : 2 ≤ cn (op O)) {q' M' O' : Nat} {kd' ar' cn' op' : Nat → Nat} {ch' : Nat → Nat → Nat} (h : pE T t (q, M, O + 1, kd, ar, cn, op, ch) = some (q', M', O', kd', ar', cn', op', ch')) : ∃ en' cl', rJ M' O' kd' ar' cn' en' cl' op' ch' := by
  obtain ⟨R, hL, h0, hA⟩ := R
  rw [pE_o] at h
  by_cases z : (kd (op O) = 7 → ar (op O) ≤ cn (op O)) ∧ ta T t q = 41
  · rw [if_pos z] at h
    cases h
    obtain ⟨t1, t5, -, -⟩ := R.2.2.1 O (by omega)
    obtain ⟨⟨k1, k7, r9⟩, -, a3, -⟩ := R.1 _ t1
    obtain ⟨c4, c5, -⟩ := a3 t5
    exact ⟨_, _, rt.close R (by omega) (h0 (by omega)) ⟨h2, fun y => by have := c5 y; show cn (op O) = 2; omega, fun y => ⟨(hA _ t1 y).1, z.1 y⟩⟩, hL, fun _ => h0 (by omega), hA⟩
  · rw [if_neg z] at h; cases h
end PT
theorem pP_rt {T : Nat → Int32} {t : Nat} : ∀ (n q M O : Nat) (kd ar cn en cl op : Nat → Nat) (ch : Nat → Nat → Nat), rJ M O kd ar cn en cl op ch → ((O = 0 ∧ M = 0) ∨ rR O kd cn op) → ∀ (q' M' O' : Nat) (kd' ar' cn' op' : Nat → Nat) (ch' : Nat → Nat → Nat), pP T t n (q, M, O, kd, ar, cn, op, ch) = some (q', M', O', kd', ar', cn', op', ch') → ∃ en' cl', rJ M' O' kd' ar' cn' en' cl' op' ch' := by
  intro n
  induction n with
  | zero => intro q M O kd ar cn en cl op ch _ _ q' M' O' kd' ar' cn' op' ch' h; cases h
  | succ n ih =>
    have KR : ∀ (r O q M : Nat) (kd ar cn en cl op : Nat → Nat) (ch : Nat → Nat → Nat), rJ M (O + 1) kd ar cn en cl op ch → r + cn (op O) = 4 → ∀ (q' M' O' : Nat) (kd' ar' cn' op' : Nat → Nat) (ch' : Nat → Nat → Nat), pK T t (pP T t n) r (q, M, O + 1, kd, ar, cn, op, ch) = some (q', M', O', kd', ar', cn', op', ch') → ∃ en' cl', rJ M' O' kd' ar' cn' en' cl' op' ch' := by
      intro r
      induction r with
      | zero => exact fun O q M kd ar cn en cl op ch R hr q' M' O' kd' ar' cn' op' ch' h => pE_rt R (by omega) h
      | succ r ihr =>
        intro O q M kd ar cn en cl op ch R hr q' M' O' kd' ar' cn' op' ch' h
        obtain ⟨t1, t5, -, -⟩ := R.1.2.2.1 O (by omega)
        obtain ⟨-, -, a3, -⟩ := R.1.1 _ t1
        obtain ⟨c4, c5, -⟩ := a3 t5
        have go : ∀ q2, rR (O + 1) kd cn op → bM T t (pP T t n) r (pP T t n (q2, M, O + 1, kd, ar, cn, op, ch)) = some (q', M', O', kd', ar', cn', op', ch') → ∃ en' cl', rJ M' O' kd' ar' cn' en' cl' op' ch' := by
          intro q2 hR hb
          cases hp : pP T t n (q2, M, O + 1, kd, ar, cn, op, ch) with
          | none => rw [hp] at hb; cases hb
          | some c2 =>
            obtain ⟨q3, M3, O3, kd3, ar3, cn3, op3, ch3⟩ := c2
            rw [hp] at hb
            obtain ⟨rfl, e2, e3, -⟩ := pP_up hp rfl t1
            obtain ⟨en3, cl3, R3⟩ := ih q2 M (O + 1) kd ar cn en cl op ch R (Or.inr hR) _ _ _ _ _ _ _ _ hp
            exact ihr O q3 M3 kd3 ar3 cn3 en3 cl3 op3 ch3 R3 (by rw [e2, e3]; omega) _ _ _ _ _ _ _ _ hb
        rw [pK_s, pG_o, pC_o] at h
        by_cases g : (cn (op O) < 2) ∨ (ta T t q = 44 ∧ cn (op O) < if kd (op O) < 7 then 2 else 4)
        · rw [if_pos (by simp only [Bool.or_eq_true, Bool.and_eq_true, decide_eq_true_eq]; exact g)] at h
          have hR : rR (O + 1) kd cn op := ⟨by omega, by show cn (op O) < 4; omega, fun y => by
            show cn (op O) < 2
            have y' : kd (op O) < 7 := y
            rcases g with g | g
            · exact g
            · rw [if_pos y'] at g; exact g.2⟩
          by_cases c0 : cn (op O) = 0
          · rw [if_pos c0] at h; exact go q hR h
          · rw [if_neg c0] at h
            by_cases h44 : ta T t q = 44
            · rw [if_pos h44] at h; exact go (q + 1) hR h
            · rw [if_neg h44] at h; cases h
        · rw [if_neg (by simp only [Bool.or_eq_true, Bool.and_eq_true, decide_eq_true_eq]; exact g)] at h
          exact pE_rt R (by omega) h
    intro q M O kd ar cn en cl op ch R hO q' M' O' kd' ar' cn' op' ch' h
    rw [pP_s] at h
    cases hb : bg T t q M O kd ar cn op ch with
    | none => rw [hb] at h; cases h
    | some c1 =>
      obtain ⟨q1, M1, O1, kd1, ar1, cn1, op1, ch1⟩ := c1
      rw [hb] at h
      obtain ⟨⟨en1, cl1, R1⟩, hO1⟩ := bg_rt R hO hb
      rcases hO1 with rfl | ⟨rfl, hR, z0⟩
      · have h := (bP_lf (T := T) (t := t) (F := pP T t n) (c1 := (q1, M1, O1, kd1, ar1, cn1, op1, ch1)) rfl).symm.trans h
        cases h
        exact ⟨en1, cl1, R1⟩
      · rw [bP_op (by show ¬ O + 1 = O; omega)] at h
        exact KR 4 O q1 M1 kd1 ar1 cn1 en1 cl1 op1 ch1 R1 (by omega) _ _ _ _ _ _ _ _ h
theorem parse_tW {T : Nat → Int32} {t q M O : Nat} {kd ar cn op : Nat → Nat} {ch : Nat → Nat → Nat} (h : parse T t = some (q, M, O, kd, ar, cn, op, ch)) : ∃ lf, tW M kd ar cn lf ch := by
  unfold parse at h
  cases hp : pP T t 41 (0, 0, 0, z1f, z1f, z1f, z1f, z2f) with
  | none => rw [hp] at h; cases h
  | some c1 =>
    rw [hp] at h
    replace h : (if c1.1 < t then none else some c1) = some (q, M, O, kd, ar, cn, op, ch) := h
    by_cases z : c1.1 < t
    · rw [if_pos z] at h; cases h
    · rw [if_neg z] at h
      cases h
      have F : fT _ _ _ _ _ _ _ _ _ _ _ _ _ _ := pP_fr 41 _ _ hp
      obtain ⟨rfl, hM, -⟩ := F
      have R0 : rJ 0 0 z1f z1f z1f z1f z1f z1f z2f := ⟨⟨fun p hp => absurd hp (by omega), fun p hp => absurd hp (by omega), fun j hj => absurd hj (by omega), fun z => absurd z (by omega), fun _ z => absurd z (by omega)⟩, by decide, fun z => absurd z (by omega), fun p hp => absurd hp (by omega)⟩
      obtain ⟨en, cl, R, hL, -⟩ := pP_rt 41 0 0 0 _ _ _ _ _ _ _ R0 (Or.inl ⟨rfl, rfl⟩) _ _ _ _ _ _ _ _ hp
      exact ⟨_, rt.done R (by omega) hL⟩

