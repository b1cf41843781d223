/-! A policy's text, read: one function for both sides. -/
def ta (T : Nat → Int32) (t q : Nat) : Int32 := if q < t then T q else -1
def mtb (T : Nat → Int32) (t q i : Nat) : Bool := (List.range (ab_sl.getD i 0)).all fun j => decide (ta T t (q + j) = ab_chr i j)
theorem mtb_iff {T : Nat → Int32} {t q i : Nat} : mtb T t q i = true ↔ ∀ j, j < ab_sl.getD i 0 → ta T t (q + j) = ab_chr i j := by simp [mtb, List.all_eq_true]
theorem mt_key : ∀ i, i < 7 → ∀ j, j < 7 → ab_chr i 0 = ab_chr j 0 → ab_chr i 1 = ab_chr j 1 → i = j := by decide +kernel
theorem mt_ex {T : Nat → Int32} {t q i j : Nat} (hi : i < 7) (hj : j < 7) (a : mtb T t q i = true) (b : mtb T t q j = true) : i = j := by
  have A := mtb_iff.mp a
  have B := mtb_iff.mp b
  have li := ab_sl3 hi
  have lj := ab_sl3 hj
  exact mt_key i hi j hj ((A 0 (by omega)).symm.trans (B 0 (by omega))) ((A 1 (by omega)).symm.trans (B 1 (by omega)))
/-- which word begins here, from 1 on; 0: none -/
def kA (T : Nat → Int32) (t q : Nat) : Nat := if mtb T t q 0 then 1 else if mtb T t q 1 then 2 else if mtb T t q 2 then 3 else if mtb T t q 3 then 4 else if mtb T t q 4 then 5 else if mtb T t q 5 then 6 else if mtb T t q 6 then 7 else 0
theorem kA_of {T : Nat → Int32} {t q j : Nat} (hj : j < 7) (h : mtb T t q j = true) : kA T t q = j + 1 := by
  have n : ∀ i, i < 7 → i ≠ j → mtb T t q i = false := fun i hi ne => by
    cases hb : mtb T t q i with
    | false => rfl
    | true => exact absurd (mt_ex hi hj hb h) ne
  have n0 := n 0 (by decide)
  have n1 := n 1 (by decide)
  have n2 := n 2 (by decide)
  have n3 := n 3 (by decide)
  have n4 := n 4 (by decide)
  have n5 := n 5 (by decide)
  have n6 := n 6 (by decide)
  clear n
  have h' : j = 0 ∨ j = 1 ∨ j = 2 ∨ j = 3 ∨ j = 4 ∨ j = 5 ∨ j = 6 := by omega
  rcases h' with rfl | rfl | rfl | rfl | rfl | rfl | rfl <;> simp_all [kA]
theorem kA_no {T : Nat → Int32} {t q : Nat} (h : ∀ i, i < 7 → ¬ mtb T t q i = true) : kA T t q = 0 := by
  simp [kA, h 0 (by decide), h 1 (by decide), h 2 (by decide), h 3 (by decide), h 4 (by decide), h 5 (by decide), h 6 (by decide)]
theorem kA_le (T : Nat → Int32) (t q : Nat) : kA T t q ≤ 7 := by
  unfold kA
  repeat' split
  all_goals omega
def dgv (lo : Nat) (c : Int32) : Nat := (c - nI lo).toInt.toNat
theorem dgv_of {c : Int32} {lo hi : Nat} (hlo : lo ≤ 100) (hhi : hi ≤ 200) (h1 : ¬ c < nI lo) (h2 : c ≤ nI hi) : lo + dgv lo c ≤ hi ∧ c - nI lo = nI (dgv lo c) := by
  obtain ⟨a, ha, e⟩ := dg_of hlo hhi h1 h2
  have : dgv lo c = a := by unfold dgv; rw [e, nI_toInt (by omega)]; rfl
  rw [this]; exact ⟨ha, e⟩
/-- digits, one to three -/
def tmA (T : Nat → Int32) (t : Nat) : Nat → Nat → Nat → Option (Nat × Nat)
  | 0, n, q => some (n, q)
  | r + 1, n, q => if ta T t q < 48 ∨ 57 < ta T t q then some (n, q) else if 10 * n + dgv 48 (ta T t q) = 0 ∧ r = 0 then none else tmA T t r (10 * n + dgv 48 (ta T t q)) (q + 1)
def glA (T : Nat → Int32) (t r n q : Nat) : Option (Nat × Nat) := match tmA T t r n q with
  | none => none
  | some (m, q') => if m = 0 ∨ ta T t q' ≠ 41 then none else some (m, q' + 1)
/-- what a leaf of the kind k names, and the place behind it -/
def lfA (T : Nat → Int32) (t k q : Nat) : Option (Nat × Nat) :=
  if k = 1 then (if ta T t q < 65 ∨ 72 < ta T t q ∨ ta T t (q + 1) ≠ 41 then none else some (dgv 65 (ta T t q), q + 2))
  else if k = 2 then (if ta T t q < 48 ∨ 57 < ta T t q ∨ ta T t (q + 1) ≠ 41 then none else some (dgv 48 (ta T t q), q + 2))
  else glA T t 3 0 q
/-- the place; how many parts; how many open; kinds, numbers, counts; the open ones; parts of parts -/
abbrev Cf : Type := Nat × Nat × Nat × (Nat → Nat) × (Nat → Nat) × (Nat → Nat) × (Nat → Nat) × (Nat → Nat → Nat)
def c1f (O : Nat) (cn op : Nat → Nat) : Nat → Nat := if 0 < O then up1 cn (op (O - 1)) (cn (op (O - 1)) + 1) else cn
def h1f (O M : Nat) (cn op : Nat → Nat) (ch : Nat → Nat → Nat) : Nat → Nat → Nat := if 0 < O then up2 ch (op (O - 1)) (cn (op (O - 1))) M else ch
def bg (T : Nat → Int32) (t q M O : Nat) (kd ar cn op : Nat → Nat) (ch : Nat → Nat → Nat) : Option Cf :=
  if kA T t q = 0 ∨ (kA T t q < 5 ∧ lcn kd M = 10) then none
  else if kA T t q < 5 then
    match lfA T t (kA T t q) (q + ab_sl.getD (kA T t q - 1) 0) with
    | none => none
    | some (a, q2) => some (q2, M + 1, O, up1 kd M (kA T t q), up1 ar M a, up1 (c1f O cn op) M 0, op, h1f O M cn op ch)
  else if kA T t q < 7 then some (q + ab_sl.getD (kA T t q - 1) 0, M + 1, O + 1, up1 kd M (kA T t q), up1 ar M 0, up1 (c1f O cn op) M 0, up1 op O M, h1f O M cn op ch)
  else if ta T t (q + 4) < 49 ∨ 52 < ta T t (q + 4) ∨ ta T t (q + 4 + 1) ≠ 44 then none
  else some (q + 4 + 2, M + 1, O + 1, up1 kd M 7, up1 ar M (dgv 48 (ta T t (q + 4))), up1 (c1f O cn op) M 0, up1 op O M, h1f O M cn op ch)
def pE (T : Nat → Int32) (t : Nat) : Cf → Option Cf
  | (q, M, O, kd, ar, cn, op, ch) => if (kd (op (O - 1)) = 7 → ar (op (O - 1)) ≤ cn (op (O - 1))) ∧ ta T t q = 41 then some (q + 1, M, O - 1, kd, ar, cn, op, ch) else none
def pC (T : Nat → Int32) (t : Nat) : Cf → Option Cf
  | (q, M, O, kd, ar, cn, op, ch) => if cn (op (O - 1)) = 0 then some (q, M, O, kd, ar, cn, op, ch) else if ta T t q = 44 then some (q + 1, M, O, kd, ar, cn, op, ch) else none
def pG (T : Nat → Int32) (t : Nat) : Cf → Bool
  | (q, _, O, kd, _, cn, op, _) => decide (cn (op (O - 1)) < 2) || (decide (ta T t q = 44) && decide (cn (op (O - 1)) < if kd (op (O - 1)) < 7 then 2 else 4))
def pK (T : Nat → Int32) (t : Nat) (F : Cf → Option Cf) : Nat → Cf → Option Cf
  | 0, c => pE T t c
  | r + 1, c => if pG T t c = true then
      match pC T t c with
      | none => none
      | some c1 => match F c1 with
        | none => none
        | some c2 => pK T t F r c2
    else pE T t c
def pP (T : Nat → Int32) (t : Nat) : Nat → Cf → Option Cf
  | 0, _ => none
  | n + 1, (q, M, O, kd, ar, cn, op, ch) => match bg T t q M O kd ar cn op ch with
    | none => none
    | some c1 => if c1.2.2.1 = O then some c1 else pK T t (fun c => pP T t n c) 4 c1
def z1f : Nat → Nat := fun _ => 0
def z2f : Nat → Nat → Nat := fun _ _ => 0
def parse (T : Nat → Int32) (t : Nat) : Option Cf := match pP T t 41 (0, 0, 0, z1f, z1f, z1f, z1f, z2f) with
  | none => none
  | some c => if c.1 < t then none else some c
/-- what reading a part leaves of the parts before it -/
def fT (M O : Nat) (kd ar cn op : Nat → Nat) (ch : Nat → Nat → Nat) (M' O' : Nat) (kd' ar' cn' op' : Nat → Nat) (ch' : Nat → Nat → Nat) : Prop := O' = O ∧ M < M' ∧ (∀ j, j < O → op' j = op j) ∧ ∀ p, p < M → kd' p = kd p ∧ ar' p = ar p ∧ cn' p = c1f O cn op p ∧ ∀ i, ch' p i = h1f O M cn op ch p i
def fTc : Cf → Cf → Prop
  | (_, M, O, kd, ar, cn, op, ch), (_, M', O', kd', ar', cn', op', ch') => fT M O kd ar cn op ch M' O' kd' ar' cn' op' ch'
def fKc : Cf → Cf → Prop
  | (_, M, O, kd, ar, cn, op, ch), (_, M', O', kd', ar', cn', op', ch') => O' = O - 1 ∧ M ≤ M' ∧ (∀ j, j < O → op' j = op j) ∧ ∀ p, p < M → kd' p = kd p ∧ ar' p = ar p ∧ (p ≠ op (O - 1) → cn' p = cn p ∧ ∀ i, ch' p i = ch p i)
theorem bg_fr {T : Nat → Int32} {t q M O : Nat} {kd ar cn op : Nat → Nat} {ch : Nat → Nat → Nat} {c : Cf} (h : bg T t q M O kd ar cn op ch = some c) : ∃ (q' a : Nat) (O' : Nat) (op' : Nat → Nat), c = (q', M + 1, O', up1 kd M (kA T t q), up1 ar M a, up1 (c1f O cn op) M 0, op', h1f O M cn op ch) ∧ ((O' = O ∧ op' = op ∧ kA T t q < 5) ∨ (O' = O + 1 ∧ op' = up1 op O M ∧ 5 ≤ kA T t q)) := by
  have k7 := kA_le T t q
  unfold bg at h
  by_cases h1 : kA T t q = 0 ∨ (kA T t q < 5 ∧ lcn kd M = 10)
  · rw [if_pos h1] at h; cases h
  · rw [if_neg h1] at h
    by_cases h2 : kA T t q < 5
    · rw [if_pos h2] at h
      cases hl : lfA T t (kA T t q) (q + ab_sl.getD (kA T t q - 1) 0) with
      | none => rw [hl] at h; cases h
      | some z =>
        obtain ⟨a, q2⟩ := z
        rw [hl] at h
        cases h
        exact ⟨q2, a, O, op, rfl, Or.inl ⟨rfl, rfl, h2⟩⟩
    · rw [if_neg h2] at h
      by_cases h3 : kA T t q < 7
      · rw [if_pos h3] at h
        cases h
        exact ⟨_, 0, O + 1, _, rfl, Or.inr ⟨rfl, rfl, by omega⟩⟩
      · rw [if_neg h3] at h
        have e7 : kA T t q = 7 := by omega
        by_cases h4 : ta T t (q + 4) < 49 ∨ 52 < ta T t (q + 4) ∨ ta T t (q + 4 + 1) ≠ 44
        · rw [if_pos h4] at h; cases h
        · rw [if_neg h4] at h
          cases h
          rw [e7]
          exact ⟨_, _, O + 1, _, rfl, Or.inr ⟨rfl, rfl, by omega⟩⟩
theorem pE_fr {T : Nat → Int32} {t : Nat} {c c' : Cf} (h : pE T t c = some c') : fKc c c' := by
  obtain ⟨q, M, O, kd, ar, cn, op, ch⟩ := c
  unfold pE at h
  dsimp only at h
  split at h
  · cases h
    exact ⟨rfl, Nat.le_refl _, fun _ _ => rfl, fun p _ => ⟨rfl, rfl, fun _ => ⟨rfl, fun _ => rfl⟩⟩⟩
  · cases h
theorem pK_fr {T : Nat → Int32} {t : Nat} {F : Cf → Option Cf} (hF : ∀ c c', F c = some c' → fTc c c') : ∀ (r : Nat) (c c' : Cf), 1 ≤ c.2.2.1 → pK T t F r c = some c' → fKc c c' := by
  intro r
  induction r with
  | zero => exact fun c c' _ h => pE_fr h
  | succ r ih =>
    intro c c' hO h
    unfold pK at h
    by_cases hg : pG T t c = true
    · rw [if_pos hg] at h
      cases hc : pC T t c with
      | none => rw [hc] at h; cases h
      | some c1 =>
        rw [hc] at h
        replace h : (match F c1 with | none => none | some c2 => pK T t F r c2) = some c' := h
        cases h1 : F c1 with
        | none => rw [h1] at h; cases h
        | some c2 =>
          rw [h1] at h
          replace h : pK T t F r c2 = some c' := h
          obtain ⟨q, M, O, kd, ar, cn, op, ch⟩ := c
          obtain ⟨q2, M2, O2, kd2, ar2, cn2, op2, ch2⟩ := c2
          obtain ⟨q3, M3, O3, kd3, ar3, cn3, op3, ch3⟩ := c'
          have hq : ∃ q1, c1 = (q1, M, O, kd, ar, cn, op, ch) := by
            unfold pC at hc
            dsimp only at hc
            split at hc
            · cases hc; exact ⟨_, rfl⟩
            · split at hc
              · cases hc; exact ⟨_, rfl⟩
              · cases hc
          obtain ⟨q1, rfl⟩ := hq
          obtain ⟨a1, a2, a3, a4⟩ := hF _ _ h1
          have hO' : 1 ≤ O := hO
          subst a1
          obtain ⟨b1, b2, b3, b4⟩ := ih _ _ hO' h
          refine ⟨b1, by omega, fun j hj => (b3 j hj).trans (a3 j hj), fun p hp => ?_⟩
          obtain ⟨x1, x2, x3, x4⟩ := a4 p hp
          obtain ⟨y1, y2, y3⟩ := b4 p (by omega)
          refine ⟨y1.trans x1, y2.trans x2, fun hn => ?_⟩
          have e : op2 (O2 - 1) = op (O2 - 1) := a3 _ (by omega)
          obtain ⟨y4, y5⟩ := y3 (by rw [e]; exact hn)
          refine ⟨(y4.trans x3).trans ?_, fun i => ((y5 i).trans (x4 i)).trans ?_⟩
          · unfold c1f; rw [if_pos (by omega)]; exact up1_n _ hn
          · unfold h1f; rw [if_pos (by omega)]; exact up2_n _ (fun z => hn z.1)
    · rw [if_neg hg] at h
      exact pE_fr h
theorem pP_fr {T : Nat → Int32} {t : Nat} : ∀ (n : Nat) (c c' : Cf), pP T t n c = some c' → fTc c c' := by
  intro n
  induction n with
  | zero => intro c c' h; cases h
  | succ n ih =>
    intro c c' h
    obtain ⟨q, M, O, kd, ar, cn, op, ch⟩ := c
    unfold pP at h
    cases hb : bg T t q M O kd ar cn op ch with
    | none => rw [hb] at h; cases h
    | some c1 =>
      rw [hb] at h
      replace h : (if c1.2.2.1 = O then some c1 else pK T t (fun c => pP T t n c) 4 c1) = some c' := h
      obtain ⟨q', a, O', op', rfl, hO⟩ := bg_fr hb
      have nM : ∀ p, p < M → p ≠ M := fun p hp => by omega
      rcases hO with ⟨rfl, rfl, -⟩ | ⟨rfl, rfl, -⟩
      · rw [if_pos rfl] at h
        cases h
        exact ⟨rfl, Nat.lt_succ_self _, fun _ _ => rfl, fun p hp => ⟨up1_n _ (nM p hp), up1_n _ (nM p hp), up1_n _ (nM p hp), fun _ => rfl⟩⟩
      · rw [if_neg (show ¬ O + 1 = O by omega)] at h
        obtain ⟨q3, M3, O3, kd3, ar3, cn3, op3, ch3⟩ := c'
        obtain ⟨b1, b2, b3, b4⟩ := pK_fr (fun c c' z => ih c c' z) 4 _ _ (show 1 ≤ O + 1 by omega) h
        refine ⟨b1, by omega, fun j hj => (b3 j (by omega)).trans (up1_n _ (by omega)), fun p hp => ?_⟩
        obtain ⟨y1, y2, y3⟩ := b4 p (by omega)
        obtain ⟨y4, y5⟩ := y3 (by rw [show O + 1 - 1 = O by omega, up1_s]; omega)
        exact ⟨y1.trans (up1_n _ (nM p hp)), y2.trans (up1_n _ (nM p hp)), y4.trans (up1_n _ (nM p hp)), y5⟩

