/-! The reference's forms of a part, all three. -/
/-- the forms of the parts from p0 on -/
def fV (P : Nat) (kd lf : Nat → Nat) (p0 : Nat) (u : ab_S) : Prop := ∀ p, p0 ≤ p → p < P → ∀ j, j < 3 → fG u (3 * p + j) (lf p - 1) ∧ lnu u (3 * p + j) ≤ 9 * lf p - 4 + (if j = 2 then 1 else 0) ∧ ∃ w, u.1 18 5 (3 * p + j) = nI w ∧ wv (kd p) j w ∧ (j = 1 → w ≤ 8)
/-- of the part p itself, the forms below i written: only the words of p's own forms have changed -/
def fN (u u1 : ab_S) (p : Nat) : Prop := gP [16, 17, 18, 19, 105, 106, 107, 108, 109] u u1 ∧ (∀ g, (g < 3 * p ∨ 3 * p + 3 ≤ g) → u1.1 18 6 g = u.1 18 6 g ∧ u1.1 18 5 g = u.1 18 5 g) ∧ ∀ q, (q < 100 * (3 * p) ∨ 100 * (3 * p + 3) ≤ q) → u1.1 18 9 q = u.1 18 9 q
theorem fG.keep {u u' : ab_S} {f k : Nat} (h : fG u f k) (e6 : u'.1 18 6 f = u.1 18 6 f) (e9 : ∀ q, 100 * f ≤ q → q < 100 * f + 100 → u'.1 18 9 q = u.1 18 9 q) : fG u' f k := by
  have e : lnu u' f = lnu u f := by unfold lnu; rw [e6]
  have hn := h.1.2.2
  unfold fG lk
  rw [e, e6, ol_congr (u := u) (lnu u f) (100 * f) (fun i a b => e9 i a (by omega))]
  exact h
theorem sm_ln {u : ab_S} {n : Nat} {cs lf : Nat → Nat} (hn : 1 ≤ n) (h : ∀ i, i < n → lnu u (3 * cs i + 1) + 4 ≤ 9 * lf (cs i)) : sm (fun i => lnu u (3 * cs i + 1) + (if 0 < i then 3 else 0)) n + n + 3 ≤ 9 * sm (fun i => lf (cs i)) n := by
  induction n with
  | zero => omega
  | succ n ih =>
    have z := h n (by omega)
    show sm (fun i => lnu u (3 * cs i + 1) + (if 0 < i then 3 else 0)) n + (lnu u (3 * cs n + 1) + (if 0 < n then 3 else 0)) + (n + 1) + 3 ≤ 9 * (sm (fun i => lf (cs i)) n + lf (cs n))
    by_cases q : n = 0
    · subst q
      have e1 : sm (fun i => lnu u (3 * cs i + 1) + (if 0 < i then 3 else 0)) 0 = 0 := rfl
      have e2 : sm (fun i => lf (cs i)) 0 = 0 := rfl
      rw [e1, e2, if_neg (by omega)]
      omega
    · have := ih (by omega) (fun i hi => h i (by omega))
      rw [if_pos (by omega)]
      omega
/-- the way that every part has -/
def w00 (k j : Nat) : Nat := if j = 2 then 24 else if k = 1 then 1 else if k = 5 then 2 else if k = 6 then 3 else if k = 7 then 7 else if j = 1 then 8 else if k = 2 then 11 else 12
theorem wl_00 {u : ab_S} {P : Nat} {kd ar cn lf : Nat → Nat} {ch : Nat → Nat → Nat} (W : tW P kd ar cn lf ch) {p j : Nat} (hp : p < P) (hj : j < 3) (G : ∀ c, p < c → c < P → lnu u (3 * c + 1) ≤ 9 * lf c - 4) (hB : 0 < j → lnu u (3 * p) ≤ 9 * lf p - 4 ∧ (kd p < 5 → lnu u (3 * p) ≤ 1)) : wl u p (cn p) (ch p) (w00 (kd p) j) ≤ 9 * lf p - 4 + (if j = 2 then 1 else 0) := by
  obtain ⟨⟨l1, l10, k1, k7, -⟩, -, a3⟩ := W.2.2 p hp
  unfold w00
  by_cases h2 : j = 2
  · rw [if_pos h2, if_pos h2]
    have z := (hB (by omega)).1
    show lnu u (3 * p) + 1 ≤ _
    omega
  · rw [if_neg h2, if_neg h2]
    by_cases q1 : kd p = 1
    · rw [if_pos q1]
      show 1 ≤ _
      omega
    · rw [if_neg q1]
      by_cases q5 : kd p = 5 ∨ kd p = 6
      · obtain ⟨n2, n4, n5, -, b5, b6⟩ := a3 (by omega)
        have n5 := n5 (by omega)
        have c0 := b5 0 (by omega)
        have c1 := b5 1 (by omega)
        have g0 := G _ c0.1 c0.2
        have g1 := G _ c1.1 c1.2
        have l0 := (W.2.2 _ c0.2).1.1
        have l1' := (W.2.2 _ c1.2).1.1
        rw [n5] at b6
        have b6 : 0 + lf (ch p 0) + lf (ch p 1) ≤ lf p := b6
        rcases q5 with q5 | q5
        · rw [if_pos q5]
          show lnu u (3 * ch p 0 + 1) + lnu u (3 * ch p 1 + 1) + 3 ≤ _
          omega
        · rw [if_neg (by omega), if_pos q5]
          show lnu u (3 * ch p 0 + 1) + lnu u (3 * ch p 1 + 1) + 3 ≤ _
          omega
      · rw [if_neg (by omega), if_neg (by omega)]
        by_cases q7 : kd p = 7
        · rw [if_pos q7]
          obtain ⟨n2, n4, -, -, b5, b6⟩ := a3 (by omega)
          have z := sm_ln (u := u) (cs := ch p) (lf := lf) (show 1 ≤ cn p by omega) (fun i hi => by
            have c0 := b5 i hi
            have g0 := G _ c0.1 c0.2
            have l0 := (W.2.2 _ c0.2).1.1
            omega)
          show 1 + sm (fun i => lnu u (3 * ch p i + 1) + (if 0 < i then 3 else 0)) (cn p) ≤ _
          omega
        · rw [if_neg q7]
          by_cases hj1 : j = 1
          · rw [if_pos hj1]
            have z := (hB (by omega)).2 (by omega)
            show lnu u (3 * p) + 4 ≤ _
            omega
          · rw [if_neg hj1]
            by_cases q2 : kd p = 2
            · rw [if_pos q2]; show 1 ≤ _; omega
            · rw [if_neg q2]; show 1 ≤ _; omega
/-- what a choice that is through has found -/
theorem chI.found {u u1 : ab_S} {P : Nat} {kd ar cn lf : Nat → Nat} {ch : Nat → Nat → Nat} (W : tW P kd ar cn lf ch) {p j ra rb rc rd : Nat} (hp : p < P) (hj : j < 3) (hr : (j = 0 ∧ ra = 11 ∧ rb = 18 ∧ rc = 1 ∧ rd = 7) ∨ (j = 1 ∧ ra = 1 ∧ rb = 8 ∧ rc = 1 ∧ rd = 0) ∨ (j = 2 ∧ ra = 21 ∧ rb = 24 ∧ rc = 1 ∧ rd = 0)) (G : ∀ c, p < c → c < P → lnu u (3 * c + 1) ≤ 9 * lf c - 4) (hB : 0 < j → lnu u (3 * p) ≤ 9 * lf p - 4 ∧ (kd p < 5 → lnu u (3 * p) ≤ 1)) (h : chI u u1 p (cn p) (ar p) (kd p) (ch p) (3 * p + j) (fun w => (ra ≤ w ∧ w ≤ rb) ∨ (rc ≤ w ∧ w ≤ rd))) : ∃ w, ways w ∧ wv (kd p) j w ∧ (j = 1 → w ≤ 8) ∧ app (kd p) (ar p) (cn p) w ∧ (w = 8 ∨ w = 24 → 0 < j) ∧ u1.1 18 6 (3 * p + j) = nI (wl u p (cn p) (ch p) w) ∧ u1.1 18 5 (3 * p + j) = nI w ∧ wl u p (cn p) (ch p) w ≤ 9 * lf p - 4 + (if j = 2 then 1 else 0) ∧ (j = 0 → kd p < 5 → wl u p (cn p) (ch p) w = 1) := by
  obtain ⟨⟨l1, l10, k1, k7, -⟩, -, -⟩ := W.2.2 p hp
  have hS : (ra ≤ w00 (kd p) j ∧ w00 (kd p) j ≤ rb) ∨ (rc ≤ w00 (kd p) j ∧ w00 (kd p) j ≤ rd) := by
    unfold w00
    repeat' split
    all_goals omega
  have hA : app (kd p) (ar p) (cn p) (w00 (kd p) j) := by
    unfold app w00
    repeat' split
    all_goals omega
  have hb := wl_00 W hp hj G hB
  obtain ⟨L, e6, hL, i1, i2⟩ := h
  have z := i1 _ hS hA
  have hl60 : L ≤ 87 := by
    split at hb <;> omega
  rcases i2 with ⟨z1, -⟩ | ⟨w, s1, s2, s3, s4⟩
  · omega
  · refine ⟨w, ?_, ?_, ?_, s2, ?_, by rw [← s3]; exact e6, s4, by rw [← s3]; omega, fun h0 hk => ?_⟩
    · unfold app at s2; unfold ways; omega
    · unfold app at s2; unfold wv; omega
    · omega
    · omega
    · have hw : w = 1 ∨ w = 11 ∨ w = 12 := by unfold app at s2; omega
      unfold wl; rw [if_pos hw]
theorem ways_in : ∀ w, w < 25 → (w ≠ 0 ∧ w ≠ 9 ∧ w ≠ 10 ∧ w ≠ 19 ∧ w ≠ 20) → ways w := by
  intro w hw hn
  have : w = 1 ∨ w = 2 ∨ w = 3 ∨ w = 4 ∨ w = 5 ∨ w = 6 ∨ w = 7 ∨ w = 8 ∨ w = 11 ∨ w = 12 ∨ w = 13 ∨ w = 14 ∨ w = 15 ∨ w = 16 ∨ w = 17 ∨ w = 18 ∨ w = 21 ∨ w = 22 ∨ w = 23 ∨ w = 24 := by omega
  exact this
/-- the three ways of p are chosen; the forms below i are written -/
def wS (P : Nat) (kd ar cn lf : Nat → Nat) (ch : Nat → Nat → Nat) (p : Nat) (wy n : Nat → Nat) (i : Nat) (u1 : ab_S) : Prop :=
  (∀ c, p < c → c < P → fG u1 (3 * c) (lf c - 1) ∧ fG u1 (3 * c + 1) (lf c - 1) ∧ fG u1 (3 * c + 2) (lf c - 1)) ∧
  (∀ j, j < 3 → u1.1 18 5 (3 * p + j) = nI (wy j) ∧ u1.1 18 6 (3 * p + j) = nI (n j) ∧ n j = wl u1 p (cn p) (ch p) (wy j) ∧ 1 ≤ n j ∧ n j ≤ 87 ∧ ways (wy j) ∧ app (kd p) (ar p) (cn p) (wy j) ∧ (wy j = 8 ∨ wy j = 24 → 0 < j)) ∧ ∀ j, j < i → j < 3 → fG u1 (3 * p + j) (lf p - 1)
theorem wS.fr {P : Nat} {kd ar cn lf : Nat → Nat} {ch : Nat → Nat → Nat} {p : Nat} {wy n : Nat → Nat} {i : Nat} {u1 u2 : ab_S} (h : wS P kd ar cn lf ch p wy n i u1) {F : List Nat} (g : gP F u1 u2) (h5 : ¬ 100 + 5 ∈ F) (h6 : ¬ 100 + 6 ∈ F) (h9 : ¬ 100 + 9 ∈ F) : wS P kd ar cn lf ch p wy n i u2 :=
  ⟨fun c a b => ⟨(h.1 c a b).1.fr g h6 h9, (h.1 c a b).2.1.fr g h6 h9, (h.1 c a b).2.2.fr g h6 h9⟩, fun j hj => by
    obtain ⟨a1, a2, a3, a4⟩ := h.2.1 j hj
    exact ⟨g.ai h5 a1, g.ai h6 a2, by rw [wl_fr g h6]; exact a3, a4⟩, fun j a b => (h.2.2 j a b).fr g h6 h9⟩
theorem fN.fr {u u1 u2 : ab_S} {p : Nat} (h : fN u u1 p) {F : List Nat} (g : gP F u1 u2) (hF : ∀ z ∈ F, z ∈ [16, 17, 18, 19, 105, 106, 107, 108, 109]) (h5 : ¬ 100 + 5 ∈ F) (h6 : ¬ 100 + 6 ∈ F) (h9 : ¬ 100 + 9 ∈ F) : fN u u2 p := ⟨h.1.trans g hF, fun x hx => ⟨(g.ai h6 rfl).trans (h.2.1 x hx).1, (g.ai h5 rfl).trans (h.2.1 x hx).2⟩, fun q hq => (g.ai h9 rfl).trans (h.2.2 q hq)⟩

