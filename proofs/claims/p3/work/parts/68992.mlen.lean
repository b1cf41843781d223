/-! The reference's lengths: the least of the ways. -/
theorem sm_add3 (a : Nat → Nat) : ∀ n, sm (fun i => a i + (if 0 < i then 3 else 0)) n = sm a n + 3 * (n - 1) := by
  intro n
  induction n with
  | zero => rfl
  | succ n ih =>
    show sm (fun i => a i + (if 0 < i then 3 else 0)) n + (a n + (if 0 < n then 3 else 0)) = sm a n + a n + 3 * (n + 1 - 1)
    rw [ih]
    by_cases z : 0 < n
    · rw [if_pos z]; omega
    · rw [if_neg z]; omega
/-- the least of those that were tried -/
def lst (u : ab_S) (p n a k : Nat) (cs : Nat → Nat) (S : Nat → Prop) (v : Nat) : Prop := (∀ w, S w → app k a n w → v ≤ wl u p n cs w) ∧ ∃ w, S w ∧ app k a n w ∧ v = wl u p n cs w
theorem chI.lst {u u1 : ab_S} {p1 n a k f v : Nat} {cs : Nat → Nat} {S : Nat → Prop} (h : chI u u1 p1 n a k cs f S) (e : u1.1 18 6 f = nI v) (hv : v ≤ 1000) : lst u p1 n a k cs S v := by
  obtain ⟨L, e1, h1, h2, h3⟩ := h
  obtain rfl : L = v := (nI_eq (by omega) (by omega)).mp (e1.symm.trans e)
  rcases h3 with h3 | ⟨w, a1, a2, a3, -⟩
  · omega
  · exact ⟨h2, w, a1, a2, a3⟩
section MLen
variable {P : Nat} {kd ar cn lf : Nat → Nat} {ch L : Nat → Nat → Nat} {u : ab_S} {p v : Nat}
theorem lst_B (W : tW P kd ar cn lf ch) (hp : p < P) (hU : ∀ c, p < c → c < P → ∀ j, j < 3 → lnu u (3 * c + j) = L c j) (h : lst u p (cn p) (ar p) (kd p) (ch p) (fun w => (11 ≤ w ∧ w ≤ 18) ∨ (1 ≤ w ∧ w ≤ 7)) v) : v = lB kd ar cn ch L p := by
  obtain ⟨⟨l1, l2, k1, k7, r9⟩, kl, kb⟩ := W.2.2 p hp
  obtain ⟨h1, w, hw, ha, he⟩ := h
  by_cases h5 : kd p < 5
  · rw [lB_1 k1 h5]
    have hw' : w = 1 ∨ w = 11 ∨ w = 12 := by unfold app at ha; omega
    rw [he]
    rcases hw' with rfl | rfl | rfl <;> rfl
  · obtain ⟨n2, n4, n5, n7, b5, b6⟩ := kb (by omega)
    have x0 := b5 0 (by omega)
    have x1 := b5 1 (by omega)
    have y00 := hU _ x0.1 x0.2 0 (by decide)
    have y01 := hU _ x0.1 x0.2 1 (by decide)
    have y02 := hU _ x0.1 x0.2 2 (by decide)
    have y10 := hU _ x1.1 x1.2 0 (by decide)
    have y11 := hU _ x1.1 x1.2 1 (by decide)
    have y12 := hU _ x1.1 x1.2 2 (by decide)
    rw [Nat.add_zero] at y00 y10
    have cs : kd p = 5 ∨ kd p = 6 ∨ kd p = 7 := by omega
    rcases cs with k | k | k
    · have c2 := n5 (by omega)
      have eA : lA kd cn ch L p = L (ch p 0) 1 + L (ch p 1) 1 + 3 := by unfold lA; rw [c2, if_neg (by omega)]; simp [sm]
      rw [lB_5 k, eA]
      have z13 := h1 13 (by omega) (by unfold app; omega)
      have z14 := h1 14 (by omega) (by unfold app; omega)
      have z2 := h1 2 (by omega) (by unfold app; omega)
      have e13 : wl u p (cn p) (ch p) 13 = lnu u (3 * ch p 0 + 2) + lnu u (3 * ch p 1) := rfl
      have e14 : wl u p (cn p) (ch p) 14 = lnu u (3 * ch p 1 + 2) + lnu u (3 * ch p 0) := rfl
      have e2 : wl u p (cn p) (ch p) 2 = lnu u (3 * ch p 0 + 1) + lnu u (3 * ch p 1 + 1) + 3 := rfl
      have hw' : w = 13 ∨ w = 14 ∨ w = 2 := by unfold app at ha; omega
      rcases hw' with rfl | rfl | rfl <;> omega
    · have c2 := n5 (by omega)
      have eA : lA kd cn ch L p = L (ch p 0) 1 + L (ch p 1) 1 + 3 := by unfold lA; rw [c2, if_neg (by omega)]; simp [sm]
      rw [lB_6 k, eA]
      have z3 := h1 3 (by omega) (by unfold app; omega)
      have z4 := h1 4 (by omega) (by unfold app; omega)
      have z5 := h1 5 (by omega) (by unfold app; omega)
      have z6 := h1 6 (by omega) (by unfold app; omega)
      have z15 := h1 15 (by omega) (by unfold app; omega)
      have z16 := h1 16 (by omega) (by unfold app; omega)
      have z17 := h1 17 (by omega) (by unfold app; omega)
      have e3 : wl u p (cn p) (ch p) 3 = lnu u (3 * ch p 0 + 1) + lnu u (3 * ch p 1 + 1) + 3 := rfl
      have e4 : wl u p (cn p) (ch p) 4 = lnu u (3 * ch p 0 + 1) + lnu u (3 * ch p 1 + 1) + 3 := rfl
      have e5 : wl u p (cn p) (ch p) 5 = lnu u (3 * ch p 0 + 1) + lnu u (3 * ch p 1) + 3 := rfl
      have e6 : wl u p (cn p) (ch p) 6 = lnu u (3 * ch p 0) + lnu u (3 * ch p 1 + 1) + 3 := rfl
      have e15 : wl u p (cn p) (ch p) 15 = lnu u (3 * ch p 0 + 1) + lnu u (3 * ch p 1) + 3 := rfl
      have e16 : wl u p (cn p) (ch p) 16 = lnu u (3 * ch p 1 + 1) + lnu u (3 * ch p 0) + 3 := rfl
      have e17 : wl u p (cn p) (ch p) 17 = lnu u (3 * ch p 0) + lnu u (3 * ch p 1) + 3 := rfl
      have hw' : w = 3 ∨ w = 4 ∨ w = 5 ∨ w = 6 ∨ w = 15 ∨ w = 16 ∨ w = 17 := by unfold app at ha; omega
      rcases hw' with rfl | rfl | rfl | rfl | rfl | rfl | rfl <;> omega
    · have e7 : wl u p (cn p) (ch p) 7 = lA kd cn ch L p := by
        show 1 + sm (fun i => lnu u (3 * ch p i + 1) + (if 0 < i then 3 else 0)) (cn p) = _
        rw [sm_add3 (fun i => lnu u (3 * ch p i + 1)), sm_cong (b := fun i => L (ch p i) 1) _ (fun i hi => hU _ (b5 i hi).1 (b5 i hi).2 1 (by decide))]
        unfold lA; rw [if_pos k]; omega
      have e18 : wl u p (cn p) (ch p) 18 = lR cn ch L p := by
        show sm (fun i => if i + 1 < cn p then lnu u (3 * ch p i + 2) else lnu u (3 * ch p i)) (cn p) = _
        exact sm_cong _ (fun i hi => by
          have a := hU _ (b5 i hi).1 (b5 i hi).2 2 (by decide)
          have b := hU _ (b5 i hi).1 (b5 i hi).2 0 (by decide)
          rw [Nat.add_zero] at b
          rw [a, b])
      have z7 := h1 7 (by omega) (by unfold app; omega)
      by_cases z : ar p = cn p
      · rw [lB_7a k z]
        have z18 := h1 18 (by omega) (by unfold app; omega)
        have hw' : w = 7 ∨ w = 18 := by unfold app at ha; omega
        rcases hw' with rfl | rfl <;> omega
      · rw [lB_7b k z]
        have hw' : w = 7 := by unfold app at ha; omega
        subst hw'
        omega
theorem lst_D (W : tW P kd ar cn lf ch) (hp : p < P) (hU : ∀ c, p < c → c < P → ∀ j, j < 3 → lnu u (3 * c + j) = L c j) (hb : lnu u (3 * p) = lB kd ar cn ch L p) (h : lst u p (cn p) (ar p) (kd p) (ch p) (fun w => (1 ≤ w ∧ w ≤ 8) ∨ (1 ≤ w ∧ w ≤ 0)) v) : v = lD kd ar cn ch L p := by
  obtain ⟨⟨l1, l2, k1, k7, r9⟩, kl, kb⟩ := W.2.2 p hp
  obtain ⟨h1, w, hw, ha, he⟩ := h
  have z8 := h1 8 (by omega) (by unfold app; omega)
  have e8 : wl u p (cn p) (ch p) 8 = lnu u (3 * p) + 4 := rfl
  by_cases h5 : kd p < 5
  · have b1 := lB_1 (ar := ar) (cn := cn) (ch := ch) (L := L) k1 h5
    by_cases q1 : kd p = 1
    · rw [lD_1 q1]
      have z1 := h1 1 (by omega) (by unfold app; omega)
      have e1 : wl u p (cn p) (ch p) 1 = 1 := rfl
      have hw' : w = 1 ∨ w = 8 := by unfold app at ha; omega
      rcases hw' with rfl | rfl <;> omega
    · rw [lD_l q1 k1 h5]
      have hw' : w = 8 := by unfold app at ha; omega
      subst hw'
      omega
  · obtain ⟨n2, n4, n5, n7, b5, b6⟩ := kb (by omega)
    have x0 := b5 0 (by omega)
    have x1 := b5 1 (by omega)
    have y00 := hU _ x0.1 x0.2 0 (by decide)
    have y01 := hU _ x0.1 x0.2 1 (by decide)
    have y10 := hU _ x1.1 x1.2 0 (by decide)
    have y11 := hU _ x1.1 x1.2 1 (by decide)
    rw [Nat.add_zero] at y00 y10
    have cs : kd p = 5 ∨ kd p = 6 ∨ kd p = 7 := by omega
    rcases cs with k | k | k
    · have c2 := n5 (by omega)
      have eA : lA kd cn ch L p = L (ch p 0) 1 + L (ch p 1) 1 + 3 := by unfold lA; rw [c2, if_neg (by omega)]; simp [sm]
      rw [lD_57 (Or.inl k), eA]
      have z2 := h1 2 (by omega) (by unfold app; omega)
      have e2 : wl u p (cn p) (ch p) 2 = lnu u (3 * ch p 0 + 1) + lnu u (3 * ch p 1 + 1) + 3 := rfl
      have hw' : w = 2 ∨ w = 8 := by unfold app at ha; omega
      rcases hw' with rfl | rfl <;> omega
    · have c2 := n5 (by omega)
      have eA : lA kd cn ch L p = L (ch p 0) 1 + L (ch p 1) 1 + 3 := by unfold lA; rw [c2, if_neg (by omega)]; simp [sm]
      rw [lD_6 k, eA]
      have z3 := h1 3 (by omega) (by unfold app; omega)
      have z4 := h1 4 (by omega) (by unfold app; omega)
      have z5 := h1 5 (by omega) (by unfold app; omega)
      have z6 := h1 6 (by omega) (by unfold app; omega)
      have e3 : wl u p (cn p) (ch p) 3 = lnu u (3 * ch p 0 + 1) + lnu u (3 * ch p 1 + 1) + 3 := rfl
      have e4 : wl u p (cn p) (ch p) 4 = lnu u (3 * ch p 0 + 1) + lnu u (3 * ch p 1 + 1) + 3 := rfl
      have e5 : wl u p (cn p) (ch p) 5 = lnu u (3 * ch p 0 + 1) + lnu u (3 * ch p 1) + 3 := rfl
      have e6 : wl u p (cn p) (ch p) 6 = lnu u (3 * ch p 0) + lnu u (3 * ch p 1 + 1) + 3 := rfl
      have hw' : w = 3 ∨ w = 4 ∨ w = 5 ∨ w = 6 ∨ w = 8 := by unfold app at ha; omega
      rcases hw' with rfl | rfl | rfl | rfl | rfl <;> omega
    · have e7 : wl u p (cn p) (ch p) 7 = lA kd cn ch L p := by
        show 1 + sm (fun i => lnu u (3 * ch p i + 1) + (if 0 < i then 3 else 0)) (cn p) = _
        rw [sm_add3 (fun i => lnu u (3 * ch p i + 1)), sm_cong (b := fun i => L (ch p i) 1) _ (fun i hi => hU _ (b5 i hi).1 (b5 i hi).2 1 (by decide))]
        unfold lA; rw [if_pos k]; omega
      have z7 := h1 7 (by omega) (by unfold app; omega)
      rw [lD_57 (Or.inr k)]
      have hw' : w = 7 ∨ w = 8 := by unfold app at ha; omega
      rcases hw' with rfl | rfl <;> omega
theorem lst_V (W : tW P kd ar cn lf ch) (hp : p < P) (hU : ∀ c, p < c → c < P → ∀ j, j < 3 → lnu u (3 * c + j) = L c j) (hb : lnu u (3 * p) = lB kd ar cn ch L p) (h : lst u p (cn p) (ar p) (kd p) (ch p) (fun w => (21 ≤ w ∧ w ≤ 24) ∨ (1 ≤ w ∧ w ≤ 0)) v) : v = lV kd ar cn ch L p := by
  obtain ⟨⟨l1, l2, k1, k7, r9⟩, kl, kb⟩ := W.2.2 p hp
  obtain ⟨h1, w, hw, ha, he⟩ := h
  have z24 := h1 24 (by omega) (by unfold app; omega)
  have e24 : wl u p (cn p) (ch p) 24 = lnu u (3 * p) + 1 := rfl
  have cs : (kd p ≠ 5 ∧ kd p ≠ 6) ∨ kd p = 5 ∨ kd p = 6 := by omega
  rcases cs with ⟨q5, q6⟩ | k | k
  · have eV : lV kd ar cn ch L p = lB kd ar cn ch L p + 1 := by unfold lV; rw [if_neg q5, if_neg q6]
    have hw' : w = 24 := by unfold app at ha; omega
    subst hw'
    omega
  · obtain ⟨n2, n4, n5, n7, b5, b6⟩ := kb (by omega)
    have x0 := b5 0 (by omega)
    have x1 := b5 1 (by omega)
    have y02 := hU _ x0.1 x0.2 2 (by decide)
    have y12 := hU _ x1.1 x1.2 2 (by decide)
    have eV : lV kd ar cn ch L p = min (L (ch p 0) 2 + L (ch p 1) 2) (lB kd ar cn ch L p + 1) := by unfold lV; rw [if_pos k]
    have z21 := h1 21 (by omega) (by unfold app; omega)
    have e21 : wl u p (cn p) (ch p) 21 = lnu u (3 * ch p 0 + 2) + lnu u (3 * ch p 1 + 2) := rfl
    have hw' : w = 21 ∨ w = 24 := by unfold app at ha; omega
    rcases hw' with rfl | rfl <;> omega
  · obtain ⟨n2, n4, n5, n7, b5, b6⟩ := kb (by omega)
    have x0 := b5 0 (by omega)
    have x1 := b5 1 (by omega)
    have y01 := hU _ x0.1 x0.2 1 (by decide)
    have y02 := hU _ x0.1 x0.2 2 (by decide)
    have y12 := hU _ x1.1 x1.2 2 (by decide)
    have eV : lV kd ar cn ch L p = min (min (L (ch p 0) 1 + L (ch p 1) 2 + 2) (L (ch p 0) 2 + L (ch p 1) 2 + 3)) (lB kd ar cn ch L p + 1) := by unfold lV; rw [if_neg (by omega), if_pos k]
    have z22 := h1 22 (by omega) (by unfold app; omega)
    have z23 := h1 23 (by omega) (by unfold app; omega)
    have e22 : wl u p (cn p) (ch p) 22 = lnu u (3 * ch p 0 + 1) + lnu u (3 * ch p 1 + 2) + 2 := rfl
    have e23 : wl u p (cn p) (ch p) 23 = lnu u (3 * ch p 0 + 2) + lnu u (3 * ch p 1 + 2) + 3 := rfl
    have hw' : w = 22 ∨ w = 23 ∨ w = 24 := by unfold app at ha; omega
    rcases hw' with rfl | rfl | rfl <;> omega
end MLen

