/-! How many words each form says: one function for both sides. -/
theorem sm_cong {a b : Nat → Nat} : ∀ n, (∀ i, i < n → a i = b i) → sm a n = sm b n := by
  intro n
  induction n with
  | zero => intro _; rfl
  | succ n ih =>
    intro h
    show sm a n + a n = sm b n + b n
    rw [ih (fun i hi => h i (by omega)), h n (by omega)]
section PLen
variable {kd ar cn : Nat → Nat} {ch L L' : Nat → Nat → Nat} {p : Nat}
theorem lB_1 (h1 : 1 ≤ kd p) (h5 : kd p < 5) : lB kd ar cn ch L p = 1 := by
  unfold lB dW bW
  by_cases k1 : kd p = 1
  · rw [if_pos k1, if_pos k1]; rfl
  · rw [if_neg k1, if_neg k1, if_pos h5, if_pos h5]; rfl
theorem lB_5 (k5 : kd p = 5) : lB kd ar cn ch L p = min (min (L (ch p 0) 2 + L (ch p 1) 0) (L (ch p 1) 2 + L (ch p 0) 0)) (lA kd cn ch L p) := by
  unfold lB dW bW
  rw [if_neg (by omega), if_neg (by omega), if_neg (by omega), if_neg (by omega), if_neg (by omega), if_pos k5]; rfl
theorem lB_6 (k6 : kd p = 6) : lB kd ar cn ch L p = min (min (min (min (min (min (L (ch p 0) 1 + L (ch p 1) 0 + 3) (L (ch p 1) 1 + L (ch p 0) 0 + 3)) (L (ch p 0) 0 + L (ch p 1) 0 + 3)) (lA kd cn ch L p)) (L (ch p 0) 1 + L (ch p 1) 1 + 3)) (L (ch p 0) 1 + L (ch p 1) 0 + 3)) (L (ch p 0) 0 + L (ch p 1) 1 + 3) := by
  unfold lB dW bW
  rw [if_neg (by omega), if_neg (by omega), if_pos k6, if_neg (by omega), if_neg (by omega), if_neg (by omega), if_pos k6]; rfl
theorem lB_7a (k7 : kd p = 7) (h : ar p = cn p) : lB kd ar cn ch L p = min (lR cn ch L p) (lA kd cn ch L p) := by
  unfold lB dW bW
  rw [if_neg (by omega), if_neg (by omega), if_neg (by omega), if_neg (by omega), if_neg (by omega), if_neg (by omega), if_neg (by omega), if_pos h]; rfl
theorem lB_7b (k7 : kd p = 7) (h : ¬ ar p = cn p) : lB kd ar cn ch L p = lA kd cn ch L p := by
  unfold lB dW bW
  rw [if_neg (by omega), if_neg (by omega), if_neg (by omega), if_neg (by omega), if_neg (by omega), if_neg (by omega), if_neg (by omega), if_neg h]; rfl
theorem lD_1 (k1 : kd p = 1) : lD kd ar cn ch L p = 1 := by
  unfold lD dW
  rw [if_pos k1, lB_1 (by omega) (by omega)]; rfl
theorem lD_l (k1 : kd p ≠ 1) (h1 : 1 ≤ kd p) (h5 : kd p < 5) : lD kd ar cn ch L p = 5 := by
  unfold lD dW
  rw [if_neg k1, if_pos h5, lB_1 h1 h5]; rfl
theorem lD_57 (k : kd p = 5 ∨ kd p = 7) : lD kd ar cn ch L p = min (lA kd cn ch L p) (lB kd ar cn ch L p + 4) := by
  unfold lD dW
  rw [if_neg (by omega), if_neg (by omega), if_neg (by omega)]; rfl
theorem lD_6 (k6 : kd p = 6) : lD kd ar cn ch L p = min (min (min (min (lA kd cn ch L p) (L (ch p 0) 1 + L (ch p 1) 1 + 3)) (L (ch p 0) 1 + L (ch p 1) 0 + 3)) (L (ch p 0) 0 + L (ch p 1) 1 + 3)) (lB kd ar cn ch L p + 4) := by
  unfold lD dW
  rw [if_neg (by omega), if_neg (by omega), if_pos k6]; rfl
theorem lS_cong (h1 : 1 ≤ kd p) (h7 : kd p ≤ 7) (h5 : 5 ≤ kd p → 2 ≤ cn p) (h : ∀ i, i < cn p → ∀ j, L (ch p i) j = L' (ch p i) j) (j : Nat) : lS kd ar cn ch L p j = lS kd ar cn ch L' p j := by
  have eA : lA kd cn ch L p = lA kd cn ch L' p := by unfold lA; rw [sm_cong _ (fun i hi => h i hi 1)]
  have eR : lR cn ch L p = lR cn ch L' p := by unfold lR; rw [sm_cong _ (fun i hi => by rw [h i hi 2, h i hi 0])]
  have cs : kd p < 5 ∨ kd p = 5 ∨ kd p = 6 ∨ kd p = 7 := by omega
  have eB : lB kd ar cn ch L p = lB kd ar cn ch L' p := by
    rcases cs with k | k | k | k
    · rw [lB_1 h1 k, lB_1 h1 k]
    · rw [lB_5 k, lB_5 k, eA, h 0 (by have := h5 (by omega); omega), h 0 (by have := h5 (by omega); omega), h 1 (by have := h5 (by omega); omega), h 1 (by have := h5 (by omega); omega)]
    · rw [lB_6 k, lB_6 k, eA, h 0 (by have := h5 (by omega); omega), h 0 (by have := h5 (by omega); omega), h 1 (by have := h5 (by omega); omega), h 1 (by have := h5 (by omega); omega)]
    · by_cases z : ar p = cn p
      · rw [lB_7a k z, lB_7a k z, eA, eR]
      · rw [lB_7b k z, lB_7b k z, eA]
  have eD : lD kd ar cn ch L p = lD kd ar cn ch L' p := by
    rcases cs with k | k | k | k
    · by_cases k1 : kd p = 1
      · rw [lD_1 k1, lD_1 k1]
      · rw [lD_l k1 h1 k, lD_l k1 h1 k]
    · rw [lD_57 (Or.inl k), lD_57 (Or.inl k), eA, eB]
    · rw [lD_6 k, lD_6 k, eA, eB, h 0 (by have := h5 (by omega); omega), h 0 (by have := h5 (by omega); omega), h 1 (by have := h5 (by omega); omega), h 1 (by have := h5 (by omega); omega)]
    · rw [lD_57 (Or.inr k), lD_57 (Or.inr k), eA, eB]
  have eV : lV kd ar cn ch L p = lV kd ar cn ch L' p := by
    unfold lV
    rcases cs with k | k | k | k
    · rw [if_neg (by omega), if_neg (by omega), if_neg (by omega), if_neg (by omega), eB]
    · rw [if_pos k, if_pos k, eB, h 0 (by have := h5 (by omega); omega), h 1 (by have := h5 (by omega); omega)]
    · rw [if_neg (show ¬ kd p = 5 by omega), if_neg (show ¬ kd p = 5 by omega), if_pos k, if_pos k, eB, h 0 (by have := h5 (by omega); omega), h 0 (by have := h5 (by omega); omega), h 1 (by have := h5 (by omega); omega)]
    · rw [if_neg (by omega), if_neg (by omega), if_neg (by omega), if_neg (by omega), eB]
  unfold lS
  rw [eB, eD, eV]
end PLen
def lnF (kd ar cn : Nat → Nat) (ch : Nat → Nat → Nat) : Nat → Nat → Nat → Nat
  | 0 => fun _ _ => 0
  | n + 1 => fun q j => lS kd ar cn ch (lnF kd ar cn ch n) q j
section PLen2
variable {M : Nat} {kd ar cn lf : Nat → Nat} {ch : Nat → Nat → Nat}
theorem tW.kids (W : tW M kd ar cn lf ch) {p : Nat} (hp : p < M) : (1 ≤ kd p ∧ kd p ≤ 7) ∧ (5 ≤ kd p → 2 ≤ cn p) ∧ ∀ i, i < cn p → p < ch p i ∧ ch p i < M := by
  obtain ⟨⟨l1, l2, k1, k7, r9⟩, kl, kb⟩ := W.2.2 p hp
  refine ⟨⟨k1, k7⟩, fun z => (kb z).1, fun i hi => ?_⟩
  exact (kb (Nat.le_of_not_lt (fun z => by have := kl z; omega))).2.2.2.2.1 i hi
theorem lnF_st (W : tW M kd ar cn lf ch) : ∀ (n n' q : Nat), q < M → M - q ≤ n → M - q ≤ n' → ∀ j, lnF kd ar cn ch n q j = lnF kd ar cn ch n' q j := by
  intro n
  induction n with
  | zero => intro n' q hq h; omega
  | succ n ih =>
    intro n' q hq h h' j
    obtain ⟨m, rfl⟩ : ∃ m, n' = m + 1 := ⟨n' - 1, by omega⟩
    obtain ⟨⟨k1, k7⟩, k5, kc⟩ := W.kids hq
    exact lS_cong k1 k7 k5 (fun i hi j => ih m (ch q i) (kc i hi).2 (by have := (kc i hi).1; omega) (by have := (kc i hi).1; omega) j) j
theorem lnF_fix (W : tW M kd ar cn lf ch) {q : Nat} (hq : q < M) (j : Nat) : lnF kd ar cn ch M q j = lS kd ar cn ch (lnF kd ar cn ch M) q j := by
  obtain ⟨m, rfl⟩ : ∃ m, M = m + 1 := ⟨M - 1, by omega⟩
  obtain ⟨⟨k1, k7⟩, k5, kc⟩ := W.kids hq
  exact lS_cong k1 k7 k5 (fun i hi j => lnF_st W m (m + 1) (ch q i) (kc i hi).2 (by have := (kc i hi).1; omega) (by omega) j) j
theorem lnF_b (W : tW M kd ar cn lf ch) {L : Nat → Nat → Nat} (hL : ∀ q, q < M → ∀ j, j < 3 → L q j = lS kd ar cn ch L q j) : ∀ (k q : Nat), q + k = M → q < M → ∀ j, j < 3 → 1 ≤ L q j ∧ L q j ≤ 9 * lf q - 4 + (if j = 2 then 1 else 0) := by
  intro k
  induction k using Nat.strongRecOn with
  | ind k ih =>
    intro q hk hq
    obtain ⟨⟨l1, l2, k1, k7, r9⟩, kl, kb⟩ := W.2.2 q hq
    obtain ⟨-, -, kc⟩ := W.kids hq
    have IH : ∀ i, i < cn q → ∀ j, j < 3 → 1 ≤ L (ch q i) j ∧ L (ch q i) j ≤ 9 * lf (ch q i) - 4 + (if j = 2 then 1 else 0) := fun i hi j hj => ih (M - ch q i) (by have := kc i hi; omega) (ch q i) (by have := kc i hi; omega) (kc i hi).2 j hj
    have e0 : L q 0 = lB kd ar cn ch L q := hL q hq 0 (by decide)
    have e1 : L q 1 = lD kd ar cn ch L q := hL q hq 1 (by decide)
    have e2 : L q 2 = lV kd ar cn ch L q := hL q hq 2 (by decide)
    have main : (1 ≤ lB kd ar cn ch L q ∧ lB kd ar cn ch L q ≤ 9 * lf q - 4) ∧ (1 ≤ lD kd ar cn ch L q ∧ lD kd ar cn ch L q ≤ 9 * lf q - 4) ∧ 1 ≤ lV kd ar cn ch L q ∧ lV kd ar cn ch L q ≤ 9 * lf q - 4 + 1 := by
      by_cases h5 : kd q < 5
      · have b := lB_1 (ar := ar) (cn := cn) (ch := ch) (L := L) k1 h5
        have v : lV kd ar cn ch L q = 2 := by unfold lV; rw [if_neg (by omega), if_neg (by omega), b]
        by_cases k1' : kd q = 1
        · rw [b, v, lD_1 k1']; omega
        · rw [b, v, lD_l k1' k1 h5]; omega
      · obtain ⟨n2, n4, n5, n7, b5, b6⟩ := kb (by omega)
        have sW : sm (fun i => L (ch q i) 1) (cn q) + 4 * cn q ≤ 9 * lf q := by
          have z := sm_lin (a := fun i => L (ch q i) 1) (g := fun i => lf (ch q i)) (k := 9) (r := 4) (cn q) (fun i hi => by
            have a := (IH i hi 1 (by decide)).2
            have b := (W.2.2 _ (b5 i hi).2).1.1
            rw [if_neg (by decide)] at a
            show L (ch q i) 1 + 4 ≤ 9 * lf (ch q i)
            omega)
          omega
        have sP : 1 ≤ sm (fun i => L (ch q i) 1) (cn q) := by
          have a := (IH 0 (by omega) 1 (by decide)).1
          have z : sm (fun i => L (ch q i) 1) 1 ≤ sm (fun i => L (ch q i) 1) (cn q) := sm_mono _ (by omega)
          have z2 : sm (fun i => L (ch q i) 1) 1 = L (ch q 0) 1 := by simp [sm]
          omega
        have a1 : 1 ≤ lA kd cn ch L q ∧ lA kd cn ch L q ≤ 9 * lf q - 4 := by unfold lA; split <;> omega
        have rP : 1 ≤ lR cn ch L q := by
          have a := (IH 0 (by omega) 2 (by decide)).1
          have z : sm (fun i => if i + 1 < cn q then L (ch q i) 2 else L (ch q i) 0) 1 ≤ lR cn ch L q := sm_mono _ (by omega)
          have z2 : sm (fun i => if i + 1 < cn q then L (ch q i) 2 else L (ch q i) 0) 1 = L (ch q 0) 2 := by
            show 0 + (if 0 + 1 < cn q then L (ch q 0) 2 else L (ch q 0) 0) = _
            rw [if_pos (by omega)]; omega
          omega
        have x00 := (IH 0 (by omega) 0 (by decide)).1
        have x01 := (IH 0 (by omega) 1 (by decide)).1
        have x02 := (IH 0 (by omega) 2 (by decide)).1
        have x10 := (IH 1 (by omega) 0 (by decide)).1
        have x11 := (IH 1 (by omega) 1 (by decide)).1
        have x12 := (IH 1 (by omega) 2 (by decide)).1
        have cs : kd q = 5 ∨ kd q = 6 ∨ kd q = 7 := by omega
        rcases cs with k | k | k
        · have hB := lB_5 (ar := ar) (cn := cn) (ch := ch) (L := L) k
          have hD := lD_57 (ar := ar) (cn := cn) (ch := ch) (L := L) (Or.inl k)
          have hV : lV kd ar cn ch L q = min (L (ch q 0) 2 + L (ch q 1) 2) (lB kd ar cn ch L q + 1) := by unfold lV; rw [if_pos k]
          omega
        · have hB := lB_6 (ar := ar) (cn := cn) (ch := ch) (L := L) k
          have hD := lD_6 (ar := ar) (cn := cn) (ch := ch) (L := L) k
          have hV : lV kd ar cn ch L q = min (min (L (ch q 0) 1 + L (ch q 1) 2 + 2) (L (ch q 0) 2 + L (ch q 1) 2 + 3)) (lB kd ar cn ch L q + 1) := by unfold lV; rw [if_neg (by omega), if_pos k]
          omega
        · have hD := lD_57 (ar := ar) (cn := cn) (ch := ch) (L := L) (Or.inr k)
          have hV : lV kd ar cn ch L q = lB kd ar cn ch L q + 1 := by unfold lV; rw [if_neg (by omega), if_neg (by omega)]
          by_cases z : ar q = cn q
          · have hB := lB_7a (ar := ar) (cn := cn) (ch := ch) (L := L) k z
            omega
          · have hB := lB_7b (ar := ar) (cn := cn) (ch := ch) (L := L) k z
            omega
    intro j hj
    have j3 : j = 0 ∨ j = 1 ∨ j = 2 := by omega
    rcases j3 with rfl | rfl | rfl
    · rw [e0, if_neg (by decide)]; exact main.1
    · rw [e1, if_neg (by decide)]; exact main.2.1
    · rw [e2, if_pos rfl]; exact main.2.2
end PLen2

