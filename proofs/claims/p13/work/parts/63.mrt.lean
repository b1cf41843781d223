/-! A policy while it is read: its parts in the order of their beginnings, each with the place behind its last; which stand open. -/
def up1 (f : Nat → Nat) (i v : Nat) : Nat → Nat := fun x => if x = i then v else f x
theorem up1_s (f : Nat → Nat) (i v : Nat) : up1 f i v i = v := if_pos rfl
theorem up1_n (f : Nat → Nat) {i v x : Nat} (h : x ≠ i) : up1 f i v x = f x := if_neg h
def up2 (f : Nat → Nat → Nat) (i k v : Nat) : Nat → Nat → Nat := fun x y => if x = i ∧ y = k then v else f x y
theorem up2_s (f : Nat → Nat → Nat) (i k v : Nat) : up2 f i k v i k = v := if_pos ⟨rfl, rfl⟩
theorem up2_n (f : Nat → Nat → Nat) {i k v x y : Nat} (h : ¬ (x = i ∧ y = k)) : up2 f i k v x y = f x y := if_neg h
/-- one part: what holds of it at any time, in terms of how many parts there are -/
def rt1 (M : Nat) (kd ar cn en cl : Nat → Nat) (ch : Nat → Nat → Nat) (p : Nat) : Prop :=
  (1 ≤ kd p ∧ kd p ≤ 7 ∧ ar p ≤ 999) ∧ (kd p < 5 → cn p = 0 ∧ en p = p + 1 ∧ cl p = 1) ∧
  (5 ≤ kd p → cn p ≤ 4 ∧ (kd p < 7 → cn p ≤ 2) ∧ (0 < cn p → ch p 0 = p + 1) ∧ (∀ i, i + 1 < cn p → ch p (i + 1) = en (ch p i) ∧ cl (ch p i) = 1) ∧ ∀ i, i < cn p → p < ch p i ∧ ch p i < M) ∧
  (cl p = 1 → p < en p ∧ en p ≤ M ∧ (5 ≤ kd p → 2 ≤ cn p ∧ (kd p < 7 → cn p = 2) ∧ (kd p = 7 → 1 ≤ ar p ∧ ar p ≤ cn p) ∧ en p = en (ch p (cn p - 1)) ∧ cl (ch p (cn p - 1)) = 1))
/-- the open ones, innermost last -/
def rt2 (M O : Nat) (kd cn en cl op : Nat → Nat) (ch : Nat → Nat → Nat) : Prop :=
  (∀ p, p < M → cl p ≠ 1 → ∃ j, j < O ∧ op j = p) ∧
  (∀ j, j < O → op j < M ∧ 5 ≤ kd (op j) ∧ cl (op j) ≠ 1 ∧ (j + 1 < O → op j < op (j + 1) ∧ 0 < cn (op j) ∧ ch (op j) (cn (op j) - 1) = op (j + 1))) ∧
  (0 < O → (cn (op (O - 1)) = 0 → M = op (O - 1) + 1) ∧ (0 < cn (op (O - 1)) → en (ch (op (O - 1)) (cn (op (O - 1)) - 1)) = M ∧ cl (ch (op (O - 1)) (cn (op (O - 1)) - 1)) = 1)) ∧
  (O = 0 → 0 < M → en 0 = M)
def rt (M O : Nat) (kd ar cn en cl op : Nat → Nat) (ch : Nat → Nat → Nat) : Prop := (∀ p, p < M → rt1 M kd ar cn en cl ch p) ∧ rt2 M O kd cn en cl op ch
theorem rt.mono {O : Nat} {op : Nat → Nat} {M : Nat} {kd cn en cl : Nat → Nat} {ch : Nat → Nat → Nat} (h : rt2 M O kd cn en cl op ch) : ∀ (b a : Nat), a < b → b < O → op a < op b := by
  intro b
  induction b with
  | zero => intro a ha; omega
  | succ b ih =>
    intro a ha hb
    have z := ((h.2.1 b (by omega)).2.2.2 hb).1
    by_cases q : a = b
    · rw [q]; exact z
    · exact Nat.lt_trans (ih a (by omega) (by omega)) z
section RT
variable {M O : Nat} {kd ar cn en cl op : Nat → Nat} {ch : Nat → Nat → Nat}
/-- a part more, a leaf (k < 5) or one that stands open now -/
theorem rt.add (h : rt M O kd ar cn en cl op ch) (k a : Nat) (hk1 : 1 ≤ k) (hk7 : k ≤ 7) (ha : a ≤ 999) (hO : O = 0 → M = 0) (hroom : 0 < O → cn (op (O - 1)) < 4 ∧ (kd (op (O - 1)) < 7 → cn (op (O - 1)) < 2)) (cn' : Nat → Nat) (ch' : Nat → Nat → Nat) (hcn : cn' = up1 (if 0 < O then up1 cn (op (O - 1)) (cn (op (O - 1)) + 1) else cn) M 0) (hch : ch' = if 0 < O then up2 ch (op (O - 1)) (cn (op (O - 1))) M else ch) :
    (k < 5 → rt (M + 1) O (up1 kd M k) (up1 ar M a) cn' (up1 en M (M + 1)) (up1 cl M 1) op ch') ∧ (5 ≤ k → rt (M + 1) (O + 1) (up1 kd M k) (up1 ar M a) cn' en (up1 cl M 0) (up1 op O M) ch') := by
  obtain ⟨h1, c1, c2, c3, c4⟩ := h
  -- the new counts and children, of the old parts
  have eM : cn' M = 0 := by rw [hcn]; exact up1_s _ _ _
  have eN : ∀ p, p < M → ¬ (0 < O ∧ p = op (O - 1)) → cn' p = cn p ∧ ∀ i, ch' p i = ch p i := by
    intro p hp hn
    by_cases q : 0 < O
    · have hne : p ≠ op (O - 1) := fun z => hn ⟨q, z⟩
      rw [hcn, hch, if_pos q, if_pos q, up1_n _ (by omega), up1_n _ hne]
      exact ⟨rfl, fun i => up2_n _ (fun z => hne z.1)⟩
    · rw [hcn, hch, if_neg q, if_neg q, up1_n _ (by omega)]
      exact ⟨rfl, fun i => rfl⟩
  have eT : 0 < O → cn' (op (O - 1)) = cn (op (O - 1)) + 1 ∧ ch' (op (O - 1)) (cn (op (O - 1))) = M ∧ ∀ i, i ≠ cn (op (O - 1)) → ch' (op (O - 1)) i = ch (op (O - 1)) i := by
    intro q
    have hlt := (c2 (O - 1) (by omega)).1
    rw [hcn, hch, if_pos q, if_pos q, up1_n _ (by omega), up1_s]
    exact ⟨rfl, up2_s _ _ _ _, fun i hi => up2_n _ (fun z => hi z.2)⟩
  -- the old parts keep what holds of them, whatever en' and cl' say of the new one
  have old : ∀ (en' cl' : Nat → Nat), (∀ p, p < M → en' p = en p ∧ cl' p = cl p) → ∀ p, p < M → rt1 (M + 1) (up1 kd M k) (up1 ar M a) cn' en' cl' ch' p := by
    intro en' cl' he p hp
    obtain ⟨a1, a2, a3, a4⟩ := h1 p hp
    have k' : up1 kd M k p = kd p := up1_n _ (by omega)
    have r' : up1 ar M a p = ar p := up1_n _ (by omega)
    unfold rt1
    rw [k', r', (he p hp).1, (he p hp).2]
    by_cases q : 0 < O ∧ p = op (O - 1)
    · obtain ⟨q0, rfl⟩ := q
      obtain ⟨-, t5, tcl, -⟩ := c2 (O - 1) (by omega)
      obtain ⟨e1, e2, e3⟩ := eT q0
      obtain ⟨r4, r2⟩ := hroom q0
      obtain ⟨b1, b2, b3, b4, b5⟩ := a3 t5
      obtain ⟨d1, d2⟩ := c3 q0
      refine ⟨a1, fun z => by omega, fun _ => ⟨by omega, fun z => by have := r2 z; omega, fun _ => ?_, fun i hi => ?_, fun i hi => ?_⟩, fun z => absurd z tcl⟩
      · by_cases z : cn (op (O - 1)) = 0
        · rw [← z, e2]; exact d1 z
        · rw [e3 0 (by omega)]; exact b3 (by omega)
      · rw [e1] at hi
        rw [e3 i (by omega)]
        by_cases z : i + 1 = cn (op (O - 1))
        · have hi2 : i = cn (op (O - 1)) - 1 := by omega
          obtain ⟨y1, y2⟩ := d2 (by omega)
          rw [← hi2] at y1 y2
          have hlt := (b5 i (by omega)).2
          rw [z, e2, (he _ hlt).1, (he _ hlt).2]
          exact ⟨y1.symm, y2⟩
        · have hlt := (b5 i (by omega)).2
          rw [e3 (i + 1) (by omega), (he _ hlt).1, (he _ hlt).2]
          exact b4 i (by omega)
      · rw [e1] at hi
        by_cases z : i = cn (op (O - 1))
        · rw [z, e2]; omega
        · rw [e3 i z]; have := b5 i (by omega); omega
    · obtain ⟨e1, e2⟩ := eN p hp q
      rw [e1]
      refine ⟨a1, a2, fun z => ?_, fun z => ?_⟩
      · obtain ⟨b1, b2, b3, b4, b5⟩ := a3 z
        refine ⟨b1, b2, fun y => by rw [e2]; exact b3 y, fun i hi => ?_, fun i hi => by rw [e2]; have := b5 i hi; omega⟩
        have hlt := (b5 i (by omega)).2
        rw [e2, e2, (he _ hlt).1, (he _ hlt).2]
        exact b4 i hi
      · obtain ⟨b1, b2, b3⟩ := a4 z
        refine ⟨b1, by omega, fun y => ?_⟩
        obtain ⟨d1, d2, d3, d4, d5⟩ := b3 y
        have hlt := ((a3 y).2.2.2.2 (cn p - 1) (by omega)).2
        rw [e2, (he _ hlt).1, (he _ hlt).2]
        exact ⟨d1, d2, d3, d4, d5⟩
  have notM : ∀ j, j < O → op j ≠ M := fun j hj => by have := (c2 j hj).1; omega
  -- the chain of open ones below the top
  have chain : ∀ j, j + 1 < O → op j < op (j + 1) ∧ 0 < cn' (op j) ∧ ch' (op j) (cn' (op j) - 1) = op (j + 1) := by
    intro j hj
    obtain ⟨x1, x2, x3, x4⟩ := c2 j (by omega)
    obtain ⟨y1, y2, y3⟩ := x4 hj
    have hne : ¬ (0 < O ∧ op j = op (O - 1)) := fun z => by
      have := rt.mono (op := op) (h := ⟨c1, c2, c3, c4⟩) (O - 1) j (by omega) (by omega)
      omega
    obtain ⟨e1, e2⟩ := eN (op j) x1 hne
    rw [e1, e2]
    exact ⟨y1, y2, y3⟩
  refine ⟨fun hk => ⟨fun p hp => ?_, ?_, ?_, ?_, ?_⟩, fun hk => ⟨fun p hp => ?_, ?_, ?_, ?_, ?_⟩⟩
  · by_cases z : p = M
    · subst z
      unfold rt1
      rw [up1_s, up1_s, up1_s, up1_s, eM]
      exact ⟨⟨hk1, hk7, ha⟩, fun _ => ⟨rfl, rfl, rfl⟩, fun z => by omega, fun _ => ⟨by omega, by omega, fun z => by omega⟩⟩
    · exact old _ _ (fun p hp => ⟨up1_n _ (by omega), up1_n _ (by omega)⟩) p (by omega)
  · intro p hp hc
    by_cases z : p = M
    · subst z; rw [up1_s] at hc; exact absurd rfl hc
    · rw [up1_n _ z] at hc; exact c1 p (by omega) hc
  · intro j hj
    obtain ⟨x1, x2, x3, x4⟩ := c2 j hj
    rw [up1_n _ (notM j hj), up1_n _ (notM j hj)]
    exact ⟨by omega, x2, x3, fun y => chain j y⟩
  · intro q
    obtain ⟨e1, e2, e3⟩ := eT q
    rw [e1]
    refine ⟨fun z => by omega, fun _ => ?_⟩
    rw [show cn (op (O - 1)) + 1 - 1 = cn (op (O - 1)) by omega, e2, up1_s, up1_s]
    exact ⟨rfl, rfl⟩
  · intro z _
    rw [hO z, up1_s]
  · by_cases z : p = M
    · subst z
      unfold rt1
      rw [up1_s, up1_s, up1_s, eM]
      exact ⟨⟨hk1, hk7, ha⟩, fun z => by omega, fun _ => ⟨by omega, fun _ => by omega, fun z => by omega, fun i hi => by omega, fun i hi => by omega⟩, fun z => absurd z (by decide)⟩
    · exact old _ _ (fun p hp => ⟨rfl, up1_n _ (by omega)⟩) p (by omega)
  · intro p hp hc
    by_cases z : p = M
    · subst z; exact ⟨O, by omega, up1_s _ _ _⟩
    · rw [up1_n _ z] at hc
      obtain ⟨j, hj, ej⟩ := c1 p (by omega) hc
      exact ⟨j, by omega, by rw [up1_n _ (by omega)]; exact ej⟩
  · intro j hj
    by_cases z : j = O
    · subst z
      rw [up1_s, up1_s, up1_s]
      exact ⟨by omega, hk, by decide, fun y => by omega⟩
    · obtain ⟨x1, x2, x3, x4⟩ := c2 j (by omega)
      rw [up1_n _ z, up1_n _ (notM j (by omega)), up1_n _ (notM j (by omega))]
      refine ⟨by omega, x2, x3, fun y => ?_⟩
      by_cases w : j + 1 = O
      · have hjO : j = O - 1 := by omega
        rw [w, up1_s]
        obtain ⟨e1, e2, e3⟩ := eT (by omega)
        rw [← hjO] at e1 e2
        rw [e1, show cn (op j) + 1 - 1 = cn (op j) by omega, e2]
        exact ⟨x1, by omega, rfl⟩
      · rw [up1_n _ w]
        exact chain j (by omega)
  · intro _
    rw [show O + 1 - 1 = O by omega, up1_s, eM]
    exact ⟨fun _ => rfl, fun z => by omega⟩
  · intro z; omega
/-- the innermost one is ended -/
theorem rt.close (h : rt M O kd ar cn en cl op ch) (hO : 0 < O) (h0 : op 0 = 0) (hn : 2 ≤ cn (op (O - 1)) ∧ (kd (op (O - 1)) < 7 → cn (op (O - 1)) = 2) ∧ (kd (op (O - 1)) = 7 → 1 ≤ ar (op (O - 1)) ∧ ar (op (O - 1)) ≤ cn (op (O - 1)))) : rt M (O - 1) kd ar cn (up1 en (op (O - 1)) M) (up1 cl (op (O - 1)) 1) op ch := by
  obtain ⟨h1, c1, c2, c3, c4⟩ := h
  obtain ⟨t1, t5, tcl, -⟩ := c2 (O - 1) (by omega)
  obtain ⟨-, d2⟩ := c3 hO
  obtain ⟨d3, d4⟩ := d2 (by omega)
  have k1 : ∀ x, cl x = 1 → x ≠ op (O - 1) := fun x hx z => tcl (z ▸ hx)
  have up : ∀ x, cl x = 1 → up1 cl (op (O - 1)) 1 x = 1 := fun x hx => by rw [up1_n _ (k1 x hx)]; exact hx
  refine ⟨fun p hp => ?_, fun p hp hc => ?_, fun j hj => ?_, fun q => ?_, fun q hM => ?_⟩
  · obtain ⟨a1, a2, a3, a4⟩ := h1 p hp
    refine ⟨a1, fun z => ?_, fun z => ?_, fun z => ?_⟩
    · obtain ⟨b1, b2, b3⟩ := a2 z
      have hne := k1 p b3
      rw [up1_n _ hne, up1_n _ hne]
      exact ⟨b1, b2, b3⟩
    · obtain ⟨b1, b2, b3, b4, b5⟩ := a3 z
      refine ⟨b1, b2, b3, fun i hi => ?_, b5⟩
      obtain ⟨e1, e2⟩ := b4 i hi
      rw [up1_n _ (k1 _ e2)]
      exact ⟨e1, up _ e2⟩
    · by_cases y : p = op (O - 1)
      · subst y
        rw [up1_s]
        refine ⟨t1, Nat.le_refl _, fun _ => ⟨hn.1, hn.2.1, hn.2.2, ?_, up _ d4⟩⟩
        rw [up1_n _ (k1 _ d4)]; exact d3.symm
      · rw [up1_n _ y] at z
        rw [up1_n _ y]
        obtain ⟨b1, b2, b3⟩ := a4 z
        refine ⟨b1, b2, fun w => ?_⟩
        obtain ⟨e1, e2, e3, e4, e5⟩ := b3 w
        exact ⟨e1, e2, e3, by rw [up1_n _ (k1 _ e5)]; exact e4, up _ e5⟩
  · by_cases y : p = op (O - 1)
    · rw [y, up1_s] at hc; exact absurd rfl hc
    · rw [up1_n _ y] at hc
      obtain ⟨j, hj, ej⟩ := c1 p hp hc
      exact ⟨j, by rcases Nat.lt_or_ge j (O - 1) with w | w; exact w; exact absurd (by rw [← ej, show j = O - 1 by omega]) y, ej⟩
  · obtain ⟨x1, x2, x3, x4⟩ := c2 j (by omega)
    have hne : op j ≠ op (O - 1) := by
      have := rt.mono (op := op) (h := ⟨c1, c2, c3, c4⟩) (O - 1) j (by omega) (by omega)
      omega
    rw [up1_n _ hne]
    exact ⟨x1, x2, x3, fun y => x4 (by omega)⟩
  · obtain ⟨x1, x2, x3, x4⟩ := c2 (O - 1 - 1) (by omega)
    obtain ⟨y1, y2, y3⟩ := x4 (by omega)
    rw [show O - 1 - 1 + 1 = O - 1 by omega] at y3
    refine ⟨fun z => by omega, fun _ => ?_⟩
    rw [y3, up1_s, up1_s]
    exact ⟨rfl, rfl⟩
  · have : O = 1 := by omega
    subst this
    have e : op (1 - 1) = 0 := h0
    rw [e, up1_s]
end RT

