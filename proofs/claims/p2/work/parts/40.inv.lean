/-! The class's cells as they stand between calls: enough for every call to come to its end. -/
def ab_nQ : Nat → Nat := ab_nl [1, 1, 20, 61, 124, 1, 1, 1, 124, 61, 20, 1, 1, 1, 1, 1, 1, 1, 21, 1, 1]
def ci_R (f : Nat → Nat → Nat → Option (Nat × Nat)) : Prop :=
  (f 0 0 0 = some (1, 0) ∧ f 0 0 1 = some (3, 60) ∧ f 0 0 2 = some (4, 122) ∧ f 0 0 3 = some (5, 0) ∧ f 0 0 4 = some (6, 0) ∧ f 0 0 5 = some (4, 123) ∧ f 0 0 6 = some (7, 0)) ∧
  (f 1 0 0 = some (11, 0) ∧ f 1 0 1 = some (12, 0) ∧ f 1 0 2 = some (2, 0) ∧ f 5 0 0 = some (13, 0) ∧ f 5 0 1 = some (14, 0) ∧ f 7 0 0 = some (15, 0) ∧ f 7 0 1 = some (16, 0)) ∧
  (∀ i, i < 19 → f 12 0 i = some (2, i + 1)) ∧ (∀ p, p < 20 → f 2 p 0 = some (10, p) ∧ f 2 p 1 = some (3, 3 * p) ∧ f 2 p 2 = some (3, 3 * p + 1) ∧ f 2 p 3 = some (3, 3 * p + 2)) ∧
  (∀ g, g < 61 → f 3 g 0 = some (9, g) ∧ f 3 g 2 = some (4, 2 * g + 1) ∧ f 3 g 3 = some (4, 2 * g)) ∧ (∀ r, r < 124 → f 4 r 0 = some (8, r))
def ci_dyn (c k : Nat) : Prop := c = 9 ∨ c = 10 ∨ c = 14 ∨ (c = 0 ∧ k = 7)
theorem ci_R.up {f : Nat → Nat → Nat → Option (Nat × Nat)} (h : ci_R f) {c i k : Nat} {v : Option (Nat × Nat)} (hc : ci_dyn c k) : ci_R (ab_up f c i k v) := by
  have e : ∀ c' i' k', ¬ ci_dyn c' k' → ab_up f c i k v c' i' k' = f c' i' k' := fun c' i' k' hn => ab_up_n _ _ (fun z => hn (by rw [z.1, z.2.2]; exact hc))
  have d : ∀ {c' k'}, (c' = 0 ∧ k' ≠ 7) ∨ (c' ≠ 0 ∧ c' ≠ 9 ∧ c' ≠ 10 ∧ c' ≠ 14) → ¬ ci_dyn c' k' := fun hd hz => by
    unfold ci_dyn at hz
    omega
  obtain ⟨⟨a1, a2, a3, a4, a5, a6, a7⟩, ⟨b1, b2, b3, b4, b5, b6, b7⟩, h3, h4, h5, h6⟩ := h
  refine ⟨⟨?_, ?_, ?_, ?_, ?_, ?_, ?_⟩, ⟨?_, ?_, ?_, ?_, ?_, ?_, ?_⟩, fun i hi => ?_, fun p hp => ⟨?_, ?_, ?_, ?_⟩, fun g hg => ⟨?_, ?_, ?_⟩, fun r hr => ?_⟩
  all_goals rw [e _ _ _ (d (by omega))]
  all_goals first | assumption | exact h3 _ hi | exact (h4 _ hp).1 | exact (h4 _ hp).2.1 | exact (h4 _ hp).2.2.1 | exact (h4 _ hp).2.2.2 | exact (h5 _ hg).1 | exact (h5 _ hg).2.1 | exact (h5 _ hg).2.2 | exact h6 _ hr
def ci_row (u : ab_S) : Prop := ∀ r, r < 124 → ∃ n, n ≤ ab_ln 8 r ∧ u.1 4 r 1 = nI n
def ci_form (u : ab_S) : Prop := ∀ f, f < 61 → ∃ n, n ≤ 4 ∧ u.1 3 f 7 = nI n ∧ (∀ j, j < n → ∃ g, g < 61 ∧ u.2.1 9 f j = some (3, g)) ∧ (u.1 3 f 4 = 5 ∨ u.1 3 f 4 = 7 ∨ u.1 3 f 4 = 8 → 2 ≤ n) ∧ (u.1 3 f 4 = 6 → 1 ≤ n)
def ci_part (u : ab_S) : Prop := ∀ p, p < 20 → ∃ n, n ≤ 4 ∧ u.1 2 p 6 = nI n ∧ ∀ j, j < n → ∃ q, q < 20 ∧ u.2.1 10 p j = some (2, q)
def ci_scr (u : ab_S) : Prop := (∃ n, n ≤ 128 ∧ u.1 5 0 2 = nI n) ∧ ∃ n, n ≤ 38 ∧ u.1 5 0 3 = nI n ∧ ∀ j, j < n → ∃ g, g < 61 ∧ u.2.1 14 0 j = some (3, g)
def ci_rd (u : ab_S) : Prop := (∃ n, n ≤ 100 ∧ u.1 1 0 3 = nI n) ∧ (∃ n, n ≤ 100 ∧ u.1 1 0 4 = nI n) ∧ ∃ n, n ≤ 19 ∧ u.1 1 0 7 = nI n
def ci_pol (u : ab_S) : Prop := u.2.1 0 0 7 = none ∨ ∃ q, q < 20 ∧ u.2.1 0 0 7 = some (2, q)
def ci_ma (u : ab_S) : Prop := (∃ n, n ≤ 168 ∧ u.1 7 0 2 = nI n) ∧ (∃ n, n ≤ 128 ∧ u.1 7 0 3 = nI n) ∧ ∃ n, n ≤ 128 ∧ u.1 7 0 4 = nI n
def CI (u : ab_S) : Prop := ci_R u.2.1 ∧ ci_row u ∧ ci_form u ∧ ci_part u ∧ ci_scr u ∧ ci_rd u ∧ ci_pol u ∧ ci_ma u
/-- what no call of the class touches: the reference's cells; and the length of the text -/
def cS (u0 u : ab_S) : Prop := u.2.2 = u0.2.2 ∧ (∀ c i k, 17 ≤ c → u.1 c i k = u0.1 c i k ∧ u.2.1 c i k = u0.2.1 c i k) ∧ u.1 1 0 3 = u0.1 1 0 3
def cP (u0 u : ab_S) : Prop := CI u ∧ cS u0 u
theorem cP.rf {u : ab_S} (h : CI u) : cP u u := ⟨h, rfl, fun _ _ _ _ => ⟨rfl, rfl⟩, rfl⟩
theorem cP.trans {a b c : ab_S} (h : cP a b) (g : cP b c) : cP a c := ⟨g.1, g.2.1.trans h.2.1, fun x i k hx => ⟨(g.2.2.1 x i k hx).1.trans (h.2.2.1 x i k hx).1, (g.2.2.1 x i k hx).2.trans (h.2.2.1 x i k hx).2⟩, g.2.2.2.trans h.2.2.2⟩
def ci_free (c k : Nat) : Bool := decide (c < 17) && !((c == 4 && k == 1) || (c == 3 && (k == 7 || k == 4)) || (c == 2 && k == 6) || (c == 5 && (k == 2 || k == 3)) || (c == 1 && (k == 3 || k == 4 || k == 7)) || (c == 7 && (k == 2 || k == 3 || k == 4)))
theorem ci_free_out {c k : Nat} (h : 17 ≤ c) : ci_free c k = false := by unfold ci_free; rw [decide_eq_false (by omega)]; rfl
/-- a write to a place of no weight -/
theorem cP.ui {u0 u : ab_S} (h : cP u0 u) {c i k : Nat} {v : Int32} (hf : ci_free c k = true) : cP u0 (ab_ui u c i k v) := by
  have e : ∀ c' i' k', ci_free c' k' = false → ab_up u.1 c i k v c' i' k' = u.1 c' i' k' := fun c' i' k' hn => ab_up_n _ _ (fun z => by rw [z.1, z.2.2, hf] at hn; cases hn)
  obtain ⟨⟨r0, r1, r2, r3, r4, r5, r6, r7⟩, s1, s2, s3⟩ := h
  refine ⟨⟨r0, fun r hr => ?_, fun f hf' => ?_, fun p hp => ?_, ⟨?_, ?_⟩, ⟨?_, ?_, ?_⟩, r6, ⟨?_, ?_, ?_⟩⟩, s1, fun c' i' k' hc => ⟨(e _ _ _ (ci_free_out hc)).trans (s2 _ _ _ hc).1, (s2 _ _ _ hc).2⟩, (e 1 0 3 rfl).trans s3⟩
  · show ∃ n, n ≤ ab_ln 8 r ∧ ab_up u.1 c i k v 4 r 1 = nI n
    rw [e 4 r 1 rfl]; exact r1 r hr
  · show ∃ n, n ≤ 4 ∧ ab_up u.1 c i k v 3 f 7 = nI n ∧ (∀ j, j < n → ∃ g, g < 61 ∧ u.2.1 9 f j = some (3, g)) ∧ (ab_up u.1 c i k v 3 f 4 = 5 ∨ ab_up u.1 c i k v 3 f 4 = 7 ∨ ab_up u.1 c i k v 3 f 4 = 8 → 2 ≤ n) ∧ (ab_up u.1 c i k v 3 f 4 = 6 → 1 ≤ n)
    rw [e 3 f 7 rfl, e 3 f 4 rfl]; exact r2 f hf'
  · show ∃ n, n ≤ 4 ∧ ab_up u.1 c i k v 2 p 6 = nI n ∧ ∀ j, j < n → ∃ q, q < 20 ∧ u.2.1 10 p j = some (2, q)
    rw [e 2 p 6 rfl]; exact r3 p hp
  · show ∃ n, n ≤ 128 ∧ ab_up u.1 c i k v 5 0 2 = nI n
    rw [e 5 0 2 rfl]; exact r4.1
  · show ∃ n, n ≤ 38 ∧ ab_up u.1 c i k v 5 0 3 = nI n ∧ ∀ j, j < n → ∃ g, g < 61 ∧ u.2.1 14 0 j = some (3, g)
    rw [e 5 0 3 rfl]; exact r4.2
  · show ∃ n, n ≤ 100 ∧ ab_up u.1 c i k v 1 0 3 = nI n
    rw [e 1 0 3 rfl]; exact r5.1
  · show ∃ n, n ≤ 100 ∧ ab_up u.1 c i k v 1 0 4 = nI n
    rw [e 1 0 4 rfl]; exact r5.2.1
  · show ∃ n, n ≤ 19 ∧ ab_up u.1 c i k v 1 0 7 = nI n
    rw [e 1 0 7 rfl]; exact r5.2.2
  · show ∃ n, n ≤ 168 ∧ ab_up u.1 c i k v 7 0 2 = nI n
    rw [e 7 0 2 rfl]; exact r7.1
  · show ∃ n, n ≤ 128 ∧ ab_up u.1 c i k v 7 0 3 = nI n
    rw [e 7 0 3 rfl]; exact r7.2.1
  · show ∃ n, n ≤ 128 ∧ ab_up u.1 c i k v 7 0 4 = nI n
    rw [e 7 0 4 rfl]; exact r7.2.2
/-- a write to a place with a bound: what it must keep -/
theorem cP.uw {u0 u : ab_S} (h : cP u0 u) {c i k : Nat} {v : Int32} (hc : c < 17) (h1 : ¬ (c = 1 ∧ k = 3)) (g1 : c = 4 → ci_row (ab_ui u c i k v)) (g2 : c = 3 → ci_form (ab_ui u c i k v)) (g3 : c = 2 → ci_part (ab_ui u c i k v)) (g4 : c = 5 → ci_scr (ab_ui u c i k v)) (g5 : c = 1 → ci_rd (ab_ui u c i k v)) (g7 : c = 7 → ci_ma (ab_ui u c i k v)) : cP u0 (ab_ui u c i k v) := by
  have e : ∀ c' i' k', c' ≠ c → ab_up u.1 c i k v c' i' k' = u.1 c' i' k' := fun c' i' k' hn => ab_up_n _ _ (fun z => hn z.1)
  obtain ⟨⟨r0, r1, r2, r3, r4, r5, r6, r7⟩, s1, s2, s3⟩ := h
  refine ⟨⟨r0, ?_, ?_, ?_, ?_, ?_, r6, ?_⟩, s1, fun c' i' k' hc' => ⟨(e _ _ _ (by omega)).trans (s2 _ _ _ hc').1, (s2 _ _ _ hc').2⟩, ?_⟩
  · by_cases q : c = 4
    · exact g1 q
    · intro r hr
      show ∃ n, n ≤ ab_ln 8 r ∧ ab_up u.1 c i k v 4 r 1 = nI n
      rw [e 4 r 1 (Ne.symm q)]; exact r1 r hr
  · by_cases q : c = 3
    · exact g2 q
    · intro f hf'
      show ∃ n, n ≤ 4 ∧ ab_up u.1 c i k v 3 f 7 = nI n ∧ (∀ j, j < n → ∃ g, g < 61 ∧ u.2.1 9 f j = some (3, g)) ∧ (ab_up u.1 c i k v 3 f 4 = 5 ∨ ab_up u.1 c i k v 3 f 4 = 7 ∨ ab_up u.1 c i k v 3 f 4 = 8 → 2 ≤ n) ∧ (ab_up u.1 c i k v 3 f 4 = 6 → 1 ≤ n)
      rw [e 3 f 7 (Ne.symm q), e 3 f 4 (Ne.symm q)]; exact r2 f hf'
  · by_cases q : c = 2
    · exact g3 q
    · intro p hp
      show ∃ n, n ≤ 4 ∧ ab_up u.1 c i k v 2 p 6 = nI n ∧ ∀ j, j < n → ∃ q, q < 20 ∧ u.2.1 10 p j = some (2, q)
      rw [e 2 p 6 (Ne.symm q)]; exact r3 p hp
  · by_cases q : c = 5
    · exact g4 q
    · refine ⟨?_, ?_⟩
      · show ∃ n, n ≤ 128 ∧ ab_up u.1 c i k v 5 0 2 = nI n
        rw [e 5 0 2 (Ne.symm q)]; exact r4.1
      · show ∃ n, n ≤ 38 ∧ ab_up u.1 c i k v 5 0 3 = nI n ∧ ∀ j, j < n → ∃ g, g < 61 ∧ u.2.1 14 0 j = some (3, g)
        rw [e 5 0 3 (Ne.symm q)]; exact r4.2
  · by_cases q : c = 1
    · exact g5 q
    · refine ⟨?_, ?_, ?_⟩
      · show ∃ n, n ≤ 100 ∧ ab_up u.1 c i k v 1 0 3 = nI n
        rw [e 1 0 3 (Ne.symm q)]; exact r5.1
      · show ∃ n, n ≤ 100 ∧ ab_up u.1 c i k v 1 0 4 = nI n
        rw [e 1 0 4 (Ne.symm q)]; exact r5.2.1
      · show ∃ n, n ≤ 19 ∧ ab_up u.1 c i k v 1 0 7 = nI n
        rw [e 1 0 7 (Ne.symm q)]; exact r5.2.2
  · by_cases q : c = 7
    · exact g7 q
    · refine ⟨?_, ?_, ?_⟩
      · show ∃ n, n ≤ 168 ∧ ab_up u.1 c i k v 7 0 2 = nI n
        rw [e 7 0 2 (Ne.symm q)]; exact r7.1
      · show ∃ n, n ≤ 128 ∧ ab_up u.1 c i k v 7 0 3 = nI n
        rw [e 7 0 3 (Ne.symm q)]; exact r7.2.1
      · show ∃ n, n ≤ 128 ∧ ab_up u.1 c i k v 7 0 4 = nI n
        rw [e 7 0 4 (Ne.symm q)]; exact r7.2.2
  · show ab_up u.1 c i k v 1 0 3 = u0.1 1 0 3
    rw [ab_up_n _ _ (fun z => h1 ⟨z.1.symm, z.2.2.symm⟩)]; exact s3
theorem cP.row {u0 u : ab_S} (h : cP u0 u) {r n : Nat} (hn : n ≤ ab_ln 8 r) : cP u0 (ab_ui u 4 r 1 (nI n)) :=
  h.uw (by decide) (by decide) (fun _ r' hr' => by
    by_cases q : r' = r
    · subst q; exact ⟨n, hn, ab_up_s _ _ _ _ _⟩
    · obtain ⟨m, h1, h2⟩ := h.1.2.1 r' hr'
      exact ⟨m, h1, (ab_up_n _ _ (fun z => q z.2.1)).trans h2⟩) (fun q => by omega) (fun q => by omega) (fun q => by omega) (fun q => by omega) (fun q => by omega)
theorem cP.row0 {u0 u : ab_S} (h : cP u0 u) {r : Nat} : cP u0 (ab_ui u 4 r 1 0) := h.row (n := 0) (Nat.zero_le _)
theorem CI.rw {u : ab_S} (h : CI u) {r : Nat} (hr : r < 124) : u.2.1 4 r 0 = some (8, r) := h.1.2.2.2.2.2 r hr
theorem ab_ln8b (r : Nat) : ab_ln 8 r ≤ 40 := by
  unfold ab_ln
  rw [if_pos rfl]
  split <;> decide
theorem ab_C_mono {z : Bool} {l : Launch} {D : va_G} {ca : Nat → ClassId} {y : MethodName} {cc : ByteArray} {nL : Nat} {ret : Option FieldType} {d : Nat} {N : Nat → Nat} {u : ab_S} {av : List ab_V} {P P' : ab_S → Option ab_V → Prop} (h : ab_C z l D ca y cc nL ret d N u av P) (k : ∀ u' v, P u' v → P' u' v) : ab_C z l D ca y cc nL ret d N u av P' := fun ad sz p e ha hc hk s m args below hf happ hP ht => by
  obtain ⟨k', o, h1, h2, h3, hq, hr⟩ := h ad sz p e ha hc hk s m args below hf happ hP ht
  obtain ⟨⟨u', r, a1, a2, a3⟩, a4⟩ := hq
  exact ⟨k', o, h1, h2, h3, ⟨⟨u', r, a1, k u' r a2, a3⟩, a4⟩, hr⟩

