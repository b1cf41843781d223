/-! The class's cells as they stand between calls: enough for every call to come to its end. -/
def ab_nQ : Nat → Nat := ab_nl [1, 1, 20, 61, 124, 1, 1, 1, 124, 61, 20, 1, 1, 1, 1, 1, 1, 1, 21, 1, 1]
theorem ui_s (u : ab_S) {c i k : Nat} {v : Int32} : (ab_ui u c i k v).1 c i k = v := ab_up_s _ _ _ _ _
theorem ui_n (u : ab_S) {c i k c' i' k' : Nat} {v : Int32} (h : ¬ (c' = c ∧ i' = i ∧ k' = k)) : (ab_ui u c i k v).1 c' i' k' = u.1 c' i' k' := ab_up_n _ _ h
def ci_R (f : Nat → Nat → Nat → Option (Nat × Nat)) : Prop :=
  (f 0 0 0 = some (1, 0) ∧ f 0 0 1 = some (3, 60) ∧ f 0 0 2 = some (4, 122) ∧ f 0 0 3 = some (5, 0) ∧ f 0 0 4 = some (6, 0) ∧ f 0 0 5 = some (4, 123) ∧ f 0 0 6 = some (7, 0)) ∧
  (f 1 0 0 = some (11, 0) ∧ f 1 0 1 = some (12, 0) ∧ f 1 0 2 = some (2, 0) ∧ f 5 0 0 = some (13, 0) ∧ f 5 0 1 = some (14, 0) ∧ f 7 0 0 = some (15, 0) ∧ f 7 0 1 = some (16, 0)) ∧
  (∀ i, i < 19 → f 12 0 i = some (2, i + 1)) ∧ (∀ p, p < 20 → f 2 p 0 = some (10, p) ∧ f 2 p 1 = some (3, 3 * p) ∧ f 2 p 2 = some (3, 3 * p + 1) ∧ f 2 p 3 = some (3, 3 * p + 2)) ∧
  (∀ g, g < 61 → f 3 g 0 = some (9, g) ∧ f 3 g 2 = some (4, 2 * g + 1) ∧ f 3 g 3 = some (4, 2 * g)) ∧ (∀ r, r < 124 → f 4 r 0 = some (8, r))
def ci_dyn (c k : Nat) : Prop := c = 9 ∨ c = 10 ∨ c = 14 ∨ (c = 0 ∧ k = 7)
theorem ci_R.up {f : Nat → Nat → Nat → Option (Nat × Nat)} (h : ci_R f) {c i k : Nat} {v : Option (Nat × Nat)} (hc : ci_dyn c k) : ci_R (ab_up f c i k v) := by
  have e : ∀ c' i' k', ¬ ci_dyn c' k' → ab_up f c i k v c' i' k' = f c' i' k' := fun c' i' k' hn => ab_up_n _ _ (fun z => hn (by rw [z.1, z.2.2]; exact hc))
  have d : ∀ {c' k'}, (c' = 0 ∧ k' ≠ 7) ∨ (c' ≠ 0 ∧ c' ≠ 9 ∧ c' ≠ 10 ∧ c' ≠ 14) → ¬ ci_dyn c' k' := fun hd hz => by
    unfold ci_dyn at hz
    omega
  obtain ⟨⟨a1, a2, a3, a4, a5, a6, a7⟩, ⟨b1, b2, b3, b4, b5, b6, b7⟩, h3, h4, h5, h6⟩ := h
  refine ⟨⟨?_, ?_, ?_, ?_, ?_, ?_, ?_⟩, ⟨?_, ?_, ?_, ?_, ?_, ?_, ?_⟩, fun i hi => ?_, fun p hp => ⟨?_, ?_, ?_, ?_⟩, fun g hg => ⟨?_, ?_, ?_⟩, fun r hr => ?_⟩
  all_goals rw [e _ _ _ (d (by omega))]
  all_goals first | assumption | exact h3 _ hi | exact (h4 _ hp).1 | exact (h4 _ hp).2.1 | exact (h4 _ hp).2.2.1 | exact (h4 _ hp).2.2.2 | exact (h5 _ hg).1 | exact (h5 _ hg).2.1 | exact (h5 _ hg).2.2 | exact h6 _ hr
def ci_row (u : ab_S) : Prop := ∀ r, r < 124 → ∃ n, n ≤ ab_ln 8 r ∧ u.1 4 r 1 = nI n
def ci_cl (r : Int32) (n : Nat) : Prop := (r = 5 ∨ r = 7 ∨ r = 8 → 2 ≤ n) ∧ (r = 6 → 1 ≤ n)
def ci_form (x : Nat) (u : ab_S) : Prop := ∀ f, f < 61 → ∃ n, n ≤ 4 ∧ u.1 3 f 7 = nI n ∧ (∀ j, j < n → ∃ g, g < 61 ∧ u.2.1 9 f j = some (3, g)) ∧ (f ≠ x → ci_cl (u.1 3 f 4) n)
def ci_part (u : ab_S) : Prop := ∀ p, p < 20 → (∃ n, n ≤ 4 ∧ u.1 2 p 6 = nI n ∧ ∀ j, j < n → ∃ q, q < 20 ∧ u.2.1 10 p j = some (2, q)) ∧ (u.1 2 p 7 = 0 ∨ u.1 2 p 7 = 1)
def ci_scr (u : ab_S) : Prop := (∃ n, n ≤ 128 ∧ u.1 5 0 2 = nI n) ∧ ∃ n, n ≤ 38 ∧ u.1 5 0 3 = nI n ∧ ∀ j, j < n → ∃ g, g < 61 ∧ u.2.1 14 0 j = some (3, g)
def ci_rd (u : ab_S) : Prop := (∃ n, n ≤ 100 ∧ u.1 1 0 3 = nI n) ∧ (∃ n, n ≤ 100 ∧ u.1 1 0 4 = nI n) ∧ ∃ n, n ≤ 19 ∧ u.1 1 0 7 = nI n
def ci_pol (u : ab_S) : Prop := u.2.1 0 0 7 = none ∨ ∃ q, q < 20 ∧ u.2.1 0 0 7 = some (2, q)
def ci_ma (u : ab_S) : Prop := (∃ n, n ≤ 168 ∧ u.1 7 0 2 = nI n) ∧ (∃ n, n ≤ 128 ∧ u.1 7 0 3 = nI n) ∧ ∃ n, n ≤ 128 ∧ u.1 7 0 4 = nI n
def CIx (x : Nat) (u : ab_S) : Prop := ci_R u.2.1 ∧ ci_row u ∧ ci_form x u ∧ ci_part u ∧ ci_scr u ∧ ci_rd u ∧ ci_pol u ∧ ci_ma u
/-- only cells of the kinds in K have changed; and not the length of the text -/
def cS (K : List Nat) (u0 u : ab_S) : Prop := u.2.2 = u0.2.2 ∧ (∀ c i k, ¬ c ∈ K → u.1 c i k = u0.1 c i k ∧ u.2.1 c i k = u0.2.1 c i k) ∧ u.1 1 0 3 = u0.1 1 0 3
/-- all but the rule of the form x, which is in the making -/
def cQ (x : Nat) (K : List Nat) (u0 u : ab_S) : Prop := CIx x u ∧ cS K u0 u
abbrev CI (u : ab_S) : Prop := CIx 99 u
abbrev cP (K : List Nat) (u0 u : ab_S) : Prop := cQ 99 K u0 u
theorem cQ.rf {x : Nat} {K : List Nat} {u : ab_S} (h : CIx x u) : cQ x K u u := ⟨h, rfl, fun _ _ _ _ => ⟨rfl, rfl⟩, rfl⟩
theorem cQ.trans {x y : Nat} {K L : List Nat} {a b c : ab_S} (h : cQ x K a b) (g : cQ y L b c) (hL : ∀ z ∈ L, z ∈ K) : cQ y K a c := ⟨g.1, g.2.1.trans h.2.1, fun z i k hx => ⟨(g.2.2.1 z i k (fun q => hx (hL z q))).1.trans (h.2.2.1 z i k hx).1, (g.2.2.1 z i k (fun q => hx (hL z q))).2.trans (h.2.2.1 z i k hx).2⟩, g.2.2.2.trans h.2.2.2⟩
theorem cQ.ii {x : Nat} {K : List Nat} {u0 u : ab_S} (h : cQ x K u0 u) {c i k : Nat} {v : Int32} (hc : ¬ c ∈ K) (e : u0.1 c i k = v) : u.1 c i k = v := (h.2.2.1 c i k hc).1.trans e
theorem cQ.rr {x : Nat} {K : List Nat} {u0 u : ab_S} (h : cQ x K u0 u) {c i k : Nat} {v : Option (Nat × Nat)} (hc : ¬ c ∈ K) (e : u0.2.1 c i k = v) : u.2.1 c i k = v := (h.2.2.1 c i k hc).2.trans e
theorem cQ.wk {x : Nat} {K L : List Nat} {u0 u : ab_S} (h : cQ x K u0 u) (hL : ∀ z ∈ K, z ∈ L) : cQ x L u0 u := ⟨h.1, h.2.1, fun c i k hc => h.2.2.1 c i k (fun q => hc (hL c q)), h.2.2.2⟩
def ci_free (c k : Nat) : Bool := decide (c < 17) && !((c == 4 && k == 1) || (c == 3 && (k == 7 || k == 4)) || (c == 2 && (k == 6 || k == 7)) || (c == 5 && (k == 2 || k == 3)) || (c == 1 && (k == 3 || k == 4 || k == 7)) || (c == 7 && (k == 2 || k == 3 || k == 4)))
/-- a write to a place of no weight -/
theorem cQ.ui {x : Nat} {K : List Nat} {u0 u : ab_S} (h : cQ x K u0 u) {c i k : Nat} {v : Int32} (hf : ci_free c k = true) (hK : c ∈ K) : cQ x K u0 (ab_ui u c i k v) := by
  have e : ∀ c' i' k', ci_free c' k' = false → ab_up u.1 c i k v c' i' k' = u.1 c' i' k' := fun c' i' k' hn => ab_up_n _ _ (fun z => by rw [z.1, z.2.2, hf] at hn; cases hn)
  obtain ⟨⟨r0, r1, r2, r3, r4, r5, r6, r7⟩, s1, s2, s3⟩ := h
  refine ⟨⟨r0, fun r hr => ?_, fun f hf' => ?_, fun p hp => ?_, ⟨?_, ?_⟩, ⟨?_, ?_, ?_⟩, r6, ⟨?_, ?_, ?_⟩⟩, s1, fun c' i' k' hc => ⟨(ab_up_n _ _ (fun z => hc (by rw [z.1]; exact hK))).trans (s2 _ _ _ hc).1, (s2 _ _ _ hc).2⟩, (e 1 0 3 rfl).trans s3⟩
  · show ∃ n, n ≤ ab_ln 8 r ∧ ab_up u.1 c i k v 4 r 1 = nI n
    rw [e 4 r 1 rfl]; exact r1 r hr
  · show ∃ n, n ≤ 4 ∧ ab_up u.1 c i k v 3 f 7 = nI n ∧ (∀ j, j < n → ∃ g, g < 61 ∧ u.2.1 9 f j = some (3, g)) ∧ (f ≠ x → ci_cl (ab_up u.1 c i k v 3 f 4) n)
    rw [e 3 f 7 rfl, e 3 f 4 rfl]; exact r2 f hf'
  · show (∃ n, n ≤ 4 ∧ ab_up u.1 c i k v 2 p 6 = nI n ∧ ∀ j, j < n → ∃ q, q < 20 ∧ u.2.1 10 p j = some (2, q)) ∧ (ab_up u.1 c i k v 2 p 7 = 0 ∨ ab_up u.1 c i k v 2 p 7 = 1)
    rw [e 2 p 6 rfl, e 2 p 7 rfl]; exact r3 p hp
  · show ∃ n, n ≤ 128 ∧ ab_up u.1 c i k v 5 0 2 = nI n
    rw [e 5 0 2 rfl]; exact r4.1
  · show ∃ n, n ≤ 38 ∧ ab_up u.1 c i k v 5 0 3 = nI n ∧ ∀ j, j < n → ∃ g, g < 61 ∧ u.2.1 14 0 j = some (3, g)
    rw [e 5 0 3 rfl]; exact r4.2
  · show ∃ n, n ≤ 100 ∧ ab_up u.1 c i k v 1 0 3 = nI n
    rw [e 1 0 3 rfl]; exact r5.1
  · show ∃ n, n ≤ 100 ∧ ab_up u.1 c i k v 1 0 4 = nI n
    rw [e 1 0 4 rfl]; exact r5.2.1
  · show ∃ n, n ≤ 19 ∧ ab_up u.1 c i k v 1 0 7 = nI n
    rw [e 1 0 7 rfl]; exact r5.2.2
  · show ∃ n, n ≤ 168 ∧ ab_up u.1 c i k v 7 0 2 = nI n
    rw [e 7 0 2 rfl]; exact r7.1
  · show ∃ n, n ≤ 128 ∧ ab_up u.1 c i k v 7 0 3 = nI n
    rw [e 7 0 3 rfl]; exact r7.2.1
  · show ∃ n, n ≤ 128 ∧ ab_up u.1 c i k v 7 0 4 = nI n
    rw [e 7 0 4 rfl]; exact r7.2.2
/-- a write to a place with a bound: what it must keep -/
theorem cQ.uw {x : Nat} {K : List Nat} {u0 u : ab_S} (h : cQ x K u0 u) {c i k : Nat} {v : Int32} (hK : c ∈ K) (h1 : ¬ (c = 1 ∧ k = 3)) (g1 : c = 4 → ci_row (ab_ui u c i k v)) (g2 : c = 3 → ci_form x (ab_ui u c i k v)) (g3 : c = 2 → ci_part (ab_ui u c i k v)) (g4 : c = 5 → ci_scr (ab_ui u c i k v)) (g5 : c = 1 → ci_rd (ab_ui u c i k v)) (g7 : c = 7 → ci_ma (ab_ui u c i k v)) : cQ x K u0 (ab_ui u c i k v) := by
  have e : ∀ c' i' k', c' ≠ c → ab_up u.1 c i k v c' i' k' = u.1 c' i' k' := fun c' i' k' hn => ab_up_n _ _ (fun z => hn z.1)
  obtain ⟨⟨r0, r1, r2, r3, r4, r5, r6, r7⟩, s1, s2, s3⟩ := h
  refine ⟨⟨r0, ?_, ?_, ?_, ?_, ?_, r6, ?_⟩, s1, fun c' i' k' hc' => ⟨(ab_up_n _ _ (fun z => hc' (by rw [z.1]; exact hK))).trans (s2 _ _ _ hc').1, (s2 _ _ _ hc').2⟩, ?_⟩
  · by_cases q : c = 4
    · exact g1 q
    · intro r hr
      show ∃ n, n ≤ ab_ln 8 r ∧ ab_up u.1 c i k v 4 r 1 = nI n
      rw [e 4 r 1 (Ne.symm q)]; exact r1 r hr
  · by_cases q : c = 3
    · exact g2 q
    · intro f hf'
      show ∃ n, n ≤ 4 ∧ ab_up u.1 c i k v 3 f 7 = nI n ∧ (∀ j, j < n → ∃ g, g < 61 ∧ u.2.1 9 f j = some (3, g)) ∧ (f ≠ x → ci_cl (ab_up u.1 c i k v 3 f 4) n)
      rw [e 3 f 7 (Ne.symm q), e 3 f 4 (Ne.symm q)]; exact r2 f hf'
  · by_cases q : c = 2
    · exact g3 q
    · intro p hp
      show (∃ n, n ≤ 4 ∧ ab_up u.1 c i k v 2 p 6 = nI n ∧ ∀ j, j < n → ∃ q, q < 20 ∧ u.2.1 10 p j = some (2, q)) ∧ (ab_up u.1 c i k v 2 p 7 = 0 ∨ ab_up u.1 c i k v 2 p 7 = 1)
      rw [e 2 p 6 (Ne.symm q), e 2 p 7 (Ne.symm q)]; exact r3 p hp
  · by_cases q : c = 5
    · exact g4 q
    · refine ⟨?_, ?_⟩
      · show ∃ n, n ≤ 128 ∧ ab_up u.1 c i k v 5 0 2 = nI n
        rw [e 5 0 2 (Ne.symm q)]; exact r4.1
      · show ∃ n, n ≤ 38 ∧ ab_up u.1 c i k v 5 0 3 = nI n ∧ ∀ j, j < n → ∃ g, g < 61 ∧ u.2.1 14 0 j = some (3, g)
        rw [e 5 0 3 (Ne.symm q)]; exact r4.2
  · by_cases q : c = 1
    · exact g5 q
    · refine ⟨?_, ?_, ?_⟩
      · show ∃ n, n ≤ 100 ∧ ab_up u.1 c i k v 1 0 3 = nI n
        rw [e 1 0 3 (Ne.symm q)]; exact r5.1
      · show ∃ n, n ≤ 100 ∧ ab_up u.1 c i k v 1 0 4 = nI n
        rw [e 1 0 4 (Ne.symm q)]; exact r5.2.1
      · show ∃ n, n ≤ 19 ∧ ab_up u.1 c i k v 1 0 7 = nI n
        rw [e 1 0 7 (Ne.symm q)]; exact r5.2.2
  · by_cases q : c = 7
    · exact g7 q
    · refine ⟨?_, ?_, ?_⟩
      · show ∃ n, n ≤ 168 ∧ ab_up u.1 c i k v 7 0 2 = nI n
        rw [e 7 0 2 (Ne.symm q)]; exact r7.1
      · show ∃ n, n ≤ 128 ∧ ab_up u.1 c i k v 7 0 3 = nI n
        rw [e 7 0 3 (Ne.symm q)]; exact r7.2.1
      · show ∃ n, n ≤ 128 ∧ ab_up u.1 c i k v 7 0 4 = nI n
        rw [e 7 0 4 (Ne.symm q)]; exact r7.2.2
  · show ab_up u.1 c i k v 1 0 3 = u0.1 1 0 3
    rw [ab_up_n _ _ (fun z => h1 ⟨z.1.symm, z.2.2.symm⟩)]; exact s3
theorem cQ.row {x : Nat} {K : List Nat} {u0 u : ab_S} (h : cQ x K u0 u) (hK : 4 ∈ K) {r n : Nat} (hn : n ≤ ab_ln 8 r) : cQ x K u0 (ab_ui u 4 r 1 (nI n)) :=
  h.uw hK (by omega) (fun _ r' hr' => by
    by_cases q : r' = r
    · subst q; exact ⟨n, hn, ui_s _⟩
    · obtain ⟨m, h1, h2⟩ := h.1.2.1 r' hr'
      exact ⟨m, h1, (ui_n _ (fun z => q z.2.1)).trans h2⟩) (fun q => by omega) (fun q => by omega) (fun q => by omega) (fun q => by omega) (fun q => by omega)
theorem cQ.row0 {x : Nat} {K : List Nat} {u0 u : ab_S} (h : cQ x K u0 u) (hK : 4 ∈ K) {r : Nat} : cQ x K u0 (ab_ui u 4 r 1 0) := h.row hK (n := 0) (Nat.zero_le _)
section CiGet
variable {x : Nat} {u : ab_S}
theorem CIx.rw (h : CIx x u) {r : Nat} (hr : r < 124) : u.2.1 4 r 0 = some (8, r) := h.1.2.2.2.2.2 r hr
theorem CIx.pf0 (h : CIx x u) : u.2.1 0 0 0 = some (1, 0) := h.1.1.1
theorem CIx.pf1 (h : CIx x u) : u.2.1 0 0 1 = some (3, 60) := h.1.1.2.1
theorem CIx.pf2 (h : CIx x u) : u.2.1 0 0 2 = some (4, 122) := h.1.1.2.2.1
theorem CIx.pf3 (h : CIx x u) : u.2.1 0 0 3 = some (5, 0) := h.1.1.2.2.2.1
theorem CIx.pf4 (h : CIx x u) : u.2.1 0 0 4 = some (6, 0) := h.1.1.2.2.2.2.1
theorem CIx.pf5 (h : CIx x u) : u.2.1 0 0 5 = some (4, 123) := h.1.1.2.2.2.2.2.1
theorem CIx.pf6 (h : CIx x u) : u.2.1 0 0 6 = some (7, 0) := h.1.1.2.2.2.2.2.2
theorem CIx.rd0 (h : CIx x u) : u.2.1 1 0 0 = some (11, 0) := h.1.2.1.1
theorem CIx.rd1 (h : CIx x u) : u.2.1 1 0 1 = some (12, 0) := h.1.2.1.2.1
theorem CIx.rd2 (h : CIx x u) : u.2.1 1 0 2 = some (2, 0) := h.1.2.1.2.2.1
theorem CIx.sc0 (h : CIx x u) : u.2.1 5 0 0 = some (13, 0) := h.1.2.1.2.2.2.1
theorem CIx.sc1 (h : CIx x u) : u.2.1 5 0 1 = some (14, 0) := h.1.2.1.2.2.2.2.1
theorem CIx.ma0 (h : CIx x u) : u.2.1 7 0 0 = some (15, 0) := h.1.2.1.2.2.2.2.2.1
theorem CIx.ma1 (h : CIx x u) : u.2.1 7 0 1 = some (16, 0) := h.1.2.1.2.2.2.2.2.2
theorem CIx.rp (h : CIx x u) {i : Nat} (hi : i < 19) : u.2.1 12 0 i = some (2, i + 1) := h.1.2.2.1 i hi
theorem CIx.pt0 (h : CIx x u) {p : Nat} (hp : p < 20) : u.2.1 2 p 0 = some (10, p) := (h.1.2.2.2.1 p hp).1
theorem CIx.pt1 (h : CIx x u) {p : Nat} (hp : p < 20) : u.2.1 2 p 1 = some (3, 3 * p) := (h.1.2.2.2.1 p hp).2.1
theorem CIx.pt2 (h : CIx x u) {p : Nat} (hp : p < 20) : u.2.1 2 p 2 = some (3, 3 * p + 1) := (h.1.2.2.2.1 p hp).2.2.1
theorem CIx.pt3 (h : CIx x u) {p : Nat} (hp : p < 20) : u.2.1 2 p 3 = some (3, 3 * p + 2) := (h.1.2.2.2.1 p hp).2.2.2
theorem CIx.fm0 (h : CIx x u) {g : Nat} (hg : g < 61) : u.2.1 3 g 0 = some (9, g) := (h.1.2.2.2.2.1 g hg).1
theorem CIx.fm2 (h : CIx x u) {g : Nat} (hg : g < 61) : u.2.1 3 g 2 = some (4, 2 * g + 1) := (h.1.2.2.2.2.1 g hg).2.1
theorem CIx.fm3 (h : CIx x u) {g : Nat} (hg : g < 61) : u.2.1 3 g 3 = some (4, 2 * g) := (h.1.2.2.2.2.1 g hg).2.2
theorem CIx.row (h : CIx x u) {r : Nat} (hr : r < 124) : ∃ n, n ≤ ab_ln 8 r ∧ u.1 4 r 1 = nI n := h.2.1 r hr
theorem CIx.form (h : CIx x u) {f : Nat} (hf : f < 61) : ∃ n, n ≤ 4 ∧ u.1 3 f 7 = nI n ∧ (∀ j, j < n → ∃ g, g < 61 ∧ u.2.1 9 f j = some (3, g)) ∧ (f ≠ x → ci_cl (u.1 3 f 4) n) := h.2.2.1 f hf
theorem CIx.part (h : CIx x u) {p : Nat} (hp : p < 20) : ∃ n, n ≤ 4 ∧ u.1 2 p 6 = nI n ∧ ∀ j, j < n → ∃ q, q < 20 ∧ u.2.1 10 p j = some (2, q) := (h.2.2.2.1 p hp).1
theorem CIx.held (h : CIx x u) {p : Nat} (hp : p < 20) : u.1 2 p 7 = 0 ∨ u.1 2 p 7 = 1 := (h.2.2.2.1 p hp).2
theorem CIx.scr (h : CIx x u) : (∃ n, n ≤ 128 ∧ u.1 5 0 2 = nI n) ∧ ∃ n, n ≤ 38 ∧ u.1 5 0 3 = nI n ∧ ∀ j, j < n → ∃ g, g < 61 ∧ u.2.1 14 0 j = some (3, g) := h.2.2.2.2.1
theorem CIx.rd (h : CIx x u) : (∃ n, n ≤ 100 ∧ u.1 1 0 3 = nI n) ∧ (∃ n, n ≤ 100 ∧ u.1 1 0 4 = nI n) ∧ ∃ n, n ≤ 19 ∧ u.1 1 0 7 = nI n := h.2.2.2.2.2.1
theorem CIx.pol (h : CIx x u) : u.2.1 0 0 7 = none ∨ ∃ q, q < 20 ∧ u.2.1 0 0 7 = some (2, q) := h.2.2.2.2.2.2.1
theorem CIx.ma (h : CIx x u) : (∃ n, n ≤ 168 ∧ u.1 7 0 2 = nI n) ∧ (∃ n, n ≤ 128 ∧ u.1 7 0 3 = nI n) ∧ ∃ n, n ≤ 128 ∧ u.1 7 0 4 = nI n := h.2.2.2.2.2.2.2
end CiGet
section CiPut
variable {x : Nat} {K : List Nat} {u0 u : ab_S}
/-- a form in the making, and done -/
theorem cQ.ex (h : cP K u0 u) (f : Nat) : cQ f K u0 u := ⟨⟨h.1.1, h.1.2.1, fun g hg => by
    obtain ⟨n, a, b, c, d⟩ := h.1.form hg
    exact ⟨n, a, b, c, fun _ => d (by omega)⟩, h.1.2.2.2⟩, h.2⟩
theorem cQ.un (h : cQ x K u0 u) (hk : ∀ n, n ≤ 4 → u.1 3 x 7 = nI n → ci_cl (u.1 3 x 4) n) : cP K u0 u := ⟨⟨h.1.1, h.1.2.1, fun g hg => by
    obtain ⟨n, a, b, c, d⟩ := h.1.form hg
    refine ⟨n, a, b, c, fun _ => ?_⟩
    by_cases q : g = x
    · subst q; exact hk n a b
    · exact d q, h.1.2.2.2⟩, h.2⟩
theorem cQ.fm (h : cQ x K u0 u) (hK : 3 ∈ K) {k : Nat} {v : Int32} (g2 : ci_form x (ab_ui u 3 x k v)) : cQ x K u0 (ab_ui u 3 x k v) :=
  h.uw hK (by omega) (fun q => by omega) (fun _ => g2) (fun q => by omega) (fun q => by omega) (fun q => by omega) (fun q => by omega)
theorem cQ.rule (h : cQ x K u0 u) (hK : 3 ∈ K) {v : Int32} : cQ x K u0 (ab_ui u 3 x 4 v) := h.fm hK fun g hg => by
    obtain ⟨n, a, b, c, d⟩ := h.1.form hg
    refine ⟨n, a, (ui_n _ (by omega)).trans b, c, fun q => ?_⟩
    show ci_cl (ab_up u.1 3 x 4 v 3 g 4) n
    rw [ab_up_n _ _ (by omega)]
    exact d q
theorem cQ.fc (h : cQ x K u0 u) (hK : 3 ∈ K) {n : Nat} (hn : n ≤ 4) (he : ∀ j, j < n → ∃ g, g < 61 ∧ u.2.1 9 x j = some (3, g)) : cQ x K u0 (ab_ui u 3 x 7 (nI n)) := h.fm hK fun g hg => by
    by_cases q : g = x
    · subst q
      exact ⟨n, hn, ui_s _, he, fun q => absurd rfl q⟩
    · obtain ⟨m, a, b, c, d⟩ := h.1.form hg
      refine ⟨m, a, (ui_n _ (by omega)).trans b, c, fun q => ?_⟩
      show ci_cl (ab_up u.1 3 x 7 _ 3 g 4) m
      rw [ab_up_n _ _ (by omega)]
      exact d q
theorem cQ.rule0 (h : cP K u0 u) (hK : 3 ∈ K) {f : Nat} : cP K u0 (ab_ui u 3 f 4 0) := ((h.ex f).rule hK).un fun n _ _ => by
    show ci_cl (ab_up u.1 3 f 4 0 3 f 4) n
    rw [ab_up_s]
    exact ⟨fun q => by rcases q with q | q | q <;> exact absurd q (by decide), fun q => absurd q (by decide)⟩
/-- a write of a reference -/
theorem cQ.ur (h : cQ x K u0 u) {c i k : Nat} {v : Option (Nat × Nat)} (hK : c ∈ K) (hc : ci_dyn c k) (h9 : c = 9 → ∃ g, g < 61 ∧ v = some (3, g)) (h10 : c = 10 → ∃ q, q < 20 ∧ v = some (2, q)) (h14 : c = 14 → ∃ g, g < 61 ∧ v = some (3, g)) (h0 : c = 0 → v = none ∨ ∃ q, q < 20 ∧ v = some (2, q)) : cQ x K u0 (ab_ur u c i k v) := by
  have e : ∀ c' i' k', (ab_up u.2.1 c i k v c' i' k' = v ∧ c' = c) ∨ ab_up u.2.1 c i k v c' i' k' = u.2.1 c' i' k' := fun c' i' k' => by
    by_cases q : c' = c ∧ i' = i ∧ k' = k
    · exact Or.inl ⟨by rw [q.1, q.2.1, q.2.2]; exact ab_up_s _ _ _ _ _, q.1⟩
    · exact Or.inr (ab_up_n _ _ q)
  obtain ⟨⟨r0, r1, r2, r3, r4, r5, r6, r7⟩, s1, s2, s3⟩ := h
  refine ⟨⟨r0.up hc, r1, fun f hf => ?_, fun p hp => ?_, ⟨r4.1, ?_⟩, r5, ?_, r7⟩, s1, fun c' i' k' hc' => ⟨(s2 _ _ _ hc').1, ?_⟩, s3⟩
  · obtain ⟨n, a1, a2, a3, a4⟩ := r2 f hf
    refine ⟨n, a1, a2, fun j hj => ?_, a4⟩
    rcases e 9 f j with ⟨q, z⟩ | q
    · obtain ⟨g, g1, g2⟩ := h9 z.symm
      exact ⟨g, g1, q.trans g2⟩
    · obtain ⟨g, g1, g2⟩ := a3 j hj
      exact ⟨g, g1, q.trans g2⟩
  · obtain ⟨⟨n, a1, a2, a3⟩, a4⟩ := r3 p hp
    refine ⟨⟨n, a1, a2, fun j hj => ?_⟩, a4⟩
    rcases e 10 p j with ⟨q, z⟩ | q
    · obtain ⟨g, g1, g2⟩ := h10 z.symm
      exact ⟨g, g1, q.trans g2⟩
    · obtain ⟨g, g1, g2⟩ := a3 j hj
      exact ⟨g, g1, q.trans g2⟩
  · obtain ⟨n, a1, a2, a3⟩ := r4.2
    refine ⟨n, a1, a2, fun j hj => ?_⟩
    rcases e 14 0 j with ⟨q, z⟩ | q
    · obtain ⟨g, g1, g2⟩ := h14 z.symm
      exact ⟨g, g1, q.trans g2⟩
    · obtain ⟨g, g1, g2⟩ := a3 j hj
      exact ⟨g, g1, q.trans g2⟩
  · rcases e 0 0 7 with ⟨q, z⟩ | q
    · rcases h0 z.symm with g | ⟨g, g1, g2⟩
      · exact Or.inl (q.trans g)
      · exact Or.inr ⟨g, g1, q.trans g2⟩
    · show ab_up u.2.1 c i k v 0 0 7 = none ∨ ∃ g, g < 20 ∧ ab_up u.2.1 c i k v 0 0 7 = some (2, g)
      rw [q]; exact r6
  · rcases e c' i' k' with ⟨q, z⟩ | q
    · exact absurd (z ▸ hK) hc'
    · exact q.trans (s2 _ _ _ hc').2
theorem cQ.tk (h : cQ x K u0 u) (hK : 9 ∈ K) {f j g : Nat} (hg : g < 61) : cQ x K u0 (ab_ur u 9 f j (some (3, g))) := h.ur hK (Or.inl rfl) (fun _ => ⟨g, hg, rfl⟩) (fun q => by omega) (fun q => by omega) (fun q => by omega)
theorem cQ.pa (h : cQ x K u0 u) (hK : 10 ∈ K) {f j g : Nat} (hg : g < 20) : cQ x K u0 (ab_ur u 10 f j (some (2, g))) := h.ur hK (Or.inr (Or.inl rfl)) (fun q => by omega) (fun _ => ⟨g, hg, rfl⟩) (fun q => by omega) (fun q => by omega)
theorem cQ.sa (h : cQ x K u0 u) (hK : 14 ∈ K) {j g : Nat} (hg : g < 61) : cQ x K u0 (ab_ur u 14 0 j (some (3, g))) := h.ur hK (Or.inr (Or.inr (Or.inl rfl))) (fun q => by omega) (fun q => by omega) (fun _ => ⟨g, hg, rfl⟩) (fun q => by omega)
theorem cQ.pol (h : cQ x K u0 u) (hK : 0 ∈ K) {r : Option (Nat × Nat)} (hr : r = none ∨ ∃ q, q < 20 ∧ r = some (2, q)) : cQ x K u0 (ab_ur u 0 0 7 r) := h.ur hK (Or.inr (Or.inr (Or.inr ⟨rfl, rfl⟩))) (fun q => by omega) (fun q => by omega) (fun q => by omega) (fun _ => hr)
theorem cQ.pc (h : cQ x K u0 u) (hK : 2 ∈ K) {p n : Nat} (hn : n ≤ 4) (he : ∀ j, j < n → ∃ q, q < 20 ∧ u.2.1 10 p j = some (2, q)) : cQ x K u0 (ab_ui u 2 p 6 (nI n)) :=
  h.uw hK (by omega) (fun q => by omega) (fun q => by omega) (fun _ p' hp' => by
    by_cases q : p' = p
    · subst q; exact ⟨⟨n, hn, ui_s _, he⟩, by
        show ab_up u.1 2 p' 6 _ 2 p' 7 = 0 ∨ ab_up u.1 2 p' 6 _ 2 p' 7 = 1
        rw [ab_up_n _ _ (by omega)]; exact h.1.held hp'⟩
    · obtain ⟨m, h1, h2, h3⟩ := h.1.part hp'
      exact ⟨⟨m, h1, (ui_n _ (fun z => q z.2.1)).trans h2, h3⟩, by
        show ab_up u.1 2 p 6 _ 2 p' 7 = 0 ∨ ab_up u.1 2 p 6 _ 2 p' 7 = 1
        rw [ab_up_n _ _ (by omega)]; exact h.1.held hp'⟩) (fun q => by omega) (fun q => by omega) (fun q => by omega)
theorem cQ.hd (h : cQ x K u0 u) (hK : 2 ∈ K) {p : Nat} {v : Int32} (hv : v = 0 ∨ v = 1) : cQ x K u0 (ab_ui u 2 p 7 v) :=
  h.uw hK (by omega) (fun q => by omega) (fun q => by omega) (fun _ p' hp' => by
    obtain ⟨m, h1, h2, h3⟩ := h.1.part hp'
    refine ⟨⟨m, h1, (ui_n _ (by omega)).trans h2, h3⟩, ?_⟩
    show ab_up u.1 2 p 7 v 2 p' 7 = 0 ∨ ab_up u.1 2 p 7 v 2 p' 7 = 1
    by_cases q : p' = p
    · subst q; rw [ab_up_s]; exact hv
    · rw [ab_up_n _ _ (fun z => q z.2.1)]; exact h.1.held hp') (fun q => by omega) (fun q => by omega) (fun q => by omega)
theorem cQ.sc (h : cQ x K u0 u) (hK : 5 ∈ K) {n : Nat} (hn : n ≤ 128) : cQ x K u0 (ab_ui u 5 0 2 (nI n)) :=
  h.uw hK (by omega) (fun q => by omega) (fun q => by omega) (fun q => by omega) (fun _ => ⟨⟨n, hn, ui_s _⟩, by
    obtain ⟨m, h1, h2, h3⟩ := h.1.scr.2
    exact ⟨m, h1, (ui_n _ (by omega)).trans h2, h3⟩⟩) (fun q => by omega) (fun q => by omega)
theorem cQ.sf (h : cQ x K u0 u) (hK : 5 ∈ K) {n : Nat} (hn : n ≤ 38) (he : ∀ j, j < n → ∃ g, g < 61 ∧ u.2.1 14 0 j = some (3, g)) : cQ x K u0 (ab_ui u 5 0 3 (nI n)) :=
  h.uw hK (by omega) (fun q => by omega) (fun q => by omega) (fun q => by omega) (fun _ => ⟨by
    obtain ⟨m, h1, h2⟩ := h.1.scr.1
    exact ⟨m, h1, (ui_n _ (by omega)).trans h2⟩, n, hn, ui_s _, he⟩) (fun q => by omega) (fun q => by omega)
theorem cQ.at (h : cQ x K u0 u) (hK : 1 ∈ K) {n : Nat} (hn : n ≤ 100) : cQ x K u0 (ab_ui u 1 0 4 (nI n)) :=
  h.uw hK (by omega) (fun q => by omega) (fun q => by omega) (fun q => by omega) (fun q => by omega) (fun _ => by
    obtain ⟨⟨a, a1, a2⟩, -, b, b1, b2⟩ := h.1.rd
    exact ⟨⟨a, a1, (ui_n _ (by omega)).trans a2⟩, ⟨n, hn, ui_s _⟩, b, b1, (ui_n _ (by omega)).trans b2⟩) (fun q => by omega)
theorem cQ.used (h : cQ x K u0 u) (hK : 1 ∈ K) {n : Nat} (hn : n ≤ 19) : cQ x K u0 (ab_ui u 1 0 7 (nI n)) :=
  h.uw hK (by omega) (fun q => by omega) (fun q => by omega) (fun q => by omega) (fun q => by omega) (fun _ => by
    obtain ⟨⟨a, a1, a2⟩, ⟨b, b1, b2⟩, -⟩ := h.1.rd
    exact ⟨⟨a, a1, (ui_n _ (by omega)).trans a2⟩, ⟨b, b1, (ui_n _ (by omega)).trans b2⟩, n, hn, ui_s _⟩) (fun q => by omega)
theorem cQ.m2 (h : cQ x K u0 u) (hK : 7 ∈ K) {n : Nat} (hn : n ≤ 168) : cQ x K u0 (ab_ui u 7 0 2 (nI n)) :=
  h.uw hK (by omega) (fun q => by omega) (fun q => by omega) (fun q => by omega) (fun q => by omega) (fun q => by omega) (fun _ => by
    obtain ⟨-, ⟨a, a1, a2⟩, b, b1, b2⟩ := h.1.ma
    exact ⟨⟨n, hn, ui_s _⟩, ⟨a, a1, (ui_n _ (by omega)).trans a2⟩, b, b1, (ui_n _ (by omega)).trans b2⟩)
theorem cQ.m3 (h : cQ x K u0 u) (hK : 7 ∈ K) {n : Nat} (hn : n ≤ 128) : cQ x K u0 (ab_ui u 7 0 3 (nI n)) :=
  h.uw hK (by omega) (fun q => by omega) (fun q => by omega) (fun q => by omega) (fun q => by omega) (fun q => by omega) (fun _ => by
    obtain ⟨⟨a, a1, a2⟩, -, b, b1, b2⟩ := h.1.ma
    exact ⟨⟨a, a1, (ui_n _ (by omega)).trans a2⟩, ⟨n, hn, ui_s _⟩, b, b1, (ui_n _ (by omega)).trans b2⟩)
theorem cQ.m4 (h : cQ x K u0 u) (hK : 7 ∈ K) {n : Nat} (hn : n ≤ 128) : cQ x K u0 (ab_ui u 7 0 4 (nI n)) :=
  h.uw hK (by omega) (fun q => by omega) (fun q => by omega) (fun q => by omega) (fun q => by omega) (fun q => by omega) (fun _ => by
    obtain ⟨⟨a, a1, a2⟩, ⟨b, b1, b2⟩, -⟩ := h.1.ma
    exact ⟨⟨a, a1, (ui_n _ (by omega)).trans a2⟩, ⟨b, b1, (ui_n _ (by omega)).trans b2⟩, n, hn, ui_s _⟩)
end CiPut
/-- the state under a name of its own -/
theorem ab_gen {p : Program} {l : Launch} {e : Env} {R : Room} {s : State} {m : MethodId} {args : Array Value} {below : List Frame} {meth : Method} {c : Code} {Q : State → Prop} {D : va_G} {ca : Nat → ClassId} {A : Nat → Prop} {H0 : Heap} {nL cells slots : Nat} {ad : ab_Ad} {N : Nat → Nat} {u : ab_S} {pc : Nat} {lv : List (Nat × ab_V)} {st : List ab_V} (k : ∀ u', u' = u → ab_J p l e R s m args below meth c Q D ca A H0 nL cells slots ad N u' pc lv st) : ab_J p l e R s m args below meth c Q D ca A H0 nL cells slots ad N u pc lv st := k u rfl
theorem ab_ln8b (r : Nat) : ab_ln 8 r ≤ 40 := by
  unfold ab_ln
  rw [if_pos rfl]
  split <;> decide
theorem ab_C_mono {z : Bool} {l : Launch} {D : va_G} {ca : Nat → ClassId} {y : MethodName} {cc : ByteArray} {nL : Nat} {ret : Option FieldType} {d : Nat} {N : Nat → Nat} {u : ab_S} {av : List ab_V} {P P' : ab_S → Option ab_V → Prop} (h : ab_C z l D ca y cc nL ret d N u av P) (k : ∀ u' v, P u' v → P' u' v) : ab_C z l D ca y cc nL ret d N u av P' := fun ad sz p e ha hc hk s m args below hf happ hP ht => by
  obtain ⟨k', o, h1, h2, h3, hq, hr⟩ := h ad sz p e ha hc hk s m args below hf happ hP ht
  obtain ⟨⟨u', r, a1, a2, a3⟩, a4⟩ := hq
  exact ⟨k', o, h1, h2, h3, ⟨⟨u', r, a1, k u' r a2, a3⟩, a4⟩, hr⟩

