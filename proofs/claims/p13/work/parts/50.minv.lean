/-! The reference's cells: its arrays never change places; what a call may touch, by number (a field's place; 100 and an array's number). -/
def mo_pl : List (Nat × Nat) := [(1, 0), (7, 1), (8, 2), (9, 3), (10, 4), (11, 5), (12, 6), (13, 7), (14, 8), (15, 9), (20, 10), (21, 11), (22, 12), (23, 13), (24, 14), (25, 15), (28, 16), (31, 17), (34, 18), (36, 19), (38, 20)]
def mR (f : Nat → Nat → Nat → Option (Nat × Nat)) : Prop := (∀ q ∈ mo_pl, f 17 0 q.1 = some (18, q.2)) ∧ f 17 0 43 = some (19, 0)
theorem mR.mo1 {f : Nat → Nat → Nat → Option (Nat × Nat)} (h : mR f) : f 17 0 1 = some (18, 0) := h.1 (1, 0) (by decide)
theorem mR.mo7 {f : Nat → Nat → Nat → Option (Nat × Nat)} (h : mR f) : f 17 0 7 = some (18, 1) := h.1 (7, 1) (by decide)
theorem mR.mo8 {f : Nat → Nat → Nat → Option (Nat × Nat)} (h : mR f) : f 17 0 8 = some (18, 2) := h.1 (8, 2) (by decide)
theorem mR.mo9 {f : Nat → Nat → Nat → Option (Nat × Nat)} (h : mR f) : f 17 0 9 = some (18, 3) := h.1 (9, 3) (by decide)
theorem mR.mo10 {f : Nat → Nat → Nat → Option (Nat × Nat)} (h : mR f) : f 17 0 10 = some (18, 4) := h.1 (10, 4) (by decide)
theorem mR.mo11 {f : Nat → Nat → Nat → Option (Nat × Nat)} (h : mR f) : f 17 0 11 = some (18, 5) := h.1 (11, 5) (by decide)
theorem mR.mo12 {f : Nat → Nat → Nat → Option (Nat × Nat)} (h : mR f) : f 17 0 12 = some (18, 6) := h.1 (12, 6) (by decide)
theorem mR.mo13 {f : Nat → Nat → Nat → Option (Nat × Nat)} (h : mR f) : f 17 0 13 = some (18, 7) := h.1 (13, 7) (by decide)
theorem mR.mo14 {f : Nat → Nat → Nat → Option (Nat × Nat)} (h : mR f) : f 17 0 14 = some (18, 8) := h.1 (14, 8) (by decide)
theorem mR.mo15 {f : Nat → Nat → Nat → Option (Nat × Nat)} (h : mR f) : f 17 0 15 = some (18, 9) := h.1 (15, 9) (by decide)
theorem mR.mo20 {f : Nat → Nat → Nat → Option (Nat × Nat)} (h : mR f) : f 17 0 20 = some (18, 10) := h.1 (20, 10) (by decide)
theorem mR.mo21 {f : Nat → Nat → Nat → Option (Nat × Nat)} (h : mR f) : f 17 0 21 = some (18, 11) := h.1 (21, 11) (by decide)
theorem mR.mo22 {f : Nat → Nat → Nat → Option (Nat × Nat)} (h : mR f) : f 17 0 22 = some (18, 12) := h.1 (22, 12) (by decide)
theorem mR.mo23 {f : Nat → Nat → Nat → Option (Nat × Nat)} (h : mR f) : f 17 0 23 = some (18, 13) := h.1 (23, 13) (by decide)
theorem mR.mo24 {f : Nat → Nat → Nat → Option (Nat × Nat)} (h : mR f) : f 17 0 24 = some (18, 14) := h.1 (24, 14) (by decide)
theorem mR.mo25 {f : Nat → Nat → Nat → Option (Nat × Nat)} (h : mR f) : f 17 0 25 = some (18, 15) := h.1 (25, 15) (by decide)
theorem mR.mo28 {f : Nat → Nat → Nat → Option (Nat × Nat)} (h : mR f) : f 17 0 28 = some (18, 16) := h.1 (28, 16) (by decide)
theorem mR.mo31 {f : Nat → Nat → Nat → Option (Nat × Nat)} (h : mR f) : f 17 0 31 = some (18, 17) := h.1 (31, 17) (by decide)
theorem mR.mo34 {f : Nat → Nat → Nat → Option (Nat × Nat)} (h : mR f) : f 17 0 34 = some (18, 18) := h.1 (34, 18) (by decide)
theorem mR.mo36 {f : Nat → Nat → Nat → Option (Nat × Nat)} (h : mR f) : f 17 0 36 = some (18, 19) := h.1 (36, 19) (by decide)
theorem mR.mo38 {f : Nat → Nat → Nat → Option (Nat × Nat)} (h : mR f) : f 17 0 38 = some (18, 20) := h.1 (38, 20) (by decide)
theorem mR.mo43 {f : Nat → Nat → Nat → Option (Nat × Nat)} (h : mR f) : f 17 0 43 = some (19, 0) := h.2
def gS (F : List Nat) (u0 u : ab_S) : Prop := u.2 = u0.2 ∧ (∀ c i k, c ≠ 17 → c ≠ 18 → c ≠ 19 → u.1 c i k = u0.1 c i k) ∧ (∀ s, ¬ s ∈ F → u.1 17 0 s = u0.1 17 0 s) ∧ ∀ a k, ¬ 100 + a ∈ F → u.1 18 a k = u0.1 18 a k
def gP (F : List Nat) (u0 u : ab_S) : Prop := mR u.2.1 ∧ gS F u0 u
section GP
variable {F L : List Nat} {u0 u u' : ab_S}
theorem gP.rf (h : mR u.2.1) : gP F u u := ⟨h, rfl, fun _ _ _ _ _ _ => rfl, fun _ _ => rfl, fun _ _ _ => rfl⟩
theorem gP.trans (h : gP F u0 u) (g : gP L u u') (hL : ∀ z ∈ L, z ∈ F) : gP F u0 u' := ⟨g.1, g.2.1.trans h.2.1, fun c i k a b d => (g.2.2.1 c i k a b d).trans (h.2.2.1 c i k a b d), fun s hs => (g.2.2.2.1 s (fun q => hs (hL s q))).trans (h.2.2.2.1 s hs), fun a k ha => (g.2.2.2.2 a k (fun q => ha (hL _ q))).trans (h.2.2.2.2 a k ha)⟩
theorem gP.wk (h : gP F u0 u) (hL : ∀ z ∈ F, z ∈ L) : gP L u0 u := ⟨h.1, h.2.1, h.2.2.1, fun s hs => h.2.2.2.1 s (fun q => hs (hL s q)), fun a k ha => h.2.2.2.2 a k (fun q => ha (hL _ q))⟩
def g_fr (F : List Nat) (c i k : Nat) : Bool := (c == 17 && (i == 0 && F.contains k)) || ((c == 18 && F.contains (100 + i)) || c == 19)
theorem gP.ui (h : gP F u0 u) {c i k : Nat} {v : Int32} (hf : g_fr F c i k = true) (_ : True) : gP F u0 (ab_ui u c i k v) := by
  have q : (c = 17 ∧ i = 0 ∧ k ∈ F) ∨ (c = 18 ∧ 100 + i ∈ F) ∨ c = 19 := by
    simpa [g_fr] using hf
  refine ⟨h.1, h.2.1, fun c' i' k' a b d => (ab_up_n _ _ (fun z => ?_)).trans (h.2.2.1 c' i' k' a b d), fun s hs => (ab_up_n _ _ (fun z => ?_)).trans (h.2.2.2.1 s hs), fun a k' ha => (ab_up_n _ _ (fun z => ?_)).trans (h.2.2.2.2 a k' ha)⟩
  · obtain ⟨z1, -, -⟩ := z; omega
  · obtain ⟨z1, z2, z3⟩ := z
    rcases q with q | q | q
    · exact hs (z3 ▸ q.2.2)
    · omega
    · omega
  · obtain ⟨z1, z2, z3⟩ := z
    rcases q with q | q | q
    · omega
    · exact ha (z2 ▸ q.2)
    · omega
theorem gP.fi (h : gP F u0 u) {s : Nat} {v : Int32} (hs : ¬ s ∈ F) (e : u0.1 17 0 s = v) : u.1 17 0 s = v := (h.2.2.2.1 s hs).trans e
theorem gP.ai (h : gP F u0 u) {a k : Nat} {v : Int32} (ha : ¬ 100 + a ∈ F) (e : u0.1 18 a k = v) : u.1 18 a k = v := (h.2.2.2.2 a k ha).trans e
end GP
theorem nI_3m (p : Nat) : 3 * nI p = nI (3 * p) := pk_mul 3 p
theorem nI_4m (p : Nat) : 4 * nI p = nI (4 * p) := pk_mul 4 p
theorem nI_50m (p : Nat) : 50 * nI p = nI (50 * p) := pk_mul 50 p
theorem nI_100m (p : Nat) : 100 * nI p = nI (100 * p) := pk_mul 100 p
theorem nI_4a (p i : Nat) : 4 * nI p + nI i = nI (4 * p + i) := by rw [nI_4m, nI_add]
theorem nI_4b (p : Nat) : 4 * nI p + 1 = nI (4 * p + 1) := by rw [nI_4m, nI_1]
theorem nI_50a (p i : Nat) : 50 * nI p + nI i = nI (50 * p + i) := by rw [nI_50m, nI_add]
theorem nI_100a (p i : Nat) : 100 * nI p + nI i = nI (100 * p + i) := by rw [nI_100m, nI_add]

