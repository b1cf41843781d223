/-! The words of forms, and the forms that are said in them. -/
def asd (cw : Nat → List Nat) (m : Nat) : Nat → List Nat
  | 0 => []
  | i + 1 => asd cw m i ++ (if i = 0 then cw 0 else [10000] ++ cw i ++ [11000] ++ [m])
/-- the words of a way, out of those of the forms in it -/
def wds (kd ar cn : Nat → Nat) (w p : Nat) (cw : Nat → List Nat) : List Nat :=
  if rul w = 1 then [1000 * kd p + ar p]
  else if rul w = 3 then cat cw (ct cn w p) ++ [5000]
  else if rul w = 4 then asd cw (1000 * ck (kd p)) (ct cn w p) ++ (if w = 7 then [9000 + ar p] else [])
  else if rul w = 5 then [12000] ++ cw 0 ++ [13000] ++ cw 1 ++ [14000]
  else if rul w = 6 then [12000] ++ cw 0 ++ [13000] ++ [17000] ++ [14000]
  else if rul w = 7 then cw 0 ++ [16000] ++ [15000] ++ cw 1 ++ [14000]
  else if rul w = 8 then cw 0 ++ [15000] ++ cw 1 ++ [14000]
  else cat cw (ct cn w p)
def wdf (kd ar cn : Nat → Nat) (ch : Nat → Nat → Nat) (Y : Nat → Nat → Nat × Nat × Nat) : Nat → Nat → Nat → List Nat
  | 0 => fun _ _ => []
  | n + 1 => fun q j => wds kd ar cn (Y q j).1 q (fun i => wdf kd ar cn ch Y n (cp ch (Y q j).1 q i) (cj cn (Y q j).1 q i))
def flf (cn : Nat → Nat) (ch : Nat → Nat → Nat) (Y : Nat → Nat → Nat × Nat × Nat) : Nat → Nat → Nat → List Nat
  | 0 => fun _ _ => []
  | n + 1 => fun q j => cat (fun i => flf cn ch Y n (cp ch (Y q j).1 q i) (cj cn (Y q j).1 q i)) (ct cn (Y q j).1 q) ++ [3 * (q + 1) + j]
/-- how deep a form can stand -/
def dpt (M q j : Nat) : Nat := 2 * (M - q) + (if j = 0 then 0 else 1)
section XWd
variable {M : Nat} {kd ar cn lf : Nat → Nat} {ch : Nat → Nat → Nat} {Y : Nat → Nat → Nat × Nat × Nat} {R : Nat → List Nat}
theorem asd_cong {cw cw' : Nat → List Nat} {m : Nat} : ∀ n, (∀ i, i < n → cw i = cw' i) → asd cw m n = asd cw' m n := by
  intro n
  induction n with
  | zero => intro _; rfl
  | succ n ih =>
    intro h
    show asd cw m n ++ (if n = 0 then cw 0 else [10000] ++ cw n ++ [11000] ++ [m]) = asd cw' m n ++ (if n = 0 then cw' 0 else [10000] ++ cw' n ++ [11000] ++ [m])
    rw [ih (fun i hi => h i (by omega)), h n (by omega), h 0 (by omega)]
theorem wds_cong {w p : Nat} {cw cw' : Nat → List Nat} (h : ∀ i, i < ct cn w p → cw i = cw' i) : wds kd ar cn w p cw = wds kd ar cn w p cw' := by
  unfold wds
  by_cases z1 : rul w = 1
  · rw [if_pos z1, if_pos z1]
  rw [if_neg z1, if_neg z1]
  by_cases z3 : rul w = 3
  · rw [if_pos z3, if_pos z3, cat_cong _ h]
  rw [if_neg z3, if_neg z3]
  by_cases z4 : rul w = 4
  · rw [if_pos z4, if_pos z4, asd_cong _ h]
  rw [if_neg z4, if_neg z4]
  by_cases z5 : rul w = 5
  · have c := ct_2 (cn := cn) (p := p) (Or.inl z5)
    rw [if_pos z5, if_pos z5, h 0 (by omega), h 1 (by omega)]
  rw [if_neg z5, if_neg z5]
  by_cases z6 : rul w = 6
  · have c := ct_1 (cn := cn) (p := p) z6
    rw [if_pos z6, if_pos z6, h 0 (by omega)]
  rw [if_neg z6, if_neg z6]
  by_cases z7 : rul w = 7
  · have c := ct_2 (cn := cn) (p := p) (Or.inr (Or.inl z7))
    rw [if_pos z7, if_pos z7, h 0 (by omega), h 1 (by omega)]
  rw [if_neg z7, if_neg z7]
  by_cases z8 : rul w = 8
  · have c := ct_2 (cn := cn) (p := p) (Or.inr (Or.inr z8))
    rw [if_pos z8, if_pos z8, h 0 (by omega), h 1 (by omega)]
  rw [if_neg z8, if_neg z8, cat_cong _ h]
theorem asd_len {cw : Nat → List Nat} {m : Nat} {lw : Nat → Nat} : ∀ n, (∀ i, i < n → (cw i).length = lw i) → (asd cw m n).length = sm lw n + 3 * (n - 1) := by
  intro n
  induction n with
  | zero => intro _; rfl
  | succ n ih =>
    intro h
    show (asd cw m n ++ (if n = 0 then cw 0 else [10000] ++ cw n ++ [11000] ++ [m])).length = sm lw n + lw n + 3 * (n + 1 - 1)
    rw [List.length_append, ih (fun i hi => h i (by omega))]
    by_cases z : n = 0
    · subst z
      rw [if_pos rfl, h 0 (by omega)]; omega
    · have e := h n (by omega)
      rw [if_neg z]
      simp only [List.length_append, List.length_cons, List.length_nil]
      omega
theorem cat_sum {cw : Nat → List Nat} {lw : Nat → Nat} : ∀ n, (∀ i, i < n → (cw i).length = lw i) → (cat cw n).length = sm lw n := fun n h => by
  rw [cat_len]; exact sm_congr _ h
theorem wds_len {w p : Nat} {cw : Nat → List Nat} {lw : Nat → Nat} (h : ∀ i, i < ct cn w p → (cw i).length = lw i) : (wds kd ar cn w p cw).length = cwm (rul w) (ct cn w p) (sm lw (ct cn w p)) (if w = 7 then 1 else 0) := by
  unfold wds cwm
  have two : ct cn w p = 2 → sm lw (ct cn w p) = (cw 0).length + (cw 1).length := fun z => by
    rw [h 0 (by omega), h 1 (by omega), z]
    show 0 + lw 0 + lw 1 = _
    omega
  by_cases z1 : rul w = 1
  · rw [if_pos z1, if_pos z1]; rfl
  rw [if_neg z1, if_neg z1]
  by_cases z3 : rul w = 3
  · rw [if_pos z3, if_pos z3, List.length_append, cat_sum _ h]; rfl
  rw [if_neg z3, if_neg z3]
  by_cases z4 : rul w = 4
  · rw [if_pos z4, if_pos z4, List.length_append, asd_len _ h]
    by_cases y : w = 7
    · rw [if_pos y, if_pos y]; rfl
    · rw [if_neg y, if_neg y]; rfl
  rw [if_neg z4, if_neg z4]
  by_cases z5 : rul w = 5
  · rw [if_pos z5, if_pos z5, two (ct_2 (Or.inl z5))]
    simp only [List.length_append, List.length_cons, List.length_nil]
    omega
  rw [if_neg z5, if_neg z5]
  by_cases z6 : rul w = 6
  · have c := ct_1 (cn := cn) (p := p) z6
    have e : sm lw (ct cn w p) = (cw 0).length := by rw [h 0 (by omega), c]; exact Nat.zero_add _
    rw [if_pos z6, if_pos z6, e]
    simp only [List.length_append, List.length_cons, List.length_nil]
    omega
  rw [if_neg z6, if_neg z6]
  by_cases z7 : rul w = 7
  · rw [if_pos z7, if_pos z7, two (ct_2 (Or.inr (Or.inl z7)))]
    simp only [List.length_append, List.length_cons, List.length_nil]
    omega
  rw [if_neg z7, if_neg z7]
  by_cases z8 : rul w = 8
  · rw [if_pos z8, if_pos z8, two (ct_2 (Or.inr (Or.inr z8)))]
    simp only [List.length_append, List.length_cons, List.length_nil]
    omega
  rw [if_neg z8, if_neg z8, cat_sum _ h]
/-- a form in a form stands less deep -/
theorem dpt_lt (W : tW M kd ar cn lf ch) (F : ∀ q, q < M → xF kd ar cn ch Y R q) {q j : Nat} (hq : q < M) (hj : j < 3) {i : Nat} (hi : i < ct cn (Y q j).1 q) : cp ch (Y q j).1 q i < M ∧ dpt M (cp ch (Y q j).1 q i) (cj cn (Y q j).1 q i) < dpt M q j := by
  have hw := ((F q hq).way W hq hj).2.1
  unfold dpt
  rcases cp_in W hq hw hi with ⟨-, e1, e2, e3, -⟩ | ⟨-, e1, e2⟩
  · rw [e1, e2, if_pos rfl, if_neg (by omega)]; omega
  · refine ⟨e2, ?_⟩
    have : (if cj cn (Y q j).1 q i = 0 then 0 else 1) ≤ 1 := by split <;> decide
    omega
theorem wdf_st (W : tW M kd ar cn lf ch) (F : ∀ q, q < M → xF kd ar cn ch Y R q) : ∀ (n n' q j : Nat), q < M → j < 3 → dpt M q j ≤ n → dpt M q j ≤ n' → wdf kd ar cn ch Y n q j = wdf kd ar cn ch Y n' q j ∧ flf cn ch Y n q j = flf cn ch Y n' q j := by
  intro n
  induction n with
  | zero => intro n' q j hq hj h; unfold dpt at h; omega
  | succ n ih =>
    intro n' q j hq hj h h'
    obtain ⟨m, rfl⟩ : ∃ m, n' = m + 1 := ⟨n' - 1, by unfold dpt at h'; omega⟩
    refine ⟨wds_cong (fun i hi => ?_), ?_⟩
    · obtain ⟨a, b⟩ := dpt_lt W F hq hj hi
      exact (ih m _ _ a (cj_lt _ _ _ _) (by omega) (by omega)).1
    · show cat _ _ ++ _ = cat _ _ ++ _
      rw [cat_cong _ (fun i hi => by
        obtain ⟨a, b⟩ := dpt_lt W F hq hj hi
        exact (ih m _ _ a (cj_lt _ _ _ _) (by omega) (by omega)).2)]
abbrev Wd (kd ar cn : Nat → Nat) (ch : Nat → Nat → Nat) (Y : Nat → Nat → Nat × Nat × Nat) : Nat → Nat → List Nat := wdf kd ar cn ch Y 40
abbrev Fl (cn : Nat → Nat) (ch : Nat → Nat → Nat) (Y : Nat → Nat → Nat × Nat × Nat) : Nat → Nat → List Nat := flf cn ch Y 40
theorem Wd_fix (W : tW M kd ar cn lf ch) (F : ∀ q, q < M → xF kd ar cn ch Y R q) {q j : Nat} (hq : q < M) (hj : j < 3) : Wd kd ar cn ch Y q j = wds kd ar cn (Y q j).1 q (fun i => Wd kd ar cn ch Y (cp ch (Y q j).1 q i) (cj cn (Y q j).1 q i)) := by
  have hM := W.2.1
  refine ((wdf_st W F 40 41 q j hq hj ?_ ?_).1).trans rfl
  · unfold dpt; split <;> omega
  · unfold dpt; split <;> omega
theorem Fl_fix (W : tW M kd ar cn lf ch) (F : ∀ q, q < M → xF kd ar cn ch Y R q) {q j : Nat} (hq : q < M) (hj : j < 3) : Fl cn ch Y q j = cat (fun i => Fl cn ch Y (cp ch (Y q j).1 q i) (cj cn (Y q j).1 q i)) (ct cn (Y q j).1 q) ++ [3 * (q + 1) + j] := by
  have hM := W.2.1
  refine ((wdf_st W F 40 41 q j hq hj ?_ ?_).2).trans rfl
  · unfold dpt; split <;> omega
  · unfold dpt; split <;> omega
theorem Wd_len (W : tW M kd ar cn lf ch) (F : ∀ q, q < M → xF kd ar cn ch Y R q) : ∀ (n q j : Nat), dpt M q j ≤ n → q < M → j < 3 → (Wd kd ar cn ch Y q j).length = (Y q j).2.1 ∧ (Fl cn ch Y q j).length ≤ 4 * lf q - 3 + (if j = 0 then 0 else 1) := by
  intro n
  induction n with
  | zero => intro q j h hq; unfold dpt at h; omega
  | succ n ih =>
    intro q j h hq hj
    obtain ⟨-, hw, eL, -⟩ := (F q hq).way W hq hj
    have l1 := (W.2.2 q hq).1.1
    have IH : ∀ i, i < ct cn (Y q j).1 q → (Wd kd ar cn ch Y (cp ch (Y q j).1 q i) (cj cn (Y q j).1 q i)).length = (Y (cp ch (Y q j).1 q i) (cj cn (Y q j).1 q i)).2.1 ∧ (Fl cn ch Y (cp ch (Y q j).1 q i) (cj cn (Y q j).1 q i)).length ≤ 4 * lf (cp ch (Y q j).1 q i) - 3 + (if cj cn (Y q j).1 q i = 0 then 0 else 1) := fun i hi => by
      obtain ⟨a, b⟩ := dpt_lt W F hq hj hi
      exact ih _ _ (by omega) a (cj_lt _ _ _ _)
    constructor
    · rw [Wd_fix W F hq hj, eL]
      exact wds_len (fun i hi => (IH i hi).1)
    · rw [Fl_fix W F hq hj, List.length_append, cat_len]
      show sm _ _ + 1 ≤ _
      by_cases h8 : (Y q j).1 = 8 ∨ (Y q j).1 = 24
      · have c : ct cn (Y q j).1 q = 1 := by rcases h8 with e | e <;> rw [e] <;> rfl
        have i0 := (IH 0 (by omega)).2
        rcases cp_in W hq hw (i := 0) (by omega) with ⟨-, e1, e2, e3, -⟩ | ⟨z, -⟩
        · rw [e1, e2, if_pos rfl] at i0
          rw [c, if_neg (by omega)]
          have : sm (fun i => (Fl cn ch Y (cp ch (Y q j).1 q i) (cj cn (Y q j).1 q i)).length) 1 = 0 + (Fl cn ch Y (cp ch (Y q j).1 q 0) (cj cn (Y q j).1 q 0)).length := rfl
          rw [this, e1, e2]
          omega
        · exact absurd h8 z
      · rcases ct_cn W hq hw h8 with ⟨e, -⟩ | ⟨e, n2, -⟩
        · rw [e]
          show 0 + 1 ≤ _
          omega
        · have z := sm_lnn (a := fun i => (Fl cn ch Y (cp ch (Y q j).1 q i) (cj cn (Y q j).1 q i)).length) (g := fun i => lf (cp ch (Y q j).1 q i)) (k := 4) (r := 2) (ct cn (Y q j).1 q) (fun i hi => by
            have a := (IH i hi).2
            have b : 1 ≤ lf (cp ch (Y q j).1 q i) := (W.2.2 _ (dpt_lt W F hq hj hi).1).1.1
            have : (if cj cn (Y q j).1 q i = 0 then 0 else 1) ≤ 1 := by split <;> decide
            show (Fl cn ch Y (cp ch (Y q j).1 q i) (cj cn (Y q j).1 q i)).length + 2 ≤ _
            omega)
          have z2 := sm_cp W hq hw h8
          omega
end XWd

