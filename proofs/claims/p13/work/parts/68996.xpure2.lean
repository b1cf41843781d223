/-! The forms of a tree: that there are such, and how long and how heavy they are. -/
theorem sm_lnn {a g : Nat → Nat} {k r : Nat} : ∀ n, (∀ i, i < n → a i + r ≤ k * g i) → sm a n + r * n ≤ k * sm g n := by
  intro n
  induction n with
  | zero => intro _; simp [sm]
  | succ n ih =>
    intro h
    have e1 := ih (fun i hi => h i (by omega))
    have e2 := h n (by omega)
    show sm a n + a n + r * (n + 1) ≤ k * (sm g n + g n)
    have e3 := Nat.mul_add k (sm g n) (g n)
    have e4 : r * (n + 1) = r * n + r := Nat.mul_succ r n
    omega
theorem sm_one {a : Nat → Nat} : ∀ n, 1 ≤ n → (∀ i, i < n → 1 ≤ a i) → 1 ≤ sm a n := by
  intro n h1 h
  have e1 : sm a 1 ≤ sm a n := sm_mono _ h1
  have e2 : sm a 1 = 0 + a 0 := rfl
  have e3 := h 0 (by omega)
  omega
theorem cj_lt (cn : Nat → Nat) (w p i : Nat) : cj cn w p i < 3 := by
  unfold cj
  repeat' split
  all_goals decide
section XQ
variable {M : Nat} {kd ar cn lf : Nat → Nat} {ch : Nat → Nat → Nat} {p j w : Nat}
theorem tW.k17 (W : tW M kd ar cn lf ch) (hp : p < M) : 1 ≤ kd p ∧ kd p ≤ 7 := ⟨(W.2.2 p hp).1.2.2.1, (W.2.2 p hp).1.2.2.2.1⟩
theorem tW.kid (W : tW M kd ar cn lf ch) (hp : p < M) {i : Nat} (hi : i < cn p) : p < ch p i ∧ ch p i < M := by
  obtain ⟨-, kl, kb⟩ := W.2.2 p hp
  exact (kb (Nat.le_of_not_lt (fun z => by have := kl z; omega))).2.2.2.2.1 i hi
/-- in a way that is no leaf's and not over its own form B: as many forms as parts -/
theorem ct_cn (W : tW M kd ar cn lf ch) (hp : p < M) (hw : wok (kd p) (ar p) (cn p) j w) (h8 : ¬ (w = 8 ∨ w = 24)) : (ct cn w p = 0 ∧ rul w = 1 ∧ kd p < 5) ∨ (ct cn w p = cn p ∧ 2 ≤ cn p ∧ 5 ≤ kd p) := by
  obtain ⟨-, kl, kb⟩ := W.2.2 p hp
  by_cases h1 : w = 1 ∨ w = 11 ∨ w = 12
  · refine Or.inl ⟨if_pos h1, if_pos h1, ?_⟩
    unfold wok at hw
    omega
  · have k5 : 5 ≤ kd p := by unfold wok at hw; omega
    obtain ⟨n2, n4, n5, -⟩ := kb k5
    refine Or.inr ⟨?_, n2, k5⟩
    unfold ct
    rw [if_neg h1, if_neg h8]
    by_cases h3 : w = 2 ∨ w = 3 ∨ w = 7 ∨ w = 18
    · rw [if_pos h3]
    · rw [if_neg h3]
      have : kd p < 7 := by unfold wok at hw; omega
      exact (n5 this).symm
theorem cp_in (W : tW M kd ar cn lf ch) (hp : p < M) (hw : wok (kd p) (ar p) (cn p) j w) {i : Nat} (hi : i < ct cn w p) : ((w = 8 ∨ w = 24) ∧ cp ch w p i = p ∧ cj cn w p i = 0 ∧ 0 < j ∧ i = 0) ∨ (¬ (w = 8 ∨ w = 24) ∧ p < cp ch w p i ∧ cp ch w p i < M) := by
  by_cases h8 : w = 8 ∨ w = 24
  · refine Or.inl ⟨h8, if_pos h8, ?_, by unfold wok at hw; omega, ?_⟩
    · rcases h8 with rfl | rfl <;> rfl
    · have : ct cn w p = 1 := by rcases h8 with rfl | rfl <;> rfl
      omega
  · refine Or.inr ⟨h8, ?_⟩
    rcases ct_cn W hp hw h8 with ⟨e, -⟩ | ⟨e, n2, -⟩
    · omega
    · rw [e] at hi
      unfold cp
      rw [if_neg h8]
      by_cases h14 : w = 14 ∨ w = 16
      · rw [if_pos h14]
        split
        · exact W.kid hp (by omega)
        · exact W.kid hp (by omega)
      · rw [if_neg h14]
        exact W.kid hp hi
theorem sm_cp (W : tW M kd ar cn lf ch) (hp : p < M) (hw : wok (kd p) (ar p) (cn p) j w) (h8 : ¬ (w = 8 ∨ w = 24)) : sm (fun i => lf (cp ch w p i)) (ct cn w p) ≤ lf p := by
  obtain ⟨-, kl, kb⟩ := W.2.2 p hp
  rcases ct_cn W hp hw h8 with ⟨e, -⟩ | ⟨e, n2, k5⟩
  · rw [e]; exact Nat.zero_le _
  · obtain ⟨-, n4, n5, -, -, b6⟩ := kb k5
    rw [e]
    by_cases h14 : w = 14 ∨ w = 16
    · have c2 : cn p = 2 := n5 (by unfold wok at hw; omega)
      rw [c2] at b6 ⊢
      have e0 : cp ch w p 0 = ch p 1 := by unfold cp; rw [if_neg h8, if_pos h14, if_pos rfl]
      have e1 : cp ch w p 1 = ch p 0 := by unfold cp; rw [if_neg h8, if_pos h14, if_neg (by decide)]
      have s1 : sm (fun i => lf (cp ch w p i)) 2 = 0 + lf (cp ch w p 0) + lf (cp ch w p 1) := rfl
      have s2 : sm (fun i => lf (ch p i)) 2 = 0 + lf (ch p 0) + lf (ch p 1) := rfl
      rw [e0, e1] at s1
      omega
    · rw [sm_congr (C := fun i => lf (ch p i)) _ (fun i _ => by show lf (cp ch w p i) = lf (ch p i); unfold cp; rw [if_neg h8, if_neg h14])]
      exact b6
theorem rfS_cong {R R' : Nat → List Nat} (h : ∀ i, i < cn p → R (ch p i) = R' (ch p i)) (h2 : w = 5 ∨ w = 6 → 2 ≤ cn p) : rfS cn ch R p w = rfS cn ch R' p w := by
  unfold rfS
  by_cases h1 : w = 1 ∨ w = 8
  · rw [if_pos h1, if_pos h1]
  rw [if_neg h1, if_neg h1]
  by_cases h5 : w = 5
  · have := h2 (Or.inl h5)
    rw [if_pos h5, if_pos h5, h 0 (by omega)]
  rw [if_neg h5, if_neg h5]
  by_cases h6 : w = 6
  · have := h2 (Or.inr h6)
    rw [if_pos h6, if_pos h6, h 1 (by omega)]
  rw [if_neg h6, if_neg h6]
  exact cat_cong _ h
theorem xf_ex (W : tW M kd ar cn lf ch) : ∃ (X : Nat → Nat → Nat × Nat × Nat) (R : Nat → List Nat), ∀ q, q < M → xF kd ar cn ch X R q := by
  have st : ∀ k, ∃ (X : Nat → Nat → Nat × Nat × Nat) (R : Nat → List Nat), ∀ q, M - k ≤ q → q < M → xF kd ar cn ch X R q := by
    intro k
    induction k with
    | zero => exact ⟨fun _ _ => (0, 0, 0), fun _ => [], fun q a b => by omega⟩
    | succ k ih =>
      obtain ⟨X, R, h⟩ := ih
      by_cases hk : M ≤ k
      · exact ⟨X, R, fun q a b => h q (by omega) b⟩
      obtain ⟨p, hp⟩ : ∃ p, p + (k + 1) = M := ⟨M - (k + 1), by omega⟩
      have hpM : p < M := by omega
      have k17 := W.k17 hpM
      obtain ⟨B, hB, -⟩ := pks_some (F := tL cn ch (xL X) p) (H := tG kd ar cn ch (xG X) R p) (wys (kd p) (ar p) (cn p) 0) none (Or.inl (wys_ne _ _ _ _))
      obtain ⟨X1, hX1⟩ : ∃ X1 : Nat → Nat → Nat × Nat × Nat, X1 = fun c j => if c = p ∧ j = 0 then B else X c j := ⟨_, rfl⟩
      obtain ⟨D, hD, hD2, -⟩ := pks_some (F := tL cn ch (xL X1) p) (H := tG kd ar cn ch (xG X1) R p) (wys (kd p) (ar p) (cn p) 1) none (Or.inl (wys_ne _ _ _ _))
      obtain ⟨V, hV, -⟩ := pks_some (F := tL cn ch (xL X1) p) (H := tG kd ar cn ch (xG X1) R p) (wys (kd p) (ar p) (cn p) 2) none (Or.inl (wys_ne _ _ _ _))
      obtain ⟨X2, hX2⟩ : ∃ X2 : Nat → Nat → Nat × Nat × Nat, X2 = fun c j => if c = p then (if j = 0 then B else if j = 1 then D else V) else X c j := ⟨_, rfl⟩
      obtain ⟨R2, hR2⟩ : ∃ R2 : Nat → List Nat, R2 = fun c => if c = p then rfS cn ch R p D.1 else R c := ⟨_, rfl⟩
      have x0 : X2 p 0 = B := by rw [hX2]; show (if p = p then _ else _) = B; rw [if_pos rfl, if_pos rfl]
      have x1 : X2 p 1 = D := by rw [hX2]; show (if p = p then _ else _) = D; rw [if_pos rfl, if_neg (by decide), if_pos rfl]
      have x2 : X2 p 2 = V := by rw [hX2]; show (if p = p then _ else _) = V; rw [if_pos rfl, if_neg (by decide), if_neg (by decide)]
      have xn : ∀ c j, c ≠ p → X2 c j = X c j := fun c j z => by rw [hX2]; exact if_neg z
      have y0 : X1 p 0 = B := by rw [hX1]; exact if_pos ⟨rfl, rfl⟩
      have yn : ∀ c j, c ≠ p → X1 c j = X c j := fun c j z => by rw [hX1]; exact if_neg (fun y => z y.1)
      have rn : ∀ c, c ≠ p → R2 c = R c := fun c z => by rw [hR2]; exact if_neg z
      have rp : R2 p = rfS cn ch R p D.1 := by rw [hR2]; exact if_pos rfl
      have sam : ∀ q j w, p < q → q < M → wok (kd q) (ar q) (cn q) j w → tL cn ch (xL X2) q w = tL cn ch (xL X) q w ∧ tG kd ar cn ch (xG X2) R2 q w = tG kd ar cn ch (xG X) R q w := by
        intro q j w hq hqM hw
        have z : ∀ i, i < ct cn w q → cp ch w q i ≠ p := fun i hi => by
          rcases cp_in W hqM hw hi with ⟨-, e, -⟩ | ⟨-, e, -⟩ <;> omega
        exact ⟨tL_cong (fun i hi => by show (X2 _ _).2.1 = (X _ _).2.1; rw [xn _ _ (z i hi)]), tG_cong (fun i hi => by show (X2 _ _).2.2 = (X _ _).2.2; rw [xn _ _ (z i hi)]) (fun _ i hi => rn _ (z i hi))⟩
      refine ⟨X2, R2, fun q a b => ?_⟩
      by_cases z : q = p
      · subst z
        have sB : ∀ w, w ∈ wys (kd q) (ar q) (cn q) 0 → tL cn ch (xL X) q w = tL cn ch (xL X2) q w ∧ tG kd ar cn ch (xG X) R q w = tG kd ar cn ch (xG X2) R2 q w := by
          intro w hw
          have hw := wys_ok k17 (by decide) hw
          have z : ∀ i, i < ct cn w q → cp ch w q i ≠ q := fun i hi => by
            rcases cp_in W hpM hw hi with ⟨-, -, -, e, -⟩ | ⟨-, e, -⟩ <;> omega
          exact ⟨tL_cong (fun i hi => by show (X _ _).2.1 = (X2 _ _).2.1; rw [xn _ _ (z i hi)]), tG_cong (fun i hi => by show (X _ _).2.2 = (X2 _ _).2.2; rw [xn _ _ (z i hi)]) (fun _ i hi => (rn _ (z i hi)).symm)⟩
        have sD : ∀ j w, j < 3 → w ∈ wys (kd q) (ar q) (cn q) j → tL cn ch (xL X1) q w = tL cn ch (xL X2) q w ∧ tG kd ar cn ch (xG X1) R q w = tG kd ar cn ch (xG X2) R2 q w := by
          intro j w hj hw
          have hw := wys_ok k17 hj hw
          have z : ∀ i, i < ct cn w q → X1 (cp ch w q i) (cj cn w q i) = X2 (cp ch w q i) (cj cn w q i) := fun i hi => by
            rcases cp_in W hpM hw hi with ⟨-, e1, e2, -⟩ | ⟨-, e, -⟩
            · rw [e1, e2, y0, x0]
            · rw [xn _ _ (by omega), yn _ _ (by omega)]
          refine ⟨tL_cong (fun i hi => by show (X1 _ _).2.1 = (X2 _ _).2.1; rw [z i hi]), tG_cong (fun i hi => by show (X1 _ _).2.2 = (X2 _ _).2.2; rw [z i hi]) (fun hr i hi => ?_)⟩
          rcases cp_in W hpM hw hi with ⟨e8, -⟩ | ⟨-, e, -⟩
          · exfalso
            rcases e8 with rfl | rfl
            · exact absurd hr (by decide)
            · exact absurd hr (by decide)
          · exact (rn _ (by omega)).symm
        refine ⟨fun j hj => ?_, ?_⟩
        · have j3 : j = 0 ∨ j = 1 ∨ j = 2 := by omega
          rcases j3 with rfl | rfl | rfl
          · rw [x0, ← hB]; exact pks_cong _ _ sB
          · rw [x1, ← hD]; exact pks_cong _ _ (fun w hw => sD 1 w (by decide) hw)
          · rw [x2, ← hV]; exact pks_cong _ _ (fun w hw => sD 2 w (by decide) hw)
        · rw [rp, x1]
          refine rfS_cong (fun i hi => (rn _ (by have := W.kid hpM hi; omega)).symm) (fun h56 => ?_)
          have hd : wok (kd q) (ar q) (cn q) 1 D.1 := by
            rcases hD2 with hD2 | ⟨w, hw, hD2⟩
            · cases hD2
            · rw [hD2]; exact wys_ok k17 (by decide) hw
          rcases ct_cn W hpM hd (by omega) with ⟨-, e, -⟩ | ⟨-, e, -⟩
          · rcases h56 with e5 | e6
            · rw [e5] at e; exact absurd e (by decide)
            · rw [e6] at e; exact absurd e (by decide)
          · exact e
      · obtain ⟨h1, h2⟩ := h q (by omega) b
        have hq : p < q := by omega
        refine ⟨fun j hj => ?_, ?_⟩
        · rw [xn q j z, h1 j hj]
          exact pks_cong _ _ (fun w hw => by
            have := sam q j w hq b (wys_ok (W.k17 b) hj hw)
            exact ⟨this.1.symm, this.2.symm⟩)
        · rw [rn q z, xn q 1 z]
          refine h2.trans ?_
          have hd : wok (kd q) (ar q) (cn q) 1 (X q 1).1 := by
            obtain ⟨t, e1, e2, -⟩ := pks_some (F := tL cn ch (xL X) q) (H := tG kd ar cn ch (xG X) R q) (wys (kd q) (ar q) (cn q) 1) none (Or.inl (wys_ne _ _ _ _))
            rw [← h1 1 (by decide)] at e1
            cases e1
            rcases e2 with e2 | ⟨w, hw, e2⟩
            · cases e2
            · rw [e2]; exact wys_ok (W.k17 b) (by decide) hw
          refine rfS_cong (fun i hi => (rn _ (by have := W.kid b hi; omega)).symm) (fun h56 => ?_)
          rcases ct_cn W b hd (by omega) with ⟨-, e, -⟩ | ⟨-, e, -⟩
          · rcases h56 with e5 | e6
            · rw [e5] at e; exact absurd e (by decide)
            · rw [e6] at e; exact absurd e (by decide)
          · exact e
  obtain ⟨X, R, h⟩ := st M
  exact ⟨X, R, fun q hq => h q (by omega) hq⟩
end XQ

