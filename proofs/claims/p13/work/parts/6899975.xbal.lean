/-! What is begun in a form's words has an end: from the words. -/
def opL (L : List Nat) : List Int32 := L.map (fun a => nI (a / 1000))
theorem opL_app (a b : List Nat) : opL (a ++ b) = opL a ++ opL b := List.map_append
theorem opL_1 (a : Nat) : opL [a] = [nI (a / 1000)] := rfl
section XBal
variable {kd ar cn : Nat → Nat} {ch : Nat → Nat → Nat} {p j w : Nat} {cw : Nat → List Nat}
theorem cat_bal : ∀ n, (∀ i, i < n → bal (opL (cw i))) → bal (opL (cat cw n)) := by
  intro n
  induction n with
  | zero => intro _; exact bal_nil
  | succ n ih =>
    intro h
    show bal (opL (cat cw n ++ cw n))
    rw [opL_app]
    exact (ih (fun i hi => h i (by omega))).app (h n (by omega))
theorem cat_cas {g : Nat → Nat} : ∀ n, (∀ i, i < n → cas (opL (cw i)) + 1 ≤ g i) → cas (opL (cat cw n)) + n ≤ sm g n := by
  intro n
  induction n with
  | zero => intro _; exact Nat.le_refl _
  | succ n ih =>
    intro h
    have a := ih (fun i hi => h i (by omega))
    have b := h n (by omega)
    show cas (opL (cat cw n ++ cw n)) + (n + 1) ≤ sm g n + g n
    rw [opL_app, cas_app]
    omega
theorem asd_bal {k : Nat} (hk : k = 6 ∨ k = 7 ∨ k = 8) : ∀ n, (∀ i, i < n → bal (opL (cw i))) → bal (opL (asd cw (1000 * k) n)) := by
  intro n
  induction n with
  | zero => intro _; exact bal_nil
  | succ n ih =>
    intro h
    have a := ih (fun i hi => h i (by omega))
    show bal (opL (asd cw (1000 * k) n ++ (if n = 0 then cw 0 else [10000] ++ cw n ++ [11000] ++ [1000 * k])))
    rw [opL_app]
    refine a.app ?_
    by_cases z : n = 0
    · subst z; rw [if_pos rfl]; exact h 0 (by omega)
    · rw [if_neg z, opL_app, opL_app, opL_app, opL_1, opL_1, opL_1]
      have e : 1000 * k / 1000 = k := by omega
      rw [e]
      refine bal_p (bal_p ((bal_plain (by decide) (by decide) (by decide) (by decide)).app (h n (by omega))) (by decide) (by decide) (by decide) (by decide)) ?_ ?_ ?_ ?_ <;> rcases hk with rfl | rfl | rfl <;> decide
theorem asd_cas {k : Nat} (hk : k = 6 ∨ k = 7 ∨ k = 8) {g : Nat → Nat} : ∀ n, (∀ i, i < n → cas (opL (cw i)) + 1 ≤ g i) → cas (opL (asd cw (1000 * k) n)) + (if n = 0 then 0 else 1) ≤ sm g n := by
  intro n
  induction n with
  | zero => intro _; exact Nat.le_refl _
  | succ n ih =>
    intro h
    have a := ih (fun i hi => h i (by omega))
    have b := h n (by omega)
    show cas (opL (asd cw (1000 * k) n ++ (if n = 0 then cw 0 else [10000] ++ cw n ++ [11000] ++ [1000 * k]))) + (if n + 1 = 0 then 0 else 1) ≤ sm g n + g n
    rw [opL_app, cas_app, if_neg (show ¬ n + 1 = 0 by omega)]
    by_cases z : n = 0
    · subst z
      rw [if_pos rfl]
      have e : cas (opL (asd cw (1000 * k) 0)) = 0 := rfl
      rw [e]
      omega
    · rw [if_neg z] at a
      rw [if_neg z, opL_app, opL_app, opL_app, opL_1, opL_1, opL_1, cas_app, cas_app, cas_app]
      have e : 1000 * k / 1000 = k := by omega
      have e1 : cas [nI (10000 / 1000)] = 1 := by decide
      have e2 : cas [nI (11000 / 1000)] = 0 := by decide
      have e3 : cas [nI (1000 * k / 1000)] = 0 := by rw [e]; rcases hk with rfl | rfl | rfl <;> decide
      rw [e1, e2, e3]
      omega
theorem ck_678 {k : Nat} (h : 5 ≤ k ∧ k ≤ 7) : ck k = 6 ∨ ck k = 7 ∨ ck k = 8 := by
  unfold ck
  rw [if_neg (by omega)]
  omega
/-- a form's words -/
def okW (g : Nat) (L : List Nat) : Prop := bal (opL L) ∧ cas (opL L) + 1 ≤ g ∧ ∀ x, x ∈ L → x < 20000
theorem wds_ok {M : Nat} {lf : Nat → Nat} (W : tW M kd ar cn lf ch) (hp : p < M) (hw : wok (kd p) (ar p) (cn p) j w) (h : ∀ i, i < ct cn w p → okW (lf (cp ch w p i)) (cw i)) : okW (lf p) (wds kd ar cn w p cw) := by
  obtain ⟨⟨l1, l2, k1, k7, r9⟩, kl, kb⟩ := W.2.2 p hp
  have hb : ∀ i, i < ct cn w p → bal (opL (cw i)) := fun i hi => (h i hi).1
  have hc : ∀ i, i < ct cn w p → cas (opL (cw i)) + 1 ≤ lf (cp ch w p i) := fun i hi => (h i hi).2.1
  have hm : ∀ i, i < ct cn w p → ∀ x, x ∈ cw i → x < 20000 := fun i hi => (h i hi).2.2
  have hs : w = 8 ∨ w = 24 ∨ sm (fun i => lf (cp ch w p i)) (ct cn w p) ≤ lf p := by
    by_cases h8 : w = 8 ∨ w = 24
    · rcases h8 with z | z
      · exact Or.inl z
      · exact Or.inr (Or.inl z)
    · exact Or.inr (Or.inr (sm_cp W hp hw h8))
  have two : ct cn w p = 2 → cas (opL (cw 0)) + cas (opL (cw 1)) + 1 ≤ lf p := fun z => by
    have a := hc 0 (by omega)
    have b := hc 1 (by omega)
    have n8 : ¬ w = 8 ∧ ¬ w = 24 := ⟨fun y => by rw [y] at z; exact absurd (show (1 : Nat) = 2 from z) (by decide), fun y => by rw [y] at z; exact absurd (show (1 : Nat) = 2 from z) (by decide)⟩
    have s := (hs.resolve_left n8.1).resolve_left n8.2
    rw [z] at s
    have s : 0 + lf (cp ch w p 0) + lf (cp ch w p 1) ≤ lf p := s
    omega
  have mcat : ∀ x, x ∈ cat cw (ct cn w p) → x < 20000 := fun x hx => by
    obtain ⟨i, a, b⟩ := cat_mem _ hx
    exact hm i a x b
  unfold wds
  by_cases z1 : rul w = 1
  · rw [if_pos z1]
    have k4 : kd p ≤ 4 := by have := rul_1 z1; unfold wok at hw; omega
    have e : opL [1000 * kd p + ar p] = [nI (kd p)] := by rw [opL_1, show (1000 * kd p + ar p) / 1000 = kd p by omega]
    refine ⟨by rw [e]; exact (bal_leaf k1 k4).1, by rw [e, (bal_leaf k1 k4).2]; omega, fun x hx => ?_⟩
    rw [List.mem_singleton.mp hx]
    omega
  rw [if_neg z1]
  by_cases z3 : rul w = 3
  · rw [if_pos z3]
    have e24 := rul_3 z3
    have c1 : ct cn w p = 1 := by rw [e24]; rfl
    have c0 := hc 0 (by omega)
    have e0 : cp ch w p 0 = p := if_pos (Or.inr e24)
    rw [e0] at c0
    rw [c1, cat_1]
    refine ⟨by rw [opL_app]; exact bal_p (hb 0 (by omega)) (by decide) (by decide) (by decide) (by decide), ?_, fun x hx => ?_⟩
    · rw [opL_app, cas_app, show cas (opL [5000]) = 0 by decide]; omega
    · rcases List.mem_append.mp hx with hx | hx
      · exact hm 0 (by omega) x hx
      · rw [List.mem_singleton.mp hx]; decide
  rw [if_neg z3]
  by_cases z4 : rul w = 4
  · rw [if_pos z4]
    have w4 := rul_4 z4
    have k5 : 5 ≤ kd p := by unfold wok at hw; omega
    have hk := ck_678 ⟨k5, k7⟩
    have s := (hs.resolve_left (by omega)).resolve_left (by omega)
    have c : ct cn w p = cn p := by rcases w4 with rfl | rfl | rfl <;> rfl
    have n2 := (kb k5).1
    have ca := asd_cas hk (ct cn w p) hc
    rw [if_neg (by omega)] at ca
    have mem : ∀ n, n ≤ ct cn w p → ∀ x, x ∈ asd cw (1000 * ck (kd p)) n → x < 20000 := by
      intro n
      induction n with
      | zero => intro _ x hx; exact absurd hx List.not_mem_nil
      | succ n ih =>
        intro hn x hx
        have hx : x ∈ asd cw (1000 * ck (kd p)) n ++ (if n = 0 then cw 0 else [10000] ++ cw n ++ [11000] ++ [1000 * ck (kd p)]) := hx
        rcases List.mem_append.mp hx with hx | hx
        · exact ih (by omega) x hx
        · by_cases z : n = 0
          · rw [if_pos z] at hx; exact hm 0 (by omega) x hx
          · rw [if_neg z] at hx
            simp only [List.mem_append, List.mem_singleton] at hx
            rcases hx with ((hx | hx) | hx) | hx
            · omega
            · exact hm n (by omega) x hx
            · omega
            · omega
    by_cases z7 : w = 7
    · rw [if_pos z7]
      have e : opL [9000 + ar p] = [nI 9] := by rw [opL_1, show (9000 + ar p) / 1000 = 9 by omega]
      refine ⟨by rw [opL_app, e]; exact bal_p (asd_bal hk _ hb) (by decide) (by decide) (by decide) (by decide), by rw [opL_app, cas_app, e, cas_9]; omega, fun x hx => ?_⟩
      rcases List.mem_append.mp hx with hx | hx
      · exact mem _ (Nat.le_refl _) x hx
      · rw [List.mem_singleton.mp hx]; omega
    · rw [if_neg z7, List.append_nil]
      exact ⟨asd_bal hk _ hb, by omega, mem _ (Nat.le_refl _)⟩
  rw [if_neg z4]
  have m2 : ∀ {A B C : List Nat} {x : Nat}, ct cn w p = 2 → (∀ x, x ∈ A → x < 20000) → (∀ x, x ∈ B → x < 20000) → (∀ x, x ∈ C → x < 20000) → x ∈ A ++ cw 0 ++ B ++ cw 1 ++ C → x < 20000 := fun {A B C x} z a b c hx => by
    simp only [List.mem_append] at hx
    rcases hx with (((hx | hx) | hx) | hx) | hx
    · exact a x hx
    · exact hm 0 (by omega) x hx
    · exact b x hx
    · exact hm 1 (by omega) x hx
    · exact c x hx
  by_cases z5 : rul w = 5
  · have c := ct_2 (cn := cn) (p := p) (Or.inl z5)
    have t := two c
    rw [if_pos z5]
    refine ⟨by simp only [opL_app]; exact bal_if (hb 0 (by omega)) (hb 1 (by omega)), ?_, fun x hx => m2 c (by decide) (by decide) (by decide) hx⟩
    simp only [opL_app, cas_app]
    have e1 : cas (opL [12000]) = 0 := by decide
    have e2 : cas (opL [13000]) = 0 := by decide
    have e3 : cas (opL [14000]) = 0 := by decide
    rw [e1, e2, e3]; omega
  rw [if_neg z5]
  by_cases z6 : rul w = 6
  · have c := ct_1 (cn := cn) (p := p) z6
    have c0 := hc 0 (by omega)
    have e8 : w = 8 := by
      unfold rul at z6
      repeat' split at z6
      all_goals omega
    have e0 : cp ch w p 0 = p := if_pos (Or.inl e8)
    rw [e0] at c0
    rw [if_pos z6]
    refine ⟨by simp only [opL_app]; exact bal_zero (hb 0 (by omega)), ?_, fun x hx => ?_⟩
    · simp only [opL_app, cas_app]
      have e1 : cas (opL [12000]) = 0 := by decide
      have e2 : cas (opL [13000]) = 0 := by decide
      have e3 : cas (opL [14000]) = 0 := by decide
      have e4 : cas (opL [17000]) = 0 := by decide
      rw [e1, e2, e3, e4]; omega
    · simp only [List.mem_append, List.mem_singleton] at hx
      rcases hx with (((hx | hx) | hx) | hx) | hx
      · omega
      · exact hm 0 (by omega) x hx
      · omega
      · omega
      · omega
  rw [if_neg z6]
  by_cases z7 : rul w = 7
  · have c := ct_2 (cn := cn) (p := p) (Or.inr (Or.inl z7))
    have t := two c
    rw [if_pos z7]
    refine ⟨by simp only [opL_app]; exact bal_twice (hb 0 (by omega)) (hb 1 (by omega)), ?_, fun x hx => ?_⟩
    · simp only [opL_app, cas_app]
      have e1 : cas (opL [16000]) = 0 := by decide
      have e2 : cas (opL [15000]) = 0 := by decide
      have e3 : cas (opL [14000]) = 0 := by decide
      rw [e1, e2, e3]; omega
    · simp only [List.mem_append, List.mem_singleton] at hx
      rcases hx with (((hx | hx) | hx) | hx) | hx
      · exact hm 0 (by omega) x hx
      · omega
      · omega
      · exact hm 1 (by omega) x hx
      · omega
  rw [if_neg z7]
  by_cases z8 : rul w = 8
  · have c := ct_2 (cn := cn) (p := p) (Or.inr (Or.inr z8))
    have t := two c
    rw [if_pos z8]
    refine ⟨by simp only [opL_app]; exact bal_un (hb 0 (by omega)) (hb 1 (by omega)), ?_, fun x hx => ?_⟩
    · simp only [opL_app, cas_app]
      have e2 : cas (opL [15000]) = 0 := by decide
      have e3 : cas (opL [14000]) = 0 := by decide
      rw [e2, e3]; omega
    · simp only [List.mem_append, List.mem_singleton] at hx
      rcases hx with ((hx | hx) | hx) | hx
      · exact hm 0 (by omega) x hx
      · omega
      · exact hm 1 (by omega) x hx
      · omega
  rw [if_neg z8]
  have rr := rul_r w
  have w2 := rul_2 (show rul w = 2 by omega)
  have s := (hs.resolve_left (by omega)).resolve_left (by omega)
  have cc := cat_cas (ct cn w p) hc
  have n1 : 1 ≤ ct cn w p := by
    rcases ct_cn W hp hw (by omega) with ⟨-, e, -⟩ | ⟨e, e2, -⟩
    · omega
    · omega
  exact ⟨cat_bal _ hb, by omega, mcat⟩
end XBal
theorem Wd_ok {M : Nat} {kd ar cn lf : Nat → Nat} {ch : Nat → Nat → Nat} {Y : Nat → Nat → Nat × Nat × Nat} {R : Nat → List Nat} (W : tW M kd ar cn lf ch) (F : ∀ q, q < M → xF kd ar cn ch Y R q) : ∀ (n q j : Nat), dpt M q j ≤ n → q < M → j < 3 → okW (lf q) (Wd kd ar cn ch Y q j) := by
  intro n
  induction n with
  | zero => intro q j h hq; unfold dpt at h; omega
  | succ n ih =>
    intro q j h hq hj
    rw [Wd_fix W F hq hj]
    exact wds_ok W hq ((F q hq).way W hq hj).2.1 (fun i hi => by
      obtain ⟨a, b⟩ := dpt_lt W F hq hj hi
      exact ih _ _ (by omega) a (cj_lt _ _ _ _))
theorem ol_rg {u : ab_S} : ∀ (ws : List Nat) (k : Nat), (∀ i, i < ws.length → u.1 18 9 (k + i) = nI (ws.getD i 0)) → (∀ x, x ∈ ws → x < 20000) → ol u k ws.length = opL ws := by
  intro ws
  induction ws with
  | nil => intro k _ _; rfl
  | cons a ws ih =>
    intro k h hb
    have h0 : u.1 18 9 (k + 0) = nI a := h 0 (Nat.succ_pos _)
    have e : opv u k = nI (a / 1000) := by
      unfold opv
      rw [Nat.add_zero] at h0
      rw [h0]
      exact pk_div (d := 1000) (Nat.lt_trans (hb a List.mem_cons_self) (by decide)) (by decide) (by decide)
    show opv u k :: ol u (k + 1) ws.length = nI (a / 1000) :: opL ws
    rw [e, ih (k + 1) (fun i hi => by
      have z := h (i + 1) (Nat.succ_lt_succ hi)
      rw [show k + (i + 1) = k + 1 + i by omega] at z
      exact z) (fun x hx => hb x (List.mem_cons_of_mem _ hx))]
/-- the reference's forms from lo on: way, words, weight, refusal's weight, and the words themselves -/
def mX (M : Nat) (kd ar cn : Nat → Nat) (ch : Nat → Nat → Nat) (Y : Nat → Nat → Nat × Nat × Nat) (R : Nat → List Nat) (lo : Nat) (u : ab_S) : Prop := ∀ q, lo ≤ q → q < M → m3 Y R u q ∧ ∀ j, j < 3 → u.1 18 5 (3 * q + j) = nI (Y q j).1 ∧ rg u (3 * q + j) (Wd kd ar cn ch Y q j)
theorem wok_wv {k a n j w : Nat} (h : wok k a n j w) : wv k j w ∧ (j = 1 → w ≤ 8) := by
  rcases h with ⟨rfl, a, b⟩ | ⟨rfl, a, b⟩ | ⟨rfl, a, b⟩ | ⟨rfl | rfl, a, b⟩ | ⟨rfl, a, b⟩ | ⟨rfl | rfl | rfl, a, b⟩ | ⟨rfl | rfl | rfl | rfl, a, b⟩ | ⟨rfl, a, b⟩ | ⟨rfl, a, b⟩ | ⟨rfl, a⟩ | ⟨rfl, a, b⟩ | ⟨rfl | rfl, a, b⟩ | ⟨rfl, a⟩ <;> unfold wv <;> omega
theorem mX.fv {M : Nat} {kd ar cn lf : Nat → Nat} {ch : Nat → Nat → Nat} {Y : Nat → Nat → Nat × Nat × Nat} {R : Nat → List Nat} {lo : Nat} {u : ab_S} (h : mX M kd ar cn ch Y R lo u) (W : tW M kd ar cn lf ch) (F : ∀ q, q < M → xF kd ar cn ch Y R q) : fV M kd lf lo u := fun q a b j hj => by
  obtain ⟨-, h2⟩ := h q a b
  obtain ⟨h5, h6, h7, h8⟩ := h2 j hj
  have hw := ((F q b).way W b hj).2.1
  have hB := (xf_b W F (M - q) q (by omega) b).1 j hj
  have hl := (Wd_len W F _ q j (Nat.le_refl _) b hj).1
  have l1 := (W.2.2 q b).1
  obtain ⟨o1, o2, o3⟩ := Wd_ok W F _ q j (Nat.le_refl _) b hj
  have e := lnu_of h6 (by omega)
  have eo := ol_rg _ (100 * (3 * q + j)) h8 o3
  refine ⟨⟨⟨by rw [e]; exact h6, by rw [e, hl]; exact hB.1, by rw [e]; exact h7⟩, by rw [e, eo]; exact o1, by rw [e, eo]; omega⟩, by rw [e, hl]; exact hB.2.1, _, h5, wok_wv hw⟩

