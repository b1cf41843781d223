/-! The lightest row that satisfies a form: one account for both sides. -/
def lxl : List Nat → List Nat → Bool
  | _, [] => false
  | [], _ :: _ => true
  | x :: xs, y :: ys => if x = y then lxl xs ys else decide (x < y)
/-- lighter, or as heavy and first in order -/
def les (xs ys : List Nat) : Bool := if wgt xs = wgt ys then lxl xs ys else decide (wgt xs < wgt ys)
def bet (o c : Option (List Nat)) : Option (List Nat) :=
  match c with
  | none => o
  | some xs => match o with
    | none => some xs
    | some ys => if les xs ys = true then some xs else some ys
def jn (o c : Option (List Nat)) : Option (List Nat) :=
  match o with
  | none => none
  | some a => match c with
    | none => none
    | some b => some (a ++ b)
def jns (a b : Nat → Option (List Nat)) (c : Nat) : Nat → Option (List Nat)
  | 0 => some []
  | i + 1 => jn (jns a b c i) (if c / 2 ^ i % 2 = 1 then a i else b i)
def bts (nd n : Nat) (a b : Nat → Option (List Nat)) : Nat → Option (List Nat)
  | 0 => none
  | c + 1 => if pcn c = nd then bet (bts nd n a b c) (jns a b c n) else bts nd n a b c
def svm (r n nd : Nat) (o : Option (List Nat)) (a b : Nat → Option (List Nat)) : Option (List Nat) :=
  if r = 1 then o
  else if r = 5 then bet (jn (some [1]) (a 0)) (jn (some [0]) (a 1))
  else if r = 6 then jn (some [1]) (a 0)
  else if r = 7 ∨ r = 8 then bet (a 0) (jn (b 0) (a 1))
  else bts nd n a b (2 ^ n)
def lit (k a : Nat) : List Nat := if k = 1 then [10 + a] else if k = 2 then [20 + a] else []
def slf (kd ar : Nat → Nat) (a1 a2 a3 a4 : Int32) (p : Nat) : Option (List Nat) := if hl (nI (kd p)) (nI (ar p)) a1 a2 a3 a4 = 0 then none else some (lit (kd p) (ar p))
/-- what a way's lightest row is, out of those of the forms in it -/
def svF (kd ar cn : Nat → Nat) (ch : Nat → Nat → Nat) (R : Nat → List Nat) (H : Nat → Option (List Nat)) (S : Nat → Nat → Option (List Nat)) (p w : Nat) : Option (List Nat) := svm (rul w) (ct cn w p) (ned kd ar cn w p) (H p) (fun i => S (cp ch w p i) (cj cn w p i)) (fun i => some (R (cp ch w p i)))
def svf (kd ar cn : Nat → Nat) (ch : Nat → Nat → Nat) (Y : Nat → Nat → Nat × Nat × Nat) (R : Nat → List Nat) (H : Nat → Option (List Nat)) : Nat → Nat → Nat → Option (List Nat)
  | 0 => fun _ _ => none
  | n + 1 => fun q j => svF kd ar cn ch R H (svf kd ar cn ch Y R H n) q (Y q j).1
abbrev SV (kd ar cn : Nat → Nat) (ch : Nat → Nat → Nat) (Y : Nat → Nat → Nat × Nat × Nat) (R : Nat → List Nat) (H : Nat → Option (List Nat)) : Nat → Nat → Option (List Nat) := svf kd ar cn ch Y R H 40
theorem jns_cong {a a' b b' : Nat → Option (List Nat)} {c : Nat} : ∀ n, (∀ i, i < n → a i = a' i) → (∀ i, i < n → b i = b' i) → jns a b c n = jns a' b' c n := by
  intro n
  induction n with
  | zero => intro _ _; rfl
  | succ n ih =>
    intro h g
    show jn (jns a b c n) _ = jn (jns a' b' c n) _
    rw [ih (fun i hi => h i (by omega)) (fun i hi => g i (by omega)), h n (by omega), g n (by omega)]
theorem bts_cong {nd n : Nat} {a a' b b' : Nat → Option (List Nat)} (h : ∀ i, i < n → a i = a' i) (g : ∀ i, i < n → b i = b' i) : ∀ k, bts nd n a b k = bts nd n a' b' k := by
  intro k
  induction k with
  | zero => rfl
  | succ k ih =>
    show (if pcn k = nd then bet (bts nd n a b k) (jns a b k n) else bts nd n a b k) = (if pcn k = nd then bet (bts nd n a' b' k) (jns a' b' k n) else bts nd n a' b' k)
    rw [ih, jns_cong n h g]
theorem svF_cong {kd ar cn : Nat → Nat} {ch : Nat → Nat → Nat} {R : Nat → List Nat} {H : Nat → Option (List Nat)} {S S' : Nat → Nat → Option (List Nat)} {p w : Nat} (h : ∀ i, i < ct cn w p → S (cp ch w p i) (cj cn w p i) = S' (cp ch w p i) (cj cn w p i)) : svF kd ar cn ch R H S p w = svF kd ar cn ch R H S' p w := by
  unfold svF svm
  by_cases z1 : rul w = 1
  · rw [if_pos z1, if_pos z1]
  rw [if_neg z1, if_neg z1]
  by_cases z5 : rul w = 5
  · have c := ct_2 (cn := cn) (p := p) (Or.inl z5)
    have e0 := h 0 (by omega)
    have e1 := h 1 (by omega)
    rw [if_pos z5, if_pos z5]
    dsimp only
    rw [e0, e1]
  rw [if_neg z5, if_neg z5]
  by_cases z6 : rul w = 6
  · have c := ct_1 (cn := cn) (p := p) z6
    have e0 := h 0 (by omega)
    rw [if_pos z6, if_pos z6]
    dsimp only
    rw [e0]
  rw [if_neg z6, if_neg z6]
  by_cases z7 : rul w = 7 ∨ rul w = 8
  · have c := ct_2 (cn := cn) (p := p) (Or.inr z7)
    have e0 := h 0 (by omega)
    have e1 := h 1 (by omega)
    rw [if_pos z7, if_pos z7]
    dsimp only
    rw [e0, e1]
  rw [if_neg z7, if_neg z7]
  exact bts_cong h (fun _ _ => rfl) _
section XSv
variable {M : Nat} {kd ar cn lf : Nat → Nat} {ch : Nat → Nat → Nat} {Y : Nat → Nat → Nat × Nat × Nat} {R : Nat → List Nat} {H : Nat → Option (List Nat)}
theorem svf_st (W : tW M kd ar cn lf ch) (F : ∀ q, q < M → xF kd ar cn ch Y R q) : ∀ (n n' q j : Nat), q < M → j < 3 → dpt M q j ≤ n → dpt M q j ≤ n' → svf kd ar cn ch Y R H n q j = svf kd ar cn ch Y R H n' q j := by
  intro n
  induction n with
  | zero => intro n' q j hq hj h; unfold dpt at h; omega
  | succ n ih =>
    intro n' q j hq hj h h'
    obtain ⟨m, rfl⟩ : ∃ m, n' = m + 1 := ⟨n' - 1, by unfold dpt at h'; omega⟩
    refine svF_cong (fun i hi => ?_)
    obtain ⟨a, b⟩ := dpt_lt W F hq hj hi
    exact ih m _ _ a (cj_lt _ _ _ _) (by omega) (by omega)
theorem SV_fix (W : tW M kd ar cn lf ch) (F : ∀ q, q < M → xF kd ar cn ch Y R q) {q j : Nat} (hq : q < M) (hj : j < 3) : SV kd ar cn ch Y R H q j = svF kd ar cn ch R H (SV kd ar cn ch Y R H) q (Y q j).1 := by
  have hM := W.2.1
  refine (svf_st W F 40 41 q j hq hj ?_ ?_).trans rfl
  · unfold dpt; split <;> omega
  · unfold dpt; split <;> omega
/-- an item of a row -/
def itm (x : Nat) : Prop := x < 2 ∨ (10 ≤ x ∧ x < 1020)
def oB (n : Nat) (o : Option (List Nat)) : Prop := ∀ xs, o = some xs → xs.length ≤ n ∧ ∀ x, x ∈ xs → itm x
theorem oB.wk {m n : Nat} {o : Option (List Nat)} (h : oB m o) (k : m ≤ n) : oB n o := fun xs e => ⟨Nat.le_trans (h xs e).1 k, (h xs e).2⟩
theorem oB.none {n : Nat} : oB n none := fun xs e => by cases e
theorem oB.some {n : Nat} {xs : List Nat} (h : xs.length ≤ n) (k : ∀ x, x ∈ xs → itm x) : oB n (some xs) := fun ys e => by cases e; exact ⟨h, k⟩
theorem oB.betB {n : Nat} {o c : Option (List Nat)} (h : oB n o) (g : oB n c) : oB n (bet o c) := by
  cases c with
  | none => exact h
  | some xs =>
    cases o with
    | none => exact g
    | some ys =>
      show oB n (if les xs ys = true then Option.some xs else Option.some ys)
      by_cases z : les xs ys = true
      · rw [if_pos z]; exact g
      · rw [if_neg z]; exact h
theorem oB.jnB {m n : Nat} {o c : Option (List Nat)} (h : oB m o) (g : oB n c) : oB (m + n) (jn o c) := by
  cases o with
  | none => exact oB.none
  | some a =>
    cases c with
    | none => exact oB.none
    | some b =>
      obtain ⟨h1, h2⟩ := h a rfl
      obtain ⟨g1, g2⟩ := g b rfl
      refine oB.some (xs := a ++ b) ?_ (fun x hx => ?_)
      · rw [List.length_append]; omega
      · rcases List.mem_append.mp hx with z | z
        · exact h2 x z
        · exact g2 x z
theorem oB.jnsB {a b : Nat → Option (List Nat)} {f : Nat → Nat} {c : Nat} : ∀ n, (∀ i, i < n → oB (f i) (a i) ∧ oB (f i) (b i)) → oB (sm f n) (jns a b c n) := by
  intro n
  induction n with
  | zero => intro _; exact oB.some (Nat.le_refl _) (fun x hx => by cases hx)
  | succ n ih =>
    intro h
    refine oB.jnB (ih (fun i hi => h i (by omega))) ?_
    split
    · exact (h n (by omega)).1
    · exact (h n (by omega)).2
theorem oB.btsB {nd n m : Nat} {a b : Nat → Option (List Nat)} (h : ∀ c, oB m (jns a b c n)) : ∀ k, oB m (bts nd n a b k) := by
  intro k
  induction k with
  | zero => exact oB.none
  | succ k ih =>
    show oB m (if pcn k = nd then bet (bts nd n a b k) (jns a b k n) else bts nd n a b k)
    split
    · exact oB.betB ih (h k)
    · exact ih
theorem slf_B {a1 a2 a3 a4 : Int32} {p : Nat} (har : ar p ≤ 999) : oB 1 (slf kd ar a1 a2 a3 a4 p) := by
  unfold slf
  split
  · exact oB.none
  · unfold lit
    split
    · exact oB.some (Nat.le_refl _) (fun x hx => by rw [List.mem_singleton] at hx; unfold itm; omega)
    · split
      · exact oB.some (Nat.le_refl _) (fun x hx => by rw [List.mem_singleton] at hx; unfold itm; omega)
      · exact oB.some (Nat.zero_le _) (fun x hx => by cases hx)
theorem SV_B (W : tW M kd ar cn lf ch) (F : ∀ q, q < M → xF kd ar cn ch Y R q) (hB : ∀ q, q < M → xB lf Y R q) (hH : ∀ q, q < M → oB 1 (H q)) : ∀ (n q j : Nat), dpt M q j ≤ n → q < M → j < 3 → oB (4 * lf q - 3 + (if j = 0 then 0 else 1)) (SV kd ar cn ch Y R H q j) := by
  intro n
  induction n with
  | zero => intro q j h hq; unfold dpt at h; omega
  | succ n ih =>
    intro q j h hq hj
    obtain ⟨-, hw, -⟩ := (F q hq).way W hq hj
    have l1 := (W.2.2 q hq).1.1
    have hk : ∀ i, i < ct cn (Y q j).1 q → oB (4 * lf (cp ch (Y q j).1 q i) - 3 + (if cj cn (Y q j).1 q i = 0 then 0 else 1)) (SV kd ar cn ch Y R H (cp ch (Y q j).1 q i) (cj cn (Y q j).1 q i)) := fun i hi => by
      obtain ⟨a, b⟩ := dpt_lt W F hq hj hi
      exact ih _ _ (by omega) a (cj_lt _ _ _ _)
    have hR : ∀ c, c < M → oB (2 * lf c - 1) (some (R c)) := fun c hc => oB.some (by have := (hB c hc).2.1; omega) (fun x hx => Or.inl (by rcases (hB c hc).2.2.2 x hx with z | z <;> omega))
    have ite1 : ∀ x : Nat, (if x = 0 then 0 else 1) ≤ 1 := fun x => by split <;> decide
    rw [SV_fix W F hq hj]
    unfold svF svm
    by_cases h8 : (Y q j).1 = 8 ∨ (Y q j).1 = 24
    · have c : ct cn (Y q j).1 q = 1 := by rcases h8 with e | e <;> rw [e] <;> rfl
      have i0 := hk 0 (by omega)
      rcases cp_in W hq hw (i := 0) (by omega) with ⟨-, e1, e2, e3, -⟩ | ⟨z, -⟩
      · rw [e1, e2, if_pos rfl] at i0
        have r0 := hR q hq
        rw [if_neg (show ¬ j = 0 by omega)]
        rcases h8 with e | e
        · have r6 : rul (Y q j).1 = 6 := by rw [e]; rfl
          rw [if_neg (by omega), if_neg (by omega), if_pos r6]
          dsimp only
          rw [e1, e2]
          exact (oB.jnB (oB.some (n := 1) (Nat.le_refl _) (fun x hx => by rw [List.mem_singleton] at hx; exact Or.inl (by omega))) i0).wk (by omega)
        · have r3 : rul (Y q j).1 = 3 := by rw [e]; rfl
          rw [if_neg (by omega), if_neg (by omega), if_neg (by omega), if_neg (by omega)]
          refine oB.btsB (fun cc => ?_) _
          have z : oB (sm (fun _ => 4 * lf q - 3 + 0) 1) (jns (fun i => SV kd ar cn ch Y R H (cp ch (Y q j).1 q i) (cj cn (Y q j).1 q i)) (fun i => some (R (cp ch (Y q j).1 q i))) cc 1) := oB.jnsB 1 (fun i hi => by
            obtain rfl : i = 0 := by omega
            show oB _ (SV kd ar cn ch Y R H (cp ch (Y q j).1 q 0) (cj cn (Y q j).1 q 0)) ∧ oB _ (some (R (cp ch (Y q j).1 q 0)))
            rw [e1, e2]
            exact ⟨i0, r0.wk (by omega)⟩)
          rw [c]
          exact z.wk (show 0 + (4 * lf q - 3 + 0) ≤ _ by omega)
      · exact absurd h8 z
    · have hk2 : ∀ i, i < ct cn (Y q j).1 q → 1 ≤ lf (cp ch (Y q j).1 q i) ∧ oB (4 * lf (cp ch (Y q j).1 q i) - 2) (SV kd ar cn ch Y R H (cp ch (Y q j).1 q i) (cj cn (Y q j).1 q i)) ∧ oB (2 * lf (cp ch (Y q j).1 q i) - 1) (some (R (cp ch (Y q j).1 q i))) := fun i hi => by
        have cM := (dpt_lt W F hq hj hi).1
        have := (W.2.2 _ cM).1.1
        have := ite1 (cj cn (Y q j).1 q i)
        exact ⟨by omega, (hk i hi).wk (by omega), hR _ cM⟩
      have z2 := sm_cp W hq hw h8
      by_cases z1 : rul (Y q j).1 = 1
      · rw [if_pos z1]; exact (hH q hq).wk (by omega)
      rw [if_neg z1]
      have two : ct cn (Y q j).1 q = 2 → lf (cp ch (Y q j).1 q 0) + lf (cp ch (Y q j).1 q 1) ≤ lf q := fun c => by
        rw [c] at z2
        have z2 : 0 + lf (cp ch (Y q j).1 q 0) + lf (cp ch (Y q j).1 q 1) ≤ lf q := z2
        omega
      by_cases z5 : rul (Y q j).1 = 5
      · have c := ct_2 (cn := cn) (p := q) (Or.inl z5)
        have k0 := hk2 0 (by omega)
        have k1 := hk2 1 (by omega)
        have t := two c
        rw [if_pos z5]
        refine oB.betB ?_ ?_
        · exact (oB.jnB (oB.some (n := 1) (Nat.le_refl _) (fun x hx => by rw [List.mem_singleton] at hx; exact Or.inl (by omega))) k0.2.1).wk (by omega)
        · exact (oB.jnB (oB.some (n := 1) (Nat.le_refl _) (fun x hx => by rw [List.mem_singleton] at hx; exact Or.inl (by omega))) k1.2.1).wk (by omega)
      rw [if_neg z5]
      by_cases z6 : rul (Y q j).1 = 6
      · exfalso
        have c := ct_1 (cn := cn) (p := q) z6
        rcases ct_cn W hq hw h8 with ⟨e, -⟩ | ⟨e, n2, -⟩ <;> omega
      rw [if_neg z6]
      by_cases z7 : rul (Y q j).1 = 7 ∨ rul (Y q j).1 = 8
      · have c := ct_2 (cn := cn) (p := q) (Or.inr z7)
        have k0 := hk2 0 (by omega)
        have k1 := hk2 1 (by omega)
        have t := two c
        rw [if_pos z7]
        exact oB.betB (k0.2.1.wk (by omega)) ((oB.jnB k0.2.2 k1.2.1).wk (by omega))
      rw [if_neg z7]
      rcases ct_cn W hq hw h8 with ⟨-, e, -⟩ | ⟨e, n2, -⟩
      · exact absurd e z1
      · refine oB.btsB (fun cc => ?_) _
        have z := sm_lnn (a := fun i => 4 * lf (cp ch (Y q j).1 q i) - 2) (g := fun i => lf (cp ch (Y q j).1 q i)) (k := 4) (r := 2) (ct cn (Y q j).1 q) (fun i hi => by
          have := (hk2 i hi).1
          show 4 * lf (cp ch (Y q j).1 q i) - 2 + 2 ≤ 4 * lf (cp ch (Y q j).1 q i)
          omega)
        refine oB.wk (oB.jnsB (f := fun i => 4 * lf (cp ch (Y q j).1 q i) - 2) _ (fun i hi => ⟨(hk2 i hi).2.1, (hk2 i hi).2.2.wk (by have := (hk2 i hi).1; omega)⟩)) ?_
        omega
/-- the forms of a script: what is in a form stands before it -/
def clo (M : Nat) (cn : Nat → Nat) (ch : Nat → Nat → Nat) (Y : Nat → Nat → Nat × Nat × Nat) (L : List Nat) : Prop := ∀ (a : List Nat) (f : Nat) (b : List Nat), L = a ++ f :: b → ∃ q j, q < M ∧ j < 3 ∧ f = 3 * (q + 1) + j ∧ ∀ i, i < ct cn (Y q j).1 q → 3 * (cp ch (Y q j).1 q i + 1) + cj cn (Y q j).1 q i ∈ a
theorem clo.app {L L' : List Nat} (h : clo M cn ch Y L) (g : clo M cn ch Y L') : clo M cn ch Y (L ++ L') := fun a f b e => by
  rcases List.append_eq_append_iff.mp e with ⟨c, e1, e2⟩ | ⟨c, e1, e2⟩
  · obtain ⟨q, j, x1, x2, x3, x4⟩ := g c f b e2
    exact ⟨q, j, x1, x2, x3, fun i hi => by rw [e1]; exact List.mem_append_right _ (x4 i hi)⟩
  · cases c with
    | nil =>
      obtain ⟨q, j, x1, x2, x3, x4⟩ := g [] f b e2.symm
      exact ⟨q, j, x1, x2, x3, fun i hi => absurd (x4 i hi) (fun z => by cases z)⟩
    | cons y c =>
      injection e2 with e3 e4
      subst e3
      exact h a _ c e1
theorem clo.snoc {L : List Nat} {q j : Nat} (h : clo M cn ch Y L) (hq : q < M) (hj : j < 3) (k : ∀ i, i < ct cn (Y q j).1 q → 3 * (cp ch (Y q j).1 q i + 1) + cj cn (Y q j).1 q i ∈ L) : clo M cn ch Y (L ++ [3 * (q + 1) + j]) := fun a f b e => by
  rcases List.append_eq_append_iff.mp e with ⟨c, e1, e2⟩ | ⟨c, e1, e2⟩
  · cases c with
    | nil =>
      injection e2 with e3 e4
      exact ⟨q, j, hq, hj, e3.symm, fun i hi => by rw [e1]; exact List.mem_append_left _ (k i hi)⟩
    | cons y c =>
      injection e2 with e3 e4
      cases c <;> cases e4
  · cases c with
    | nil =>
      injection e2 with e3 e4
      rw [List.append_nil] at e1
      exact ⟨q, j, hq, hj, e3, fun i hi => by rw [← e1]; exact k i hi⟩
    | cons y c =>
      injection e2 with e3 e4
      subst e3
      exact h a _ c e1
theorem clo.nil : clo M cn ch Y [] := fun a f b e => by
  cases a <;> cases e
theorem clo.cat {f : Nat → List Nat} : ∀ n, (∀ i, i < n → clo M cn ch Y (f i)) → clo M cn ch Y (cat f n) := by
  intro n
  induction n with
  | zero => intro _; exact clo.nil
  | succ n ih => exact fun h => clo.app (ih (fun i hi => h i (by omega))) (h n (by omega))
theorem mem_cat {f : Nat → List Nat} {x i : Nat} : ∀ n, i < n → x ∈ f i → x ∈ cat f n := by
  intro n
  induction n with
  | zero => intro h; exact absurd h (Nat.not_lt_zero _)
  | succ n ih =>
    intro h hx
    by_cases z : i = n
    · subst z; exact List.mem_append_right _ hx
    · exact List.mem_append_left _ (ih (by omega) hx)
theorem Fl_clo (W : tW M kd ar cn lf ch) (F : ∀ q, q < M → xF kd ar cn ch Y R q) : ∀ (n q j : Nat), dpt M q j ≤ n → q < M → j < 3 → clo M cn ch Y (Fl cn ch Y q j) ∧ 3 * (q + 1) + j ∈ Fl cn ch Y q j := by
  intro n
  induction n with
  | zero => intro q j h hq; unfold dpt at h; omega
  | succ n ih =>
    intro q j h hq hj
    have IH : ∀ i, i < ct cn (Y q j).1 q → clo M cn ch Y (Fl cn ch Y (cp ch (Y q j).1 q i) (cj cn (Y q j).1 q i)) ∧ 3 * (cp ch (Y q j).1 q i + 1) + cj cn (Y q j).1 q i ∈ Fl cn ch Y (cp ch (Y q j).1 q i) (cj cn (Y q j).1 q i) := fun i hi => by
      obtain ⟨a, b⟩ := dpt_lt W F hq hj hi
      exact ih _ _ (by omega) a (cj_lt _ _ _ _)
    rw [Fl_fix W F hq hj]
    exact ⟨clo.snoc (clo.cat _ (fun i hi => (IH i hi).1)) hq hj (fun i hi => mem_cat (f := fun i => Fl cn ch Y (cp ch (Y q j).1 q i) (cj cn (Y q j).1 q i)) _ hi (IH i hi).2), List.mem_append_right _ List.mem_cons_self⟩
end XSv

