/-! The ways of saying a part: one account for both sides. X q j is a form's way, words and weight; R q what refuses its form D. -/
/-- the rule of a way -/
def rul (w : Nat) : Nat := if w = 1 ∨ w = 11 ∨ w = 12 then 1 else if w = 13 ∨ w = 14 ∨ w = 18 ∨ w = 21 then 2 else if w = 24 then 3 else if w = 2 ∨ w = 3 ∨ w = 7 then 4 else if w = 5 ∨ w = 6 ∨ w = 17 ∨ w = 23 then 5 else if w = 8 then 6 else if w = 22 then 8 else 7
/-- how many forms are in a way -/
def ct (cn : Nat → Nat) (w p : Nat) : Nat := if w = 1 ∨ w = 11 ∨ w = 12 then 0 else if w = 8 ∨ w = 24 then 1 else if w = 2 ∨ w = 3 ∨ w = 7 ∨ w = 18 then cn p else 2
/-- which: whose, and which of the three -/
def cp (ch : Nat → Nat → Nat) (w p i : Nat) : Nat := if w = 8 ∨ w = 24 then p else if w = 14 ∨ w = 16 then (if i = 0 then ch p 1 else ch p 0) else ch p i
def cj (cn : Nat → Nat) (w p i : Nat) : Nat := if w = 2 ∨ w = 3 ∨ w = 4 ∨ w = 7 then 1 else if w = 8 ∨ w = 24 ∨ w = 17 then 0 else if w = 21 ∨ w = 23 then 2 else if w = 5 ∨ w = 15 ∨ w = 16 then (if i = 0 then 1 else 0) else if w = 6 then (if i = 0 then 0 else 1) else if w = 13 ∨ w = 14 then (if i = 0 then 2 else 0) else if w = 22 then (if i = 0 then 1 else 2) else (if i + 1 < cn p then 2 else 0)
def cwm (r n s e : Nat) : Nat := if r = 1 then 1 else if r = 3 then s + 1 else if r = 4 then s + 3 * (n - 1) + e else if r = 5 then s + 3 else if r = 6 then s + 4 else if r = 7 then s + 3 else if r = 8 then s + 2 else s
/-- how many words a way says -/
def tL (cn : Nat → Nat) (ch L : Nat → Nat → Nat) (p w : Nat) : Nat := cwm (rul w) (ct cn w p) (sm (fun i => L (cp ch w p i) (cj cn w p i)) (ct cn w p)) (if w = 7 then 1 else 0)
/-- the greatest of the choices below a bound that have nd bits -/
def gm (nd : Nat) (s : Nat → Nat) : Nat → Nat
  | 0 => 0
  | c + 1 => if pcn c = nd ∧ gm nd s c < s c then s c else gm nd s c
def sel (a b : Nat → Nat) (n c : Nat) : Nat := sm (fun i => if c / 2 ^ i % 2 = 1 then a i else b i) n
def gwm (r n nd k : Nat) (a b : Nat → Nat) : Nat := if r = 1 then (if k = 1 then 9 else if k = 2 then 5 else 0) else if r = 4 then gm nd (sel a b n) (2 ^ n) else if r = 5 then 1 + max (a 0) (a 1) else if r = 6 then 1 + a 0 else if r = 7 ∨ r = 8 then max (a 0) (b 0 + a 1) else sm a n
/-- how heavy the heaviest witness of a way is -/
def tG (kd ar cn : Nat → Nat) (ch G : Nat → Nat → Nat) (R : Nat → List Nat) (p w : Nat) : Nat := gwm (rul w) (ct cn w p) (cnu (kd p) (ar p)) (kd p) (fun i => G (cp ch w p i) (cj cn w p i)) (fun i => (R (cp ch w p i)).length)
/-- the better of two -/
def pk (o : Option (Nat × Nat × Nat)) (w n g : Nat) : Option (Nat × Nat × Nat) :=
  match o with
  | none => some (w, n, g)
  | some t => if n < t.2.1 ∨ (n = t.2.1 ∧ g < t.2.2) then some (w, n, g) else some t
def pks (F H : Nat → Nat) (o : Option (Nat × Nat × Nat)) : List Nat → Option (Nat × Nat × Nat)
  | [] => o
  | w :: ws => pks F H (pk o w (F w) (H w)) ws
/-- the ways of a form, in the order of their trial -/
def wys (k a n j : Nat) : List Nat := if j = 0 then (if k = 1 then [1] else if k = 2 then [11] else if k < 5 then [12] else if k = 5 then [13, 14, 2] else if k = 6 then [15, 16, 17, 3, 4, 5, 6] else if a = n then [18, 7] else [7]) else if j = 1 then (if k = 1 then [1, 8] else if k < 5 then [8] else if k = 5 then [2, 8] else if k = 6 then [3, 4, 5, 6, 8] else [7, 8]) else (if k = 5 then [21, 24] else if k = 6 then [22, 23, 24] else [24])
def cat (f : Nat → List Nat) : Nat → List Nat
  | 0 => []
  | n + 1 => cat f n ++ f n
/-- what refuses a form D said in the way w -/
def rfS (cn : Nat → Nat) (ch : Nat → Nat → Nat) (R : Nat → List Nat) (p w : Nat) : List Nat := if w = 1 ∨ w = 8 then [0] else if w = 5 then 1 :: R (ch p 0) else if w = 6 then 0 :: R (ch p 1) else cat (fun i => R (ch p i)) (cn p)
abbrev xL (X : Nat → Nat → Nat × Nat × Nat) : Nat → Nat → Nat := fun c j => (X c j).2.1
abbrev xG (X : Nat → Nat → Nat × Nat × Nat) : Nat → Nat → Nat := fun c j => (X c j).2.2
def xF (kd ar cn : Nat → Nat) (ch : Nat → Nat → Nat) (X : Nat → Nat → Nat × Nat × Nat) (R : Nat → List Nat) (q : Nat) : Prop := (∀ j, j < 3 → some (X q j) = pks (tL cn ch (xL X) q) (tG kd ar cn ch (xG X) R q) none (wys (kd q) (ar q) (cn q) j)) ∧ R q = rfS cn ch R q (X q 1).1
section XP
variable {cn kd ar : Nat → Nat} {ch L L' G G' : Nat → Nat → Nat} {R R' : Nat → List Nat} {p w : Nat}
theorem ct_2 (h : rul w = 5 ∨ rul w = 7 ∨ rul w = 8) : ct cn w p = 2 := by
  unfold rul at h
  unfold ct
  by_cases h1 : w = 1 ∨ w = 11 ∨ w = 12
  · rw [if_pos h1] at h; omega
  · rw [if_neg h1] at h ⊢
    by_cases h2 : w = 8 ∨ w = 24
    · rcases h2 with rfl | rfl <;> simp at h
    · rw [if_neg h2]
      by_cases h3 : w = 2 ∨ w = 3 ∨ w = 7 ∨ w = 18
      · rcases h3 with rfl | rfl | rfl | rfl <;> simp at h
      · rw [if_neg h3]
theorem ct_1 (h : rul w = 6) : ct cn w p = 1 := by
  unfold rul at h
  unfold ct
  by_cases h1 : w = 1 ∨ w = 11 ∨ w = 12
  · rw [if_pos h1] at h; omega
  · rw [if_neg h1] at h ⊢
    by_cases h2 : w = 8 ∨ w = 24
    · rw [if_pos h2]
    · exfalso
      rw [if_neg (show ¬ w = 8 by omega)] at h
      repeat' split at h
      all_goals omega
theorem tL_cong (h : ∀ i, i < ct cn w p → L (cp ch w p i) (cj cn w p i) = L' (cp ch w p i) (cj cn w p i)) : tL cn ch L p w = tL cn ch L' p w := by
  unfold tL
  rw [sm_congr _ h]
theorem sel_cong {a b a' b' : Nat → Nat} {n : Nat} (ha : ∀ i, i < n → a i = a' i) (hb : ∀ i, i < n → b i = b' i) (c : Nat) : sel a b n c = sel a' b' n c := sm_congr _ (fun i hi => by rw [ha i hi, hb i hi])
theorem gm_cong {nd : Nat} {s s' : Nat → Nat} (h : ∀ c, s c = s' c) : ∀ k, gm nd s k = gm nd s' k := by
  intro k
  induction k with
  | zero => rfl
  | succ k ih =>
    show (if pcn k = nd ∧ gm nd s k < s k then s k else gm nd s k) = (if pcn k = nd ∧ gm nd s' k < s' k then s' k else gm nd s' k)
    rw [ih, h k]
theorem gwm_cong {r n nd k : Nat} {a b a' b' : Nat → Nat} (ha : ∀ i, i < n → a i = a' i) (hb : r = 4 ∨ r = 7 ∨ r = 8 → ∀ i, i < n → b i = b' i) (h2 : r = 5 ∨ r = 7 ∨ r = 8 → n = 2) (h1 : r = 6 → n = 1) : gwm r n nd k a b = gwm r n nd k a' b' := by
  unfold gwm
  by_cases z1 : r = 1
  · rw [if_pos z1, if_pos z1]
  rw [if_neg z1, if_neg z1]
  by_cases z4 : r = 4
  · rw [if_pos z4, if_pos z4]
    exact gm_cong (sel_cong ha (hb (Or.inl z4))) _
  rw [if_neg z4, if_neg z4]
  by_cases z5 : r = 5
  · have n2 := h2 (Or.inl z5)
    rw [if_pos z5, if_pos z5, ha 0 (by omega), ha 1 (by omega)]
  rw [if_neg z5, if_neg z5]
  by_cases z6 : r = 6
  · have n1 := h1 z6
    rw [if_pos z6, if_pos z6, ha 0 (by omega)]
  rw [if_neg z6, if_neg z6]
  by_cases z7 : r = 7 ∨ r = 8
  · have n2 := h2 (Or.inr z7)
    rw [if_pos z7, if_pos z7, ha 0 (by omega), ha 1 (by omega), hb (Or.inr z7) 0 (by omega)]
  rw [if_neg z7, if_neg z7]
  exact sm_congr _ ha
theorem tG_cong (h : ∀ i, i < ct cn w p → G (cp ch w p i) (cj cn w p i) = G' (cp ch w p i) (cj cn w p i)) (hr : rul w = 4 ∨ rul w = 7 ∨ rul w = 8 → ∀ i, i < ct cn w p → R (cp ch w p i) = R' (cp ch w p i)) : tG kd ar cn ch G R p w = tG kd ar cn ch G' R' p w :=
  gwm_cong h (fun z i hi => by rw [hr z i hi]) ct_2 ct_1
theorem pks_cong {F H F' H' : Nat → Nat} : ∀ (ws : List Nat) (o : Option (Nat × Nat × Nat)), (∀ w ∈ ws, F w = F' w ∧ H w = H' w) → pks F H o ws = pks F' H' o ws := by
  intro ws
  induction ws with
  | nil => intro o _; rfl
  | cons w ws ih =>
    intro o h
    obtain ⟨e1, e2⟩ := h w List.mem_cons_self
    show pks F H (pk o w (F w) (H w)) ws = pks F' H' (pk o w (F' w) (H' w)) ws
    rw [e1, e2]
    exact ih _ (fun x hx => h x (List.mem_cons_of_mem _ hx))
/-- what is picked: one of those tried, and none is shorter -/
theorem pks_some {F H : Nat → Nat} : ∀ (ws : List Nat) (o : Option (Nat × Nat × Nat)), (ws ≠ [] ∨ o ≠ none) → ∃ t, pks F H o ws = some t ∧ (o = some t ∨ ∃ w, w ∈ ws ∧ t = (w, F w, H w)) ∧ (∀ w, w ∈ ws → t.2.1 ≤ F w) ∧ ∀ t', o = some t' → t.2.1 ≤ t'.2.1 := by
  intro ws
  induction ws with
  | nil =>
    intro o h
    cases o with
    | none => exact absurd rfl (h.resolve_left (fun z => z rfl))
    | some t => exact ⟨t, rfl, Or.inl rfl, fun w hw => absurd hw List.not_mem_nil, fun t' e => by cases e; exact Nat.le_refl _⟩
  | cons w ws ih =>
    intro o _
    have hp : ∃ t1, pk o w (F w) (H w) = some t1 ∧ (o = some t1 ∨ t1 = (w, F w, H w)) ∧ t1.2.1 ≤ F w ∧ ∀ t', o = some t' → t1.2.1 ≤ t'.2.1 := by
      cases o with
      | none => exact ⟨_, rfl, Or.inr rfl, Nat.le_refl _, fun t' e => by cases e⟩
      | some t =>
        by_cases z : F w < t.2.1 ∨ (F w = t.2.1 ∧ H w < t.2.2)
        · refine ⟨(w, F w, H w), if_pos z, Or.inr rfl, Nat.le_refl _, fun t' e => ?_⟩
          cases e
          show F w ≤ t.2.1
          omega
        · refine ⟨t, if_neg z, Or.inl rfl, by omega, fun t' e => ?_⟩
          cases e
          exact Nat.le_refl _
    obtain ⟨t1, e1, e2, e3, e4⟩ := hp
    obtain ⟨t, f1, f2, f3, f4⟩ := ih (pk o w (F w) (H w)) (Or.inr (by rw [e1]; intro z; cases z))
    have l1 := f4 t1 e1
    refine ⟨t, f1, ?_, fun x hx => ?_, fun t' e => Nat.le_trans l1 (e4 t' e)⟩
    · rcases f2 with f2 | ⟨x, hx, f2⟩
      · rw [e1] at f2
        cases f2
        rcases e2 with e2 | e2
        · exact Or.inl e2
        · exact Or.inr ⟨w, List.mem_cons_self, e2⟩
      · exact Or.inr ⟨x, List.mem_cons_of_mem _ hx, f2⟩
    · rcases List.mem_cons.mp hx with rfl | hx
      · omega
      · exact f3 x hx
theorem gm_le {nd B : Nat} {s : Nat → Nat} : ∀ k, (∀ c, c < k → pcn c = nd → s c ≤ B) → gm nd s k ≤ B := by
  intro k
  induction k with
  | zero => intro _; exact Nat.zero_le _
  | succ k ih =>
    intro h
    show (if pcn k = nd ∧ gm nd s k < s k then s k else gm nd s k) ≤ B
    by_cases z : pcn k = nd ∧ gm nd s k < s k
    · rw [if_pos z]; exact h k (by omega) z.1
    · rw [if_neg z]; exact ih (fun c hc => h c (by omega))
theorem gm_ge {nd : Nat} {s : Nat → Nat} : ∀ (k c : Nat), c < k → pcn c = nd → s c ≤ gm nd s k := by
  intro k
  induction k with
  | zero => intro c hc; omega
  | succ k ih =>
    intro c hc hp
    show s c ≤ (if pcn k = nd ∧ gm nd s k < s k then s k else gm nd s k)
    by_cases e : c = k
    · subst e
      by_cases z : pcn c = nd ∧ gm nd s c < s c
      · rw [if_pos z]; exact Nat.le_refl _
      · rw [if_neg z]; omega
    · have := ih c (by omega) hp
      by_cases z : pcn k = nd ∧ gm nd s k < s k
      · rw [if_pos z]; omega
      · rw [if_neg z]; exact this
/-- the greatest is what bounds all and is one of them -/
theorem gm_eq {nd v k : Nat} {s : Nat → Nat} (h1 : ∀ c, c < k → pcn c = nd → s c ≤ v) (h2 : ∃ c, c < k ∧ pcn c = nd ∧ v = s c) : gm nd s k = v := by
  obtain ⟨c, a, b, rfl⟩ := h2
  exact Nat.le_antisymm (gm_le k h1) (gm_ge k c a b)
theorem sel_le {a b : Nat → Nat} {n c : Nat} : sel a b n c ≤ sm (fun i => max (a i) (b i)) n := sm_le _ (fun i _ => by
  show (if c / 2 ^ i % 2 = 1 then a i else b i) ≤ max (a i) (b i)
  split <;> omega)
theorem sel_ge {a b : Nat → Nat} {n c : Nat} (h : ∀ i, i < n → b i ≤ a i) : sm b n ≤ sel a b n c := sm_le _ (fun i hi => by
  have := h i hi
  show b i ≤ (if c / 2 ^ i % 2 = 1 then a i else b i)
  split <;> omega)
theorem th_ex : ∀ n, n < 5 → ∀ k, k ≤ n → 2 ^ k - 1 < 2 ^ n ∧ pcn (2 ^ k - 1) = k := by decide +kernel
theorem cat_len (f : Nat → List Nat) : ∀ n, (cat f n).length = sm (fun i => (f i).length) n := by
  intro n
  induction n with
  | zero => rfl
  | succ n ih =>
    show (cat f n ++ f n).length = sm (fun i => (f i).length) n + (f n).length
    rw [List.length_append, ih]
theorem cat_mem {f : Nat → List Nat} {x : Nat} : ∀ n, x ∈ cat f n → ∃ i, i < n ∧ x ∈ f i := by
  intro n
  induction n with
  | zero => intro h; exact absurd h List.not_mem_nil
  | succ n ih =>
    intro h
    rcases List.mem_append.mp h with h | h
    · obtain ⟨i, a, b⟩ := ih h
      exact ⟨i, by omega, b⟩
    · exact ⟨n, by omega, h⟩
theorem cat_cong {f f' : Nat → List Nat} : ∀ n, (∀ i, i < n → f i = f' i) → cat f n = cat f' n := by
  intro n
  induction n with
  | zero => intro _; rfl
  | succ n ih =>
    intro h
    show cat f n ++ f n = cat f' n ++ f' n
    rw [ih (fun i hi => h i (by omega)), h n (by omega)]
theorem wys_ne (k a n j : Nat) : wys k a n j ≠ [] := by
  unfold wys
  repeat' split
  all_goals exact List.cons_ne_nil _ _
/-- the ways of a form and the part's kind -/
def wok (k a n j w : Nat) : Prop := (w = 1 ∧ k = 1 ∧ j < 2) ∨ (w = 11 ∧ k = 2 ∧ j = 0) ∨ (w = 12 ∧ (k = 3 ∨ k = 4) ∧ j = 0) ∨ ((w = 13 ∨ w = 14) ∧ k = 5 ∧ j = 0) ∨ (w = 2 ∧ k = 5 ∧ j < 2) ∨ ((w = 15 ∨ w = 16 ∨ w = 17) ∧ k = 6 ∧ j = 0) ∨ ((w = 3 ∨ w = 4 ∨ w = 5 ∨ w = 6) ∧ k = 6 ∧ j < 2) ∨ (w = 18 ∧ k = 7 ∧ a = n ∧ j = 0) ∨ (w = 7 ∧ k = 7 ∧ j < 2) ∨ (w = 8 ∧ j = 1) ∨ (w = 21 ∧ k = 5 ∧ j = 2) ∨ ((w = 22 ∨ w = 23) ∧ k = 6 ∧ j = 2) ∨ (w = 24 ∧ j = 2)
theorem wys_ok {k a n j w : Nat} (hk : 1 ≤ k ∧ k ≤ 7) (hj : j < 3) (h : w ∈ wys k a n j) : wok k a n j w := by
  obtain ⟨h1, h7⟩ := hk
  have j3 : j = 0 ∨ j = 1 ∨ j = 2 := by omega
  have k8 : k = 1 ∨ k = 2 ∨ k = 3 ∨ k = 4 ∨ k = 5 ∨ k = 6 ∨ k = 7 := by omega
  by_cases e : a = n
  · rcases j3 with rfl | rfl | rfl <;> rcases k8 with rfl | rfl | rfl | rfl | rfl | rfl | rfl <;> simp [wys, e] at h <;> simp [wok, e] <;> omega
  · rcases j3 with rfl | rfl | rfl <;> rcases k8 with rfl | rfl | rfl | rfl | rfl | rfl | rfl <;> simp [wys, e] at h <;> simp [wok, e] <;> omega
end XP

