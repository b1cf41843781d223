/-! The machine, pure: what is left of the script, the stack and what lies aside. -/
/-- how many words stand before the one that ends what was begun -/
def fnd (w : Nat) : Nat → List Nat → Option Nat
  | _, [] => none
  | d, x :: l => if d = 0 ∧ x / 1000 = w then some 0 else if x / 1000 = 12 ∨ x / 1000 = 15 then (fnd w (d + 1) l).map (· + 1) else if x / 1000 = 14 then (if d = 0 then none else (fnd w (d - 1) l).map (· + 1)) else (fnd w d l).map (· + 1)
theorem fnd_hit {w d x : Nat} {l : List Nat} (h : d = 0 ∧ x / 1000 = w) : fnd w d (x :: l) = some 0 := if_pos h
theorem fnd_up {w d x : Nat} {l : List Nat} (h : ¬ (d = 0 ∧ x / 1000 = w)) (g : x / 1000 = 12 ∨ x / 1000 = 15) : fnd w d (x :: l) = (fnd w (d + 1) l).map (· + 1) := (if_neg h).trans (if_pos g)
theorem fnd_down {w d x : Nat} {l : List Nat} (h : ¬ (d = 0 ∧ x / 1000 = w)) (g : x / 1000 = 14) (hd : d ≠ 0) : fnd w d (x :: l) = (fnd w (d - 1) l).map (· + 1) := (if_neg h).trans ((if_neg (by omega)).trans ((if_pos g).trans (if_neg hd)))
theorem fnd_bad {w d x : Nat} {l : List Nat} (h : ¬ (d = 0 ∧ x / 1000 = w)) (g : x / 1000 = 14) (hd : d = 0) : fnd w d (x :: l) = none := (if_neg h).trans ((if_neg (by omega)).trans ((if_pos g).trans (if_pos hd)))
theorem fnd_same {w d x : Nat} {l : List Nat} (h : ¬ (d = 0 ∧ x / 1000 = w)) (g12 : x / 1000 ≠ 12) (g15 : x / 1000 ≠ 15) (g14 : x / 1000 ≠ 14) : fnd w d (x :: l) = (fnd w d l).map (· + 1) := (if_neg h).trans ((if_neg (by omega)).trans (if_neg g14))
/-- what is begun in it is ended in it -/
def bq (L : List Nat) : Prop := ∀ (w d : Nat) (r : List Nat), w = 13 ∨ w = 14 → fnd w d (L ++ r) = (fnd w d r).map (· + L.length)
theorem map_add {o : Option Nat} {a b : Nat} : (o.map (· + a)).map (· + b) = o.map (· + (a + b)) := by
  cases o with
  | none => rfl
  | some x => exact congrArg some (Nat.add_assoc x a b)
theorem map_add0 {o : Option Nat} : o.map (· + 0) = o := by cases o <;> rfl
theorem map_addc {o : Option Nat} {a b : Nat} (h : a = b) : o.map (· + a) = o.map (· + b) := by rw [h]
theorem bq.nil : bq [] := fun w d r _ => map_add0.symm
theorem bq.app {A B : List Nat} (ha : bq A) (hb : bq B) : bq (A ++ B) := fun w d r hw => by
  rw [List.append_assoc, ha w d _ hw, hb w d r hw, map_add]
  exact map_addc (by rw [List.length_append]; omega)
theorem bq.one {x : Nat} (h12 : x / 1000 ≠ 12) (h15 : x / 1000 ≠ 15) (h14 : x / 1000 ≠ 14) (h13 : x / 1000 ≠ 13) : bq [x] := fun w d r hw => fnd_same (by omega) h12 h15 h14
theorem bq.if_ {A B : List Nat} (ha : bq A) (hb : bq B) : bq ([12000] ++ A ++ [13000] ++ B ++ [14000]) := fun w d r hw => by
  have e : [12000] ++ A ++ [13000] ++ B ++ [14000] ++ r = 12000 :: (A ++ (13000 :: (B ++ (14000 :: r)))) := by simp
  rw [e, fnd_up (by omega) (by decide), ha w _ _ hw, fnd_same (by omega) (by decide) (by decide) (by decide), hb w _ _ hw, fnd_down (by omega) (by decide) (by omega), map_add, map_add, map_add, map_add, show d + 1 - 1 = d by omega]
  exact map_addc (by simp only [List.length_append, List.length_cons, List.length_nil]; omega)
theorem bq.un {A : List Nat} (ha : bq A) : bq ([15000] ++ A ++ [14000]) := fun w d r hw => by
  have e : [15000] ++ A ++ [14000] ++ r = 15000 :: (A ++ (14000 :: r)) := by simp
  rw [e, fnd_up (by omega) (by decide), ha w _ _ hw, fnd_down (by omega) (by decide) (by omega), map_add, map_add, show d + 1 - 1 = d by omega]
  exact map_addc (by simp only [List.length_append, List.length_cons, List.length_nil]; omega)
theorem bq.f13 {A r : List Nat} (ha : bq A) : fnd 13 0 (A ++ (13000 :: r)) = some A.length := by
  rw [ha 13 0 _ (Or.inl rfl), fnd_hit ⟨rfl, by decide⟩]
  exact congrArg some (Nat.zero_add _)
theorem bq.f14 {A r : List Nat} (ha : bq A) : fnd 14 0 (A ++ (14000 :: r)) = some A.length := by
  rw [ha 14 0 _ (Or.inr rfl), fnd_hit ⟨rfl, by decide⟩]
  exact congrArg some (Nat.zero_add _)
/-- what is left behind it -/
def skw (w : Nat) (r : List Nat) : List Nat := match fnd w 0 r with
  | none => []
  | some n => r.drop (n + 1)
theorem skw_e {w n : Nat} {r : List Nat} (h : fnd w 0 r = some n) : skw w r = r.drop (n + 1) := by unfold skw; rw [h]
theorem drop_app {A r : List Nat} {x : Nat} : (A ++ (x :: r)).drop (A.length + 1) = r := by
  rw [List.drop_append, List.drop_eq_nil_of_le (Nat.le_succ _), show A.length + 1 - A.length = 1 by omega]
  rfl
theorem bq.s13 {A r : List Nat} (ha : bq A) : skw 13 (A ++ (13000 :: r)) = r := (skw_e ha.f13).trans drop_app
theorem bq.s14 {A r : List Nat} (ha : bq A) : skw 14 (A ++ (14000 :: r)) = r := (skw_e ha.f14).trans drop_app
/-- the number that joins two -/
def jnd (o a b : Nat) : Nat := if o = 8 then a + b else if o = 6 then (if a ≠ 0 ∧ b ≠ 0 then 1 else 0) else (if a ≠ 0 ∨ b ≠ 0 then 1 else 0)
/-- one word done: none if it failed -/
def stp (hh aa : Int32) (x : Nat) (r st sd : List Nat) : Option (List Nat × List Nat × List Nat) :=
  if x / 1000 = 3 then (if hh < nI (x % 1000) then none else some (r, 1 :: st, sd))
  else if x / 1000 = 4 then (if aa < nI (x % 1000) then none else some (r, 1 :: st, sd))
  else if x / 1000 = 11 then (match sd with | [] => none | v :: s => some (r, v :: st, s))
  else if x / 1000 = 13 then some (skw 14 r, st, sd)
  else if x / 1000 = 14 then some (r, st, sd)
  else if x / 1000 = 17 then some (r, 0 :: st, sd)
  else match st with
    | [] => none
    | v :: t =>
      if x / 1000 = 1 then (if v = 0 then some (r, 0 :: t, sd) else if v = 10 + x % 1000 then some (r, 1 :: t, sd) else none)
      else if x / 1000 = 2 then some (r, (if v = 20 + x % 1000 then 1 else 0) :: t, sd)
      else if x / 1000 = 10 then some (r, t, v :: sd)
      else if x / 1000 = 12 then (if v = 1 then some (r, t, sd) else if v = 0 then some (skw 13 r, t, sd) else none)
      else if 9 < v then none
      else if x / 1000 = 5 then (if v = 0 then none else some (r, t, sd))
      else if x / 1000 = 9 then some (r, (if v = x % 1000 then 1 else 0) :: t, sd)
      else if x / 1000 = 15 then (if v = 0 then some (r, t, sd) else some (skw 14 r, t, sd))
      else if x / 1000 = 16 then some (r, (if v = 0 then v :: t else v :: v :: t), sd)
      else match t with
        | [] => none
        | y :: t' => if 9 < y then none else some (r, jnd (x / 1000) v y :: t', sd)
/-- what the machine finds where it repeats a number or looks for an end -/
def gd (x : Nat) (r st : List Nat) : Prop := (x / 1000 = 16 ∨ x / 1000 = 15 → ∃ v t, st = v :: t ∧ v ≤ 9) ∧ (x / 1000 = 12 → ∃ n, fnd 13 0 r = some n) ∧ (x / 1000 = 13 ∨ x / 1000 = 15 → ∃ n, fnd 14 0 r = some n)
def okm (hh aa : Int32) : Nat → List Nat → List Nat → List Nat → Prop
  | 0, _, _, _ => True
  | _ + 1, [], _, _ => True
  | n + 1, x :: r, st, sd => gd x r st ∧ ∀ r' st' sd', stp hh aa x r st sd = some (r', st', sd') → okm hh aa n r' st' sd'
/-- on top lies 0 or 1 -/
def t01 (st : List Nat) : Prop := ∃ v t, st = v :: t ∧ v ≤ 1
section XMach
variable {hh aa : Int32}
theorem okm.lt {x : Nat} {r : List Nat} : ∀ {n : Nat} {st sd : List Nat}, (gd x r st) → (∀ m, m < n → ∀ r' st' sd', stp hh aa x r st sd = some (r', st', sd') → okm hh aa m r' st' sd') → okm hh aa n (x :: r) st sd := by
  intro n st sd g h
  cases n with
  | zero => exact trivial
  | succ n => exact ⟨g, h n (Nat.lt_succ_self n)⟩
/-- a form's words: what comes behind them may count on a number -/
def frm (hh aa : Int32) (j : Nat) (L : List Nat) : Prop := ∀ (n : Nat) (r : List Nat), (∀ m st sd, m ≤ n → (j < 2 → t01 st) → okm hh aa m r st sd) → ∀ st sd, okm hh aa n (L ++ r) st sd
theorem gd_p {x : Nat} {r st : List Nat} (h12 : x / 1000 ≠ 12) (h13 : x / 1000 ≠ 13) (h15 : x / 1000 ≠ 15) (h16 : x / 1000 ≠ 16) : gd x r st := ⟨fun h => by omega, fun h => by omega, fun h => by omega⟩
/-- a word that goes on to the next -/
theorem okm.one {x : Nat} {r st sd : List Nat} {n : Nat} {Q : List Nat → Prop} (h12 : x / 1000 ≠ 12) (h13 : x / 1000 ≠ 13) (h15 : x / 1000 ≠ 15) (h16 : x / 1000 ≠ 16) (hq : ∀ r' st' sd', stp hh aa x r st sd = some (r', st', sd') → r' = r ∧ Q st') (K : ∀ m st sd, m ≤ n → Q st → okm hh aa m r st sd) : okm hh aa n (x :: r) st sd :=
  okm.lt (gd_p h12 h13 h15 h16) (fun m hm r' st' sd' e => by
    obtain ⟨e1, e2⟩ := hq r' st' sd' e
    rw [e1]
    exact K m st' sd' (by omega) e2)
theorem skw_d (w : Nat) (r : List Nat) : ∃ n, skw w r = r.drop n := by
  cases h : fnd w 0 r with
  | none => exact ⟨r.length, by unfold skw; rw [h, List.drop_length]⟩
  | some n => exact ⟨n + 1, skw_e h⟩
theorem jnd_01 {o a b : Nat} (h : o ≠ 8) : jnd o a b ≤ 1 := by
  unfold jnd
  rw [if_neg h]
  by_cases z : o = 6
  · rw [if_pos z]; split <;> decide
  · rw [if_neg z]; split <;> decide
/-- what one word leaves -/
theorem stp_inv {x : Nat} {r st sd r' st' sd' : List Nat} (e : stp hh aa x r st sd = some (r', st', sd')) : (∃ n, r' = r.drop n) ∧ st'.length ≤ st.length + 1 ∧ sd'.length ≤ sd.length + 1 ∧ (x / 1000 ≠ 10 → sd'.length ≤ sd.length) ∧ (x / 1000 ≠ 12 → x / 1000 ≠ 13 → x / 1000 ≠ 15 → r' = r) ∧ (x / 1000 = 1 ∨ x / 1000 = 2 ∨ x / 1000 = 3 ∨ x / 1000 = 4 ∨ x / 1000 = 6 ∨ x / 1000 = 7 ∨ x / 1000 = 9 ∨ x / 1000 = 17 → t01 st') ∧ (x / 1000 = 12 → r' = r ∨ r' = skw 13 r) := by
  unfold stp at e
  by_cases h3 : x / 1000 = 3
  · rw [if_pos h3] at e
    by_cases q : hh < nI (x % 1000)
    · rw [if_pos q] at e
      cases e
    · rw [if_neg q] at e
      cases e
      exact ⟨by first | exact ⟨0, rfl⟩ | exact skw_d _ _, (by first | exact Nat.le_refl _ | exact Nat.le_succ _ | omega | (simp only [List.length_cons]; done) | (simp only [List.length_cons]; omega)), (by first | exact Nat.le_refl _ | exact Nat.le_succ _ | omega | (simp only [List.length_cons]; done) | (simp only [List.length_cons]; omega)), by first | exact fun _ => (by first | exact Nat.le_refl _ | exact Nat.le_succ _ | omega | (simp only [List.length_cons]; done) | (simp only [List.length_cons]; omega)) | exact fun q => absurd (by assumption) q, by first | exact fun _ _ _ => rfl | (intro a b c; omega), by first | (intro h; omega) | exact fun _ => ⟨_, _, rfl, by first | omega | exact jnd_01 (by omega) | (split <;> omega)⟩, by first | exact fun _ => Or.inl rfl | exact fun _ => Or.inr rfl | (intro h; omega)⟩
  rw [if_neg h3] at e
  by_cases h4 : x / 1000 = 4
  · rw [if_pos h4] at e
    by_cases q : aa < nI (x % 1000)
    · rw [if_pos q] at e
      cases e
    · rw [if_neg q] at e
      cases e
      exact ⟨by first | exact ⟨0, rfl⟩ | exact skw_d _ _, (by first | exact Nat.le_refl _ | exact Nat.le_succ _ | omega | (simp only [List.length_cons]; done) | (simp only [List.length_cons]; omega)), (by first | exact Nat.le_refl _ | exact Nat.le_succ _ | omega | (simp only [List.length_cons]; done) | (simp only [List.length_cons]; omega)), by first | exact fun _ => (by first | exact Nat.le_refl _ | exact Nat.le_succ _ | omega | (simp only [List.length_cons]; done) | (simp only [List.length_cons]; omega)) | exact fun q => absurd (by assumption) q, by first | exact fun _ _ _ => rfl | (intro a b c; omega), by first | (intro h; omega) | exact fun _ => ⟨_, _, rfl, by first | omega | exact jnd_01 (by omega) | (split <;> omega)⟩, by first | exact fun _ => Or.inl rfl | exact fun _ => Or.inr rfl | (intro h; omega)⟩
  rw [if_neg h4] at e
  by_cases h11 : x / 1000 = 11
  · rw [if_pos h11] at e
    cases sd with
    | nil => cases e
    | cons v s =>
      cases e
      exact ⟨by first | exact ⟨0, rfl⟩ | exact skw_d _ _, (by first | exact Nat.le_refl _ | exact Nat.le_succ _ | omega | (simp only [List.length_cons]; done) | (simp only [List.length_cons]; omega)), (by first | exact Nat.le_refl _ | exact Nat.le_succ _ | omega | (simp only [List.length_cons]; done) | (simp only [List.length_cons]; omega)), by first | exact fun _ => (by first | exact Nat.le_refl _ | exact Nat.le_succ _ | omega | (simp only [List.length_cons]; done) | (simp only [List.length_cons]; omega)) | exact fun q => absurd (by assumption) q, by first | exact fun _ _ _ => rfl | (intro a b c; omega), by first | (intro h; omega) | exact fun _ => ⟨_, _, rfl, by first | omega | exact jnd_01 (by omega) | (split <;> omega)⟩, by first | exact fun _ => Or.inl rfl | exact fun _ => Or.inr rfl | (intro h; omega)⟩
  rw [if_neg h11] at e
  by_cases h13 : x / 1000 = 13
  · rw [if_pos h13] at e
    cases e
    exact ⟨by first | exact ⟨0, rfl⟩ | exact skw_d _ _, (by first | exact Nat.le_refl _ | exact Nat.le_succ _ | omega | (simp only [List.length_cons]; done) | (simp only [List.length_cons]; omega)), (by first | exact Nat.le_refl _ | exact Nat.le_succ _ | omega | (simp only [List.length_cons]; done) | (simp only [List.length_cons]; omega)), by first | exact fun _ => (by first | exact Nat.le_refl _ | exact Nat.le_succ _ | omega | (simp only [List.length_cons]; done) | (simp only [List.length_cons]; omega)) | exact fun q => absurd (by assumption) q, by first | exact fun _ _ _ => rfl | (intro a b c; omega), by first | (intro h; omega) | exact fun _ => ⟨_, _, rfl, by first | omega | exact jnd_01 (by omega) | (split <;> omega)⟩, by first | exact fun _ => Or.inl rfl | exact fun _ => Or.inr rfl | (intro h; omega)⟩
  rw [if_neg h13] at e
  by_cases h14 : x / 1000 = 14
  · rw [if_pos h14] at e
    cases e
    exact ⟨by first | exact ⟨0, rfl⟩ | exact skw_d _ _, (by first | exact Nat.le_refl _ | exact Nat.le_succ _ | omega | (simp only [List.length_cons]; done) | (simp only [List.length_cons]; omega)), (by first | exact Nat.le_refl _ | exact Nat.le_succ _ | omega | (simp only [List.length_cons]; done) | (simp only [List.length_cons]; omega)), by first | exact fun _ => (by first | exact Nat.le_refl _ | exact Nat.le_succ _ | omega | (simp only [List.length_cons]; done) | (simp only [List.length_cons]; omega)) | exact fun q => absurd (by assumption) q, by first | exact fun _ _ _ => rfl | (intro a b c; omega), by first | (intro h; omega) | exact fun _ => ⟨_, _, rfl, by first | omega | exact jnd_01 (by omega) | (split <;> omega)⟩, by first | exact fun _ => Or.inl rfl | exact fun _ => Or.inr rfl | (intro h; omega)⟩
  rw [if_neg h14] at e
  by_cases h17 : x / 1000 = 17
  · rw [if_pos h17] at e
    cases e
    exact ⟨by first | exact ⟨0, rfl⟩ | exact skw_d _ _, (by first | exact Nat.le_refl _ | exact Nat.le_succ _ | omega | (simp only [List.length_cons]; done) | (simp only [List.length_cons]; omega)), (by first | exact Nat.le_refl _ | exact Nat.le_succ _ | omega | (simp only [List.length_cons]; done) | (simp only [List.length_cons]; omega)), by first | exact fun _ => (by first | exact Nat.le_refl _ | exact Nat.le_succ _ | omega | (simp only [List.length_cons]; done) | (simp only [List.length_cons]; omega)) | exact fun q => absurd (by assumption) q, by first | exact fun _ _ _ => rfl | (intro a b c; omega), by first | (intro h; omega) | exact fun _ => ⟨_, _, rfl, by first | omega | exact jnd_01 (by omega) | (split <;> omega)⟩, by first | exact fun _ => Or.inl rfl | exact fun _ => Or.inr rfl | (intro h; omega)⟩
  rw [if_neg h17] at e
  cases st with
  | nil => cases e
  | cons v t =>
    dsimp only at e
    by_cases k1 : x / 1000 = 1
    · rw [if_pos k1] at e
      by_cases q : v = 0
      · rw [if_pos q] at e
        cases e
        exact ⟨by first | exact ⟨0, rfl⟩ | exact skw_d _ _, (by first | exact Nat.le_refl _ | exact Nat.le_succ _ | omega | (simp only [List.length_cons]; done) | (simp only [List.length_cons]; omega)), (by first | exact Nat.le_refl _ | exact Nat.le_succ _ | omega | (simp only [List.length_cons]; done) | (simp only [List.length_cons]; omega)), by first | exact fun _ => (by first | exact Nat.le_refl _ | exact Nat.le_succ _ | omega | (simp only [List.length_cons]; done) | (simp only [List.length_cons]; omega)) | exact fun q => absurd (by assumption) q, by first | exact fun _ _ _ => rfl | (intro a b c; omega), by first | (intro h; omega) | exact fun _ => ⟨_, _, rfl, by first | omega | exact jnd_01 (by omega) | (split <;> omega)⟩, by first | exact fun _ => Or.inl rfl | exact fun _ => Or.inr rfl | (intro h; omega)⟩
      · rw [if_neg q] at e
        by_cases q2 : v = 10 + x % 1000
        · rw [if_pos q2] at e
          cases e
          exact ⟨by first | exact ⟨0, rfl⟩ | exact skw_d _ _, (by first | exact Nat.le_refl _ | exact Nat.le_succ _ | omega | (simp only [List.length_cons]; done) | (simp only [List.length_cons]; omega)), (by first | exact Nat.le_refl _ | exact Nat.le_succ _ | omega | (simp only [List.length_cons]; done) | (simp only [List.length_cons]; omega)), by first | exact fun _ => (by first | exact Nat.le_refl _ | exact Nat.le_succ _ | omega | (simp only [List.length_cons]; done) | (simp only [List.length_cons]; omega)) | exact fun q => absurd (by assumption) q, by first | exact fun _ _ _ => rfl | (intro a b c; omega), by first | (intro h; omega) | exact fun _ => ⟨_, _, rfl, by first | omega | exact jnd_01 (by omega) | (split <;> omega)⟩, by first | exact fun _ => Or.inl rfl | exact fun _ => Or.inr rfl | (intro h; omega)⟩
        · rw [if_neg q2] at e
          cases e
    rw [if_neg k1] at e
    by_cases k2 : x / 1000 = 2
    · rw [if_pos k2] at e
      cases e
      exact ⟨by first | exact ⟨0, rfl⟩ | exact skw_d _ _, (by first | exact Nat.le_refl _ | exact Nat.le_succ _ | omega | (simp only [List.length_cons]; done) | (simp only [List.length_cons]; omega)), (by first | exact Nat.le_refl _ | exact Nat.le_succ _ | omega | (simp only [List.length_cons]; done) | (simp only [List.length_cons]; omega)), by first | exact fun _ => (by first | exact Nat.le_refl _ | exact Nat.le_succ _ | omega | (simp only [List.length_cons]; done) | (simp only [List.length_cons]; omega)) | exact fun q => absurd (by assumption) q, by first | exact fun _ _ _ => rfl | (intro a b c; omega), by first | (intro h; omega) | exact fun _ => ⟨_, _, rfl, by first | omega | exact jnd_01 (by omega) | (split <;> omega)⟩, by first | exact fun _ => Or.inl rfl | exact fun _ => Or.inr rfl | (intro h; omega)⟩
    rw [if_neg k2] at e
    by_cases k10 : x / 1000 = 10
    · rw [if_pos k10] at e
      cases e
      exact ⟨by first | exact ⟨0, rfl⟩ | exact skw_d _ _, (by first | exact Nat.le_refl _ | exact Nat.le_succ _ | omega | (simp only [List.length_cons]; done) | (simp only [List.length_cons]; omega)), (by first | exact Nat.le_refl _ | exact Nat.le_succ _ | omega | (simp only [List.length_cons]; done) | (simp only [List.length_cons]; omega)), by first | exact fun _ => (by first | exact Nat.le_refl _ | exact Nat.le_succ _ | omega | (simp only [List.length_cons]; done) | (simp only [List.length_cons]; omega)) | exact fun q => absurd (by assumption) q, by first | exact fun _ _ _ => rfl | (intro a b c; omega), by first | (intro h; omega) | exact fun _ => ⟨_, _, rfl, by first | omega | exact jnd_01 (by omega) | (split <;> omega)⟩, by first | exact fun _ => Or.inl rfl | exact fun _ => Or.inr rfl | (intro h; omega)⟩
    rw [if_neg k10] at e
    by_cases k12 : x / 1000 = 12
    · rw [if_pos k12] at e
      by_cases q : v = 1
      · rw [if_pos q] at e
        cases e
        exact ⟨by first | exact ⟨0, rfl⟩ | exact skw_d _ _, (by first | exact Nat.le_refl _ | exact Nat.le_succ _ | omega | (simp only [List.length_cons]; done) | (simp only [List.length_cons]; omega)), (by first | exact Nat.le_refl _ | exact Nat.le_succ _ | omega | (simp only [List.length_cons]; done) | (simp only [List.length_cons]; omega)), by first | exact fun _ => (by first | exact Nat.le_refl _ | exact Nat.le_succ _ | omega | (simp only [List.length_cons]; done) | (simp only [List.length_cons]; omega)) | exact fun q => absurd (by assumption) q, by first | exact fun _ _ _ => rfl | (intro a b c; omega), by first | (intro h; omega) | exact fun _ => ⟨_, _, rfl, by first | omega | exact jnd_01 (by omega) | (split <;> omega)⟩, by first | exact fun _ => Or.inl rfl | exact fun _ => Or.inr rfl | (intro h; omega)⟩
      · rw [if_neg q] at e
        by_cases q2 : v = 0
        · rw [if_pos q2] at e
          cases e
          exact ⟨by first | exact ⟨0, rfl⟩ | exact skw_d _ _, (by first | exact Nat.le_refl _ | exact Nat.le_succ _ | omega | (simp only [List.length_cons]; done) | (simp only [List.length_cons]; omega)), (by first | exact Nat.le_refl _ | exact Nat.le_succ _ | omega | (simp only [List.length_cons]; done) | (simp only [List.length_cons]; omega)), by first | exact fun _ => (by first | exact Nat.le_refl _ | exact Nat.le_succ _ | omega | (simp only [List.length_cons]; done) | (simp only [List.length_cons]; omega)) | exact fun q => absurd (by assumption) q, by first | exact fun _ _ _ => rfl | (intro a b c; omega), by first | (intro h; omega) | exact fun _ => ⟨_, _, rfl, by first | omega | exact jnd_01 (by omega) | (split <;> omega)⟩, by first | exact fun _ => Or.inl rfl | exact fun _ => Or.inr rfl | (intro h; omega)⟩
        · rw [if_neg q2] at e
          cases e
    rw [if_neg k12] at e
    by_cases k9v : 9 < v
    · rw [if_pos k9v] at e
      cases e
    rw [if_neg k9v] at e
    by_cases k5 : x / 1000 = 5
    · rw [if_pos k5] at e
      by_cases q : v = 0
      · rw [if_pos q] at e
        cases e
      · rw [if_neg q] at e
        cases e
        exact ⟨by first | exact ⟨0, rfl⟩ | exact skw_d _ _, (by first | exact Nat.le_refl _ | exact Nat.le_succ _ | omega | (simp only [List.length_cons]; done) | (simp only [List.length_cons]; omega)), (by first | exact Nat.le_refl _ | exact Nat.le_succ _ | omega | (simp only [List.length_cons]; done) | (simp only [List.length_cons]; omega)), by first | exact fun _ => (by first | exact Nat.le_refl _ | exact Nat.le_succ _ | omega | (simp only [List.length_cons]; done) | (simp only [List.length_cons]; omega)) | exact fun q => absurd (by assumption) q, by first | exact fun _ _ _ => rfl | (intro a b c; omega), by first | (intro h; omega) | exact fun _ => ⟨_, _, rfl, by first | omega | exact jnd_01 (by omega) | (split <;> omega)⟩, by first | exact fun _ => Or.inl rfl | exact fun _ => Or.inr rfl | (intro h; omega)⟩
    rw [if_neg k5] at e
    by_cases k9 : x / 1000 = 9
    · rw [if_pos k9] at e
      cases e
      exact ⟨by first | exact ⟨0, rfl⟩ | exact skw_d _ _, (by first | exact Nat.le_refl _ | exact Nat.le_succ _ | omega | (simp only [List.length_cons]; done) | (simp only [List.length_cons]; omega)), (by first | exact Nat.le_refl _ | exact Nat.le_succ _ | omega | (simp only [List.length_cons]; done) | (simp only [List.length_cons]; omega)), by first | exact fun _ => (by first | exact Nat.le_refl _ | exact Nat.le_succ _ | omega | (simp only [List.length_cons]; done) | (simp only [List.length_cons]; omega)) | exact fun q => absurd (by assumption) q, by first | exact fun _ _ _ => rfl | (intro a b c; omega), by first | (intro h; omega) | exact fun _ => ⟨_, _, rfl, by first | omega | exact jnd_01 (by omega) | (split <;> omega)⟩, by first | exact fun _ => Or.inl rfl | exact fun _ => Or.inr rfl | (intro h; omega)⟩
    rw [if_neg k9] at e
    by_cases k15 : x / 1000 = 15
    · rw [if_pos k15] at e
      by_cases q : v = 0
      · rw [if_pos q] at e
        cases e
        exact ⟨by first | exact ⟨0, rfl⟩ | exact skw_d _ _, (by first | exact Nat.le_refl _ | exact Nat.le_succ _ | omega | (simp only [List.length_cons]; done) | (simp only [List.length_cons]; omega)), (by first | exact Nat.le_refl _ | exact Nat.le_succ _ | omega | (simp only [List.length_cons]; done) | (simp only [List.length_cons]; omega)), by first | exact fun _ => (by first | exact Nat.le_refl _ | exact Nat.le_succ _ | omega | (simp only [List.length_cons]; done) | (simp only [List.length_cons]; omega)) | exact fun q => absurd (by assumption) q, by first | exact fun _ _ _ => rfl | (intro a b c; omega), by first | (intro h; omega) | exact fun _ => ⟨_, _, rfl, by first | omega | exact jnd_01 (by omega) | (split <;> omega)⟩, by first | exact fun _ => Or.inl rfl | exact fun _ => Or.inr rfl | (intro h; omega)⟩
      · rw [if_neg q] at e
        cases e
        exact ⟨by first | exact ⟨0, rfl⟩ | exact skw_d _ _, (by first | exact Nat.le_refl _ | exact Nat.le_succ _ | omega | (simp only [List.length_cons]; done) | (simp only [List.length_cons]; omega)), (by first | exact Nat.le_refl _ | exact Nat.le_succ _ | omega | (simp only [List.length_cons]; done) | (simp only [List.length_cons]; omega)), by first | exact fun _ => (by first | exact Nat.le_refl _ | exact Nat.le_succ _ | omega | (simp only [List.length_cons]; done) | (simp only [List.length_cons]; omega)) | exact fun q => absurd (by assumption) q, by first | exact fun _ _ _ => rfl | (intro a b c; omega), by first | (intro h; omega) | exact fun _ => ⟨_, _, rfl, by first | omega | exact jnd_01 (by omega) | (split <;> omega)⟩, by first | exact fun _ => Or.inl rfl | exact fun _ => Or.inr rfl | (intro h; omega)⟩
    rw [if_neg k15] at e
    by_cases k16 : x / 1000 = 16
    · rw [if_pos k16] at e
      by_cases q : v = 0
      · rw [if_pos q] at e
        cases e
        exact ⟨by first | exact ⟨0, rfl⟩ | exact skw_d _ _, (by first | exact Nat.le_refl _ | exact Nat.le_succ _ | omega | (simp only [List.length_cons]; done) | (simp only [List.length_cons]; omega)), (by first | exact Nat.le_refl _ | exact Nat.le_succ _ | omega | (simp only [List.length_cons]; done) | (simp only [List.length_cons]; omega)), by first | exact fun _ => (by first | exact Nat.le_refl _ | exact Nat.le_succ _ | omega | (simp only [List.length_cons]; done) | (simp only [List.length_cons]; omega)) | exact fun q => absurd (by assumption) q, by first | exact fun _ _ _ => rfl | (intro a b c; omega), by first | (intro h; omega) | exact fun _ => ⟨_, _, rfl, by first | omega | exact jnd_01 (by omega) | (split <;> omega)⟩, by first | exact fun _ => Or.inl rfl | exact fun _ => Or.inr rfl | (intro h; omega)⟩
      · rw [if_neg q] at e
        cases e
        exact ⟨by first | exact ⟨0, rfl⟩ | exact skw_d _ _, (by first | exact Nat.le_refl _ | exact Nat.le_succ _ | omega | (simp only [List.length_cons]; done) | (simp only [List.length_cons]; omega)), (by first | exact Nat.le_refl _ | exact Nat.le_succ _ | omega | (simp only [List.length_cons]; done) | (simp only [List.length_cons]; omega)), by first | exact fun _ => (by first | exact Nat.le_refl _ | exact Nat.le_succ _ | omega | (simp only [List.length_cons]; done) | (simp only [List.length_cons]; omega)) | exact fun q => absurd (by assumption) q, by first | exact fun _ _ _ => rfl | (intro a b c; omega), by first | (intro h; omega) | exact fun _ => ⟨_, _, rfl, by first | omega | exact jnd_01 (by omega) | (split <;> omega)⟩, by first | exact fun _ => Or.inl rfl | exact fun _ => Or.inr rfl | (intro h; omega)⟩
    rw [if_neg k16] at e
    cases t with
    | nil => cases e
    | cons y t =>
      dsimp only at e
      by_cases q : 9 < y
      · rw [if_pos q] at e
        cases e
      · rw [if_neg q] at e
        cases e
        exact ⟨by first | exact ⟨0, rfl⟩ | exact skw_d _ _, (by first | exact Nat.le_refl _ | exact Nat.le_succ _ | omega | (simp only [List.length_cons]; done) | (simp only [List.length_cons]; omega)), (by first | exact Nat.le_refl _ | exact Nat.le_succ _ | omega | (simp only [List.length_cons]; done) | (simp only [List.length_cons]; omega)), by first | exact fun _ => (by first | exact Nat.le_refl _ | exact Nat.le_succ _ | omega | (simp only [List.length_cons]; done) | (simp only [List.length_cons]; omega)) | exact fun q => absurd (by assumption) q, by first | exact fun _ _ _ => rfl | (intro a b c; omega), by first | (intro h; omega) | exact fun _ => ⟨_, _, rfl, by first | omega | exact jnd_01 (by omega) | (split <;> omega)⟩, by first | exact fun _ => Or.inl rfl | exact fun _ => Or.inr rfl | (intro h; omega)⟩
theorem stp_r {x : Nat} {r st sd r' st' sd' : List Nat} (h12 : x / 1000 ≠ 12) (h13 : x / 1000 ≠ 13) (h15 : x / 1000 ≠ 15) (e : stp hh aa x r st sd = some (r', st', sd')) : r' = r := (stp_inv e).2.2.2.2.1 h12 h13 h15
theorem stp_t {x : Nat} {r st sd r' st' sd' : List Nat} (hx : x / 1000 = 1 ∨ x / 1000 = 2 ∨ x / 1000 = 3 ∨ x / 1000 = 4 ∨ x / 1000 = 6 ∨ x / 1000 = 7 ∨ x / 1000 = 9 ∨ x / 1000 = 17) (e : stp hh aa x r st sd = some (r', st', sd')) : t01 st' := (stp_inv e).2.2.2.2.2.1 hx
theorem stp_12 {x : Nat} {r st sd r' st' sd' : List Nat} (hx : x / 1000 = 12) (e : stp hh aa x r st sd = some (r', st', sd')) : r' = r ∨ r' = skw 13 r := (stp_inv e).2.2.2.2.2.2 hx
theorem stp_13 {x : Nat} {r st sd : List Nat} (hx : x / 1000 = 13) : stp hh aa x r st sd = some (skw 14 r, st, sd) := by
  unfold stp
  rw [if_neg (by omega), if_neg (by omega), if_neg (by omega), if_pos hx]
theorem stp_14 {x : Nat} {r st sd : List Nat} (hx : x / 1000 = 14) : stp hh aa x r st sd = some (r, st, sd) := by
  unfold stp
  rw [if_neg (by omega), if_neg (by omega), if_neg (by omega), if_neg (by omega), if_pos hx]
theorem stp_15 {x v : Nat} {r t sd : List Nat} (hx : x / 1000 = 15) (hv : v ≤ 9) : stp hh aa x r (v :: t) sd = if v = 0 then some (r, t, sd) else some (skw 14 r, t, sd) := by
  unfold stp
  rw [if_neg (by omega), if_neg (by omega), if_neg (by omega), if_neg (by omega), if_neg (by omega), if_neg (by omega)]
  dsimp only
  rw [if_neg (by omega), if_neg (by omega), if_neg (by omega), if_neg (by omega), if_neg (by omega), if_neg (by omega), if_neg (by omega), if_pos hx]
theorem stp_16 {x v : Nat} {r t sd : List Nat} (hx : x / 1000 = 16) (hv : v ≤ 9) : stp hh aa x r (v :: t) sd = some (r, (if v = 0 then v :: t else v :: v :: t), sd) := by
  unfold stp
  rw [if_neg (by omega), if_neg (by omega), if_neg (by omega), if_neg (by omega), if_neg (by omega), if_neg (by omega)]
  dsimp only
  rw [if_neg (by omega), if_neg (by omega), if_neg (by omega), if_neg (by omega), if_neg (by omega), if_neg (by omega), if_neg (by omega), if_neg (by omega), if_pos hx]
theorem stp_9 {x v : Nat} {r t sd : List Nat} (hx : x / 1000 = 9) (hv : v ≤ 9) : stp hh aa x r (v :: t) sd = some (r, (if v = x % 1000 then 1 else 0) :: t, sd) := by
  unfold stp
  rw [if_neg (by omega), if_neg (by omega), if_neg (by omega), if_neg (by omega), if_neg (by omega), if_neg (by omega)]
  dsimp only
  rw [if_neg (by omega), if_neg (by omega), if_neg (by omega), if_neg (by omega), if_neg (by omega), if_neg (by omega), if_pos hx]
theorem stp_j {x v y : Nat} {r t sd : List Nat} (hx : 6 ≤ x / 1000 ∧ x / 1000 ≤ 8) (hv : v ≤ 9) (hy : y ≤ 9) : stp hh aa x r (v :: y :: t) sd = some (r, jnd (x / 1000) v y :: t, sd) := by
  unfold stp
  rw [if_neg (by omega), if_neg (by omega), if_neg (by omega), if_neg (by omega), if_neg (by omega), if_neg (by omega)]
  dsimp only
  rw [if_neg (by omega), if_neg (by omega), if_neg (by omega), if_neg (by omega), if_neg (by omega), if_neg (by omega), if_neg (by omega), if_neg (by omega), if_neg (by omega), if_neg (by omega)]
theorem stp_j0 {x : Nat} {r st sd : List Nat} (hx : 6 ≤ x / 1000 ∧ x / 1000 ≤ 8) (h : st.length < 2 ∨ 9 < st.headD 0 ∨ 9 < st.tail.headD 0) : stp hh aa x r st sd = none := by
  unfold stp
  rw [if_neg (by omega), if_neg (by omega), if_neg (by omega), if_neg (by omega), if_neg (by omega), if_neg (by omega)]
  cases st with
  | nil => rfl
  | cons v t =>
    dsimp only
    rw [if_neg (by omega), if_neg (by omega), if_neg (by omega), if_neg (by omega)]
    by_cases hv : 9 < v
    · rw [if_pos hv]
    · rw [if_neg hv, if_neg (by omega), if_neg (by omega), if_neg (by omega), if_neg (by omega)]
      cases t with
      | nil => rfl
      | cons y t =>
        dsimp only
        rcases h with h | h | h
        · exact absurd h (by show ¬ t.length + 1 + 1 < 2; omega)
        · exact absurd h hv
        · exact if_pos h
/-- a form's words: their brackets, their operations, and what they leave -/
def fq (hh aa : Int32) (j : Nat) (L : List Nat) : Prop := bq L ∧ (∀ x, x ∈ L → 1000 ≤ x ∧ x < 18000) ∧ frm hh aa j L
theorem fq.wk {i j : Nat} {L : List Nat} (h : fq hh aa i L) (hj : j < 2 → i < 2) : fq hh aa j L := ⟨h.1, h.2.1, fun n r K => h.2.2 n r (fun m st sd hm ht => K m st sd hm (fun z => ht (hj z)))⟩
theorem fq.nil : fq hh aa 2 [] := ⟨bq.nil, fun x hx => absurd hx List.not_mem_nil, fun n r K st sd => K n st sd (Nat.le_refl _) (fun z => absurd z (by decide))⟩
theorem mem_ap {P : Nat → Prop} {A B : List Nat} (a : ∀ x, x ∈ A → P x) (b : ∀ x, x ∈ B → P x) : ∀ x, x ∈ A ++ B → P x := fun x hx => (List.mem_append.mp hx).elim (a x) (b x)
theorem mem_on {P : Nat → Prop} {y : Nat} (h : P y) : ∀ x, x ∈ [y] → P x := fun x hx => by rw [List.mem_singleton.mp hx]; exact h
theorem fq.seq {i j : Nat} {A B : List Nat} (ha : fq hh aa i A) (hb : fq hh aa j B) : fq hh aa j (A ++ B) := ⟨ha.1.app hb.1, mem_ap ha.2.1 hb.2.1, fun n r K st sd => by
  rw [List.append_assoc]
  exact ha.2.2 n (B ++ r) (fun m st sd hm _ => hb.2.2 m r (fun m' st sd hm' ht => K m' st sd (by omega) ht) st sd) st sd⟩
theorem fq.one {j x : Nat} (hx : 1000 ≤ x ∧ x < 18000) (h12 : x / 1000 ≠ 12) (h13 : x / 1000 ≠ 13) (h14 : x / 1000 ≠ 14) (h15 : x / 1000 ≠ 15) (h16 : x / 1000 ≠ 16) (hq : j < 2 → x / 1000 = 1 ∨ x / 1000 = 2 ∨ x / 1000 = 3 ∨ x / 1000 = 4 ∨ x / 1000 = 6 ∨ x / 1000 = 7 ∨ x / 1000 = 9 ∨ x / 1000 = 17) : fq hh aa j [x] := ⟨bq.one h12 h15 h14 h13, mem_on hx, fun n r K st sd => okm.one (Q := fun s => j < 2 → t01 s) h12 h13 h15 h16 (fun r' st' sd' e => ⟨stp_r h12 h13 h15 e, fun z => stp_t (hq z) e⟩) K⟩
theorem okm.end_ {x : Nat} {r st sd : List Nat} {n : Nat} (hx : x / 1000 = 14) (K : ∀ m, m ≤ n → okm hh aa m r st sd) : okm hh aa n (x :: r) st sd := okm.lt (gd_p (by omega) (by omega) (by omega) (by omega)) (fun m hm r' st' sd' e => by
  rw [stp_14 hx] at e
  cases e
  exact K m (by omega))
theorem okm.els {x : Nat} {B r st sd : List Nat} {n : Nat} (hb : bq B) (hx : x / 1000 = 13) (K : ∀ m, m ≤ n → okm hh aa m r st sd) : okm hh aa n (x :: (B ++ (14000 :: r))) st sd := okm.lt ⟨fun h => by omega, fun h => by omega, fun _ => ⟨_, hb.f14⟩⟩ (fun m hm r' st' sd' e => by
  rw [stp_13 hx, hb.s14] at e
  cases e
  exact K m (by omega))
theorem fq.if_ {j : Nat} {A B : List Nat} (ha : fq hh aa j A) (hb : fq hh aa j B) : fq hh aa j ([12000] ++ A ++ [13000] ++ B ++ [14000]) := ⟨bq.if_ ha.1 hb.1, mem_ap (mem_ap (mem_ap (mem_ap (mem_on (by decide)) ha.2.1) (mem_on (by decide))) hb.2.1) (mem_on (by decide)), fun n r K st sd => by
  have e : [12000] ++ A ++ [13000] ++ B ++ [14000] ++ r = 12000 :: (A ++ (13000 :: (B ++ (14000 :: r)))) := by simp
  rw [e]
  have KB : ∀ m st sd, m ≤ n → okm hh aa m (B ++ (14000 :: r)) st sd := fun m st sd hm => hb.2.2 m _ (fun m' st sd hm' ht => okm.end_ (by decide) (fun m2 hm2 => K m2 st sd (by omega) ht)) st sd
  have KA : ∀ m st sd, m ≤ n → okm hh aa m (A ++ (13000 :: (B ++ (14000 :: r)))) st sd := fun m st sd hm => ha.2.2 m _ (fun m' st sd hm' ht => okm.els hb.1 (by decide) (fun m2 hm2 => K m2 st sd (by omega) ht)) st sd
  refine okm.lt ⟨fun h => absurd h (by decide), fun _ => ⟨_, ha.1.f13⟩, fun h => absurd h (by decide)⟩ (fun m hm r' st' sd' e => ?_)
  rcases stp_12 (by decide) e with z | z
  · rw [z]; exact KA m st' sd' (by omega)
  · rw [z, ha.1.s13]; exact KB m st' sd' (by omega)⟩
theorem okm.unl {v : Nat} {B r t sd : List Nat} {n : Nat} (hb : bq B) (hv : v ≤ 9) (K0 : v = 0 → ∀ m, m ≤ n → okm hh aa m (B ++ (14000 :: r)) t sd) (K1 : v ≠ 0 → ∀ m, m ≤ n → okm hh aa m r t sd) : okm hh aa n (15000 :: (B ++ (14000 :: r))) (v :: t) sd := okm.lt ⟨fun _ => ⟨v, t, rfl, hv⟩, fun h => absurd h (by decide), fun _ => ⟨_, hb.f14⟩⟩ (fun m hm r' st' sd' e => by
  rw [stp_15 (by decide) hv, hb.s14] at e
  by_cases z : v = 0
  · rw [if_pos z] at e; cases e; exact K0 z m (by omega)
  · rw [if_neg z] at e; cases e; exact K1 z m (by omega))
theorem fq.un {A B : List Nat} (ha : fq hh aa 1 A) (hb : fq hh aa 2 B) : fq hh aa 2 (A ++ [15000] ++ B ++ [14000]) := ⟨by
    have e : A ++ [15000] ++ B ++ [14000] = A ++ ([15000] ++ B ++ [14000]) := by simp
    rw [e]; exact ha.1.app (bq.un hb.1), mem_ap (mem_ap (mem_ap ha.2.1 (mem_on (by decide))) hb.2.1) (mem_on (by decide)), fun n r K st sd => by
  have e : A ++ [15000] ++ B ++ [14000] ++ r = A ++ (15000 :: (B ++ (14000 :: r))) := by simp
  rw [e]
  refine ha.2.2 n _ (fun m st sd hm ht => ?_) st sd
  obtain ⟨v, t, rfl, hv⟩ := ht (by decide)
  exact okm.unl hb.1 (by omega) (fun _ m' hm' => hb.2.2 m' _ (fun m2 st sd hm2 ht => okm.end_ (by decide) (fun m3 hm3 => K m3 st sd (by omega) ht)) _ _) (fun _ m' hm' => K m' t sd (by omega) (fun z => absurd z (by decide)))⟩
theorem fq.tw {j : Nat} {A B : List Nat} (ha : fq hh aa 1 A) (hb : fq hh aa j B) : fq hh aa j (A ++ [16000] ++ [15000] ++ B ++ [14000]) := ⟨by
    have e : A ++ [16000] ++ [15000] ++ B ++ [14000] = (A ++ [16000]) ++ ([15000] ++ B ++ [14000]) := by simp
    rw [e]; exact (ha.1.app (bq.one (by decide) (by decide) (by decide) (by decide))).app (bq.un hb.1), mem_ap (mem_ap (mem_ap (mem_ap ha.2.1 (mem_on (by decide))) (mem_on (by decide))) hb.2.1) (mem_on (by decide)), fun n r K st sd => by
  have e : A ++ [16000] ++ [15000] ++ B ++ [14000] ++ r = A ++ (16000 :: (15000 :: (B ++ (14000 :: r)))) := by simp
  rw [e]
  refine ha.2.2 n _ (fun m st sd hm ht => ?_) st sd
  obtain ⟨v, t, rfl, hv⟩ := ht (by decide)
  refine okm.lt ⟨fun _ => ⟨v, t, rfl, by omega⟩, fun h => absurd h (by decide), fun h => absurd h (by decide)⟩ (fun m2 hm2 r' st' sd' e => ?_)
  rw [stp_16 (by decide) (by omega)] at e
  by_cases z : v = 0
  · rw [if_pos z] at e
    cases e
    exact okm.unl hb.1 (by omega) (fun _ m' hm' => hb.2.2 m' _ (fun m2 st sd hm2 ht => okm.end_ (by decide) (fun m3 hm3 => K m3 st sd (by omega) ht)) _ _) (fun y => absurd z y)
  · rw [if_neg z] at e
    cases e
    exact okm.unl hb.1 (by omega) (fun y => absurd y z) (fun _ m' hm' => K m' _ _ (by omega) (fun _ => ⟨v, t, rfl, hv⟩))⟩
theorem fq_cat {cw : Nat → List Nat} {jj : Nat → Nat} : ∀ n, (∀ i, i < n → fq hh aa (jj i) (cw i)) → fq hh aa 2 (cat cw n) := by
  intro n
  induction n with
  | zero => intro _; exact fq.nil
  | succ n ih => intro h; exact (ih (fun i hi => h i (by omega))).seq ((h n (by omega)).wk (fun z => absurd z (by decide)))
theorem fq_asd {cw : Nat → List Nat} {m j : Nat} (hm : 1000 ≤ m ∧ m < 18000) (hk : m / 1000 = 6 ∨ m / 1000 = 7 ∨ m / 1000 = 8) (hj : j < 2 → m / 1000 ≠ 8) : ∀ n, (∀ i, i < n → fq hh aa 1 (cw i)) → (2 ≤ n → fq hh aa j (asd cw m n)) ∧ fq hh aa 2 (asd cw m n) := by
  have w2 : ∀ {i : Nat} {L : List Nat}, fq hh aa i L → fq hh aa 2 L := fun h => h.wk (fun z => absurd z (by decide))
  intro n
  induction n with
  | zero => intro _; exact ⟨fun h => absurd h (by decide), fq.nil⟩
  | succ n ih =>
    intro h
    have p2 := (ih (fun i hi => h i (by omega))).2
    by_cases z : n = 0
    · refine ⟨fun h => by omega, ?_⟩
      show fq hh aa 2 (asd cw m n ++ (if n = 0 then cw 0 else [10000] ++ cw n ++ [11000] ++ [m]))
      rw [if_pos z]
      exact p2.seq (w2 (h 0 (by omega)))
    · have q : ∀ j, (j < 2 → m / 1000 ≠ 8) → fq hh aa j (asd cw m n ++ ([10000] ++ cw n ++ [11000] ++ [m])) := fun j hj => p2.seq ((((fq.one (j := 2) (by decide) (by decide) (by decide) (by decide) (by decide) (by decide) (fun z => absurd z (by decide))).seq (h n (by omega))).seq (fq.one (j := 2) (by decide) (by decide) (by decide) (by decide) (by decide) (by decide) (fun z => absurd z (by decide)))).seq (fq.one hm (by omega) (by omega) (by omega) (by omega) (by omega) (fun y => by have := hj y; omega)))
      have e : asd cw m (n + 1) = asd cw m n ++ ([10000] ++ cw n ++ [11000] ++ [m]) := by
        show asd cw m n ++ (if n = 0 then cw 0 else [10000] ++ cw n ++ [11000] ++ [m]) = _
        rw [if_neg z]
      rw [e]
      exact ⟨fun _ => q j hj, q 2 (fun z => absurd z (by decide))⟩
theorem wds_fq {M p j w : Nat} {kd ar cn lf : Nat → Nat} {ch : Nat → Nat → Nat} {cw : Nat → List Nat} (W : tW M kd ar cn lf ch) (hp : p < M) (hw : wok (kd p) (ar p) (cn p) j w) (h : ∀ i, i < ct cn w p → fq hh aa (cj cn w p i) (cw i)) : fq hh aa j (wds kd ar cn w p cw) := by
  obtain ⟨⟨l1, l2, k1, k7, r9⟩, kl, kb⟩ := W.2.2 p hp
  have w2 : ∀ {i : Nat} {L : List Nat}, fq hh aa i L → fq hh aa 2 L := fun h => h.wk (fun z => absurd z (by decide))
  unfold wds
  by_cases z1 : rul w = 1
  · rw [if_pos z1]
    have k4 : kd p ≤ 4 := by have := rul_1 z1; unfold wok at hw; omega
    exact fq.one (by omega) (by omega) (by omega) (by omega) (by omega) (by omega) (fun _ => by omega)
  rw [if_neg z1]
  by_cases z3 : rul w = 3
  · rw [if_pos z3]
    have e24 := rul_3 z3
    have j2 : j = 2 := by unfold wok at hw; omega
    rw [j2]
    exact (fq_cat _ h).seq (fq.one (by decide) (by decide) (by decide) (by decide) (by decide) (by decide) (fun z => absurd z (by decide)))
  rw [if_neg z3]
  by_cases z4 : rul w = 4
  · rw [if_pos z4]
    have w4 := rul_4 z4
    have k5 : 5 ≤ kd p := by unfold wok at hw; omega
    have hk := ck_678 ⟨k5, k7⟩
    have n2 := (kb k5).1
    have c : ct cn w p = cn p := by rcases w4 with rfl | rfl | rfl <;> rfl
    have ej : ∀ i, cj cn w p i = 1 := fun i => by rcases w4 with rfl | rfl | rfl <;> rfl
    have h1 : ∀ i, i < ct cn w p → fq hh aa 1 (cw i) := fun i hi => by have := h i hi; rw [ej i] at this; exact this
    by_cases z7 : w = 7
    · rw [if_pos z7]
      exact (fq_asd (j := 2) (m := 1000 * ck (kd p)) (by omega) (by omega) (fun z => absurd z (by decide)) (ct cn w p) h1).2.seq (fq.one (by omega) (by omega) (by omega) (by omega) (by omega) (by omega) (fun _ => by omega))
    · rw [if_neg z7, List.append_nil]
      have k8 : ck (kd p) ≠ 8 := by
        have : kd p = 5 ∨ kd p = 6 := by unfold wok at hw; omega
        rcases this with e | e <;> rw [e] <;> decide
      exact (fq_asd (j := j) (m := 1000 * ck (kd p)) (by omega) (by omega) (fun _ => by omega) (ct cn w p) h1).1 (by omega)
  rw [if_neg z4]
  by_cases z5 : rul w = 5
  · have c := ct_2 (cn := cn) (p := p) (Or.inl z5)
    rw [if_pos z5]
    have w5 : w = 5 ∨ w = 6 ∨ w = 17 ∨ w = 23 := by
      unfold rul at z5
      repeat' split at z5
      all_goals omega
    have lt : ∀ {a : Nat} (b : Nat), a = b → b < 2 → a < 2 := fun b e h => e ▸ h
    have jj0 : j < 2 → cj cn w p 0 < 2 := fun hj => by
      rcases w5 with e | e | e | e
      · exact lt 1 (by rw [e]; rfl) (by decide)
      · exact lt 0 (by rw [e]; rfl) (by decide)
      · exact lt 0 (by rw [e]; rfl) (by decide)
      · unfold wok at hw; omega
    have jj1 : j < 2 → cj cn w p 1 < 2 := fun hj => by
      rcases w5 with e | e | e | e
      · exact lt 0 (by rw [e]; rfl) (by decide)
      · exact lt 1 (by rw [e]; rfl) (by decide)
      · exact lt 0 (by rw [e]; rfl) (by decide)
      · unfold wok at hw; omega
    exact fq.if_ ((h 0 (by omega)).wk jj0) ((h 1 (by omega)).wk jj1)
  rw [if_neg z5]
  by_cases z6 : rul w = 6
  · have c := ct_1 (cn := cn) (p := p) z6
    have e8 : w = 8 := by
      unfold rul at z6
      repeat' split at z6
      all_goals omega
    have c0 : cj cn w p 0 = 0 := by rw [e8]; rfl
    rw [if_pos z6]
    exact fq.if_ ((h 0 (by omega)).wk (fun _ => by rw [c0]; decide)) (fq.one (by decide) (by decide) (by decide) (by decide) (by decide) (by decide) (fun _ => by decide))
  rw [if_neg z6]
  by_cases z7 : rul w = 7
  · have c := ct_2 (cn := cn) (p := p) (Or.inr (Or.inl z7))
    rw [if_pos z7]
    have w7 : w = 4 ∨ w = 15 ∨ w = 16 := by
      rcases rul_78 hw (Or.inl z7) with e | e | e | e
      · exact Or.inl e
      · exact Or.inr (Or.inl e)
      · exact Or.inr (Or.inr e)
      · rw [e] at z7; exact absurd z7 (by decide)
    have c0 : cj cn w p 0 = 1 := by rcases w7 with e | e | e <;> rw [e] <;> rfl
    have lt : ∀ {a : Nat} (b : Nat), a = b → b < 2 → a < 2 := fun b e h => e ▸ h
    have c1 : cj cn w p 1 < 2 := by
      rcases w7 with e | e | e
      · exact lt 1 (by rw [e]; rfl) (by decide)
      · exact lt 0 (by rw [e]; rfl) (by decide)
      · exact lt 0 (by rw [e]; rfl) (by decide)
    have h0 := h 0 (by omega)
    rw [c0] at h0
    exact fq.tw h0 ((h 1 (by omega)).wk (fun _ => c1))
  rw [if_neg z7]
  by_cases z8 : rul w = 8
  · have c := ct_2 (cn := cn) (p := p) (Or.inr (Or.inr z8))
    rw [if_pos z8]
    have e22 : w = 22 := by
      rcases rul_78 hw (Or.inr z8) with e | e | e | e
      · rw [e] at z8; exact absurd z8 (by decide)
      · rw [e] at z8; exact absurd z8 (by decide)
      · rw [e] at z8; exact absurd z8 (by decide)
      · exact e
    have j2 : j = 2 := by unfold wok at hw; omega
    have c0 : cj cn w p 0 = 1 := by rw [e22]; rfl
    have h0 := h 0 (by omega)
    rw [c0] at h0
    rw [j2]
    exact fq.un h0 (w2 (h 1 (by omega)))
  rw [if_neg z8]
  have rr := rul_r w
  have w2' := rul_2 (show rul w = 2 by omega)
  obtain ⟨n, en⟩ : ∃ n, ct cn w p = n + 1 := by
    refine ⟨ct cn w p - 1, ?_⟩
    rcases ct_cn W hp hw (by omega) with ⟨-, e, -⟩ | ⟨e, e2, -⟩
    · omega
    · omega
  rw [en]
  refine ((fq_cat n (fun i hi => h i (by omega))).seq ((h n (by omega)).wk (fun hj => ?_)))
  rcases w2' with e | e | e | e
  · have n1 : n = 1 := by rw [e] at en; have : (2 : Nat) = n + 1 := en; omega
    rw [show cj cn w p n = 0 by rw [e, n1]; rfl]; decide
  · have n1 : n = 1 := by rw [e] at en; have : (2 : Nat) = n + 1 := en; omega
    rw [show cj cn w p n = 0 by rw [e, n1]; rfl]; decide
  · have : cn p = n + 1 := by rw [e] at en; exact en
    rw [e]
    show (if n + 1 < cn p then 2 else 0) < 2
    rw [if_neg (by omega)]; decide
  · unfold wok at hw; omega
theorem Wd_fq {M : Nat} {kd ar cn lf : Nat → Nat} {ch : Nat → Nat → Nat} {Y : Nat → Nat → Nat × Nat × Nat} {R : Nat → List Nat} (W : tW M kd ar cn lf ch) (F : ∀ q, q < M → xF kd ar cn ch Y R q) : ∀ (n q j : Nat), dpt M q j ≤ n → q < M → j < 3 → fq hh aa j (Wd kd ar cn ch Y q j) := by
  intro n
  induction n with
  | zero => intro q j h hq; unfold dpt at h; omega
  | succ n ih =>
    intro q j h hq hj
    rw [Wd_fix W F hq hj]
    exact wds_fq W hq ((F q hq).way W hq hj).2.1 (fun i hi => by
      obtain ⟨a, b⟩ := dpt_lt W F hq hj hi
      exact ih _ _ (by omega) a (cj_lt _ _ _ _))
/-- the script's machine always finds what it looks for -/
theorem Wd_okm {M : Nat} {kd ar cn lf : Nat → Nat} {ch : Nat → Nat → Nat} {Y : Nat → Nat → Nat × Nat × Nat} {R : Nat → List Nat} (W : tW M kd ar cn lf ch) (F : ∀ q, q < M → xF kd ar cn ch Y R q) (n : Nat) (st sd : List Nat) : okm hh aa n (Wd kd ar cn ch Y 0 0) st sd := by
  have h := (Wd_fq (hh := hh) (aa := aa) W F _ 0 0 (Nat.le_refl _) W.1 (by decide)).2.2 n [] (fun m st sd _ _ => by cases m <;> exact trivial) st sd
  rw [List.append_nil] at h
  exact h
end XMach

