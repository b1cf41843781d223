/-! The policy is the same on both sides; so is what was typed. -/
def tE (u : ab_S) : Prop := (u.1 17 0 4 = 0 ∧ u.2.1 0 0 7 = none) ∨ (u.1 17 0 4 = 1 ∧ u.2.1 0 0 7 = some (2, 1) ∧ ∃ (P : Nat) (kd ar cn lf : Nat → Nat) (ch : Nat → Nat → Nat), tW P kd ar cn lf ch ∧ tR P kd ar cn ch u ∧ cT P kd ar cn ch u ∧ u.1 17 0 6 = nI (lcn kd P))
theorem tR.cong {P : Nat} {kd ar cn : Nat → Nat} {ch : Nat → Nat → Nat} {u u' : ab_S} (T : tR P kd ar cn ch u) (e5 : u'.1 17 0 5 = u.1 17 0 5) (e8 : ∀ a k, 1 ≤ a → a ≤ 4 → u'.1 18 a k = u.1 18 a k) : tR P kd ar cn ch u' := ⟨e5.trans T.1, fun p hp => by
  obtain ⟨x1, x2, x3, x4⟩ := T.2 p hp
  exact ⟨(e8 _ _ (by decide) (by decide)).trans x1, (e8 _ _ (by decide) (by decide)).trans x2, (e8 _ _ (by decide) (by decide)).trans x3, fun i hi => (e8 _ _ (by decide) (by decide)).trans (x4 i hi)⟩⟩
theorem tE.cong {u u' : ab_S} (h : tE u) (a : ∀ s, s = 4 ∨ s = 5 ∨ s = 6 → u'.1 17 0 s = u.1 17 0 s) (b : ∀ a k, 1 ≤ a → a ≤ 4 → u'.1 18 a k = u.1 18 a k) (c : ∀ k, k ≠ 3 → u'.1 1 0 k = u.1 1 0 k) (d : ∀ i k, k ≠ 7 → u'.1 2 i k = u.1 2 i k) (e : ∀ i k, u'.2.1 10 i k = u.2.1 10 i k) (f : u'.2.1 0 0 7 = u.2.1 0 0 7) : tE u' := by
  rcases h with ⟨h4, hp⟩ | ⟨h4, hp, P, kd, ar, cn, lf, ch, W, T, C, l6⟩
  · exact Or.inl ⟨(a 4 (by omega)).trans h4, f.trans hp⟩
  · exact Or.inr ⟨(a 4 (by omega)).trans h4, f.trans hp, P, kd, ar, cn, lf, ch, W, T.cong (a 5 (by omega)) b, C.cong (c 6 (by omega)) (c 7 (by omega)) (fun i k z => d i k (by omega)) e, (a 6 (by omega)).trans l6⟩
/-- what holds at the law's loop, the policy and the text with it -/
def LT (u : ab_S) : Prop := CI u ∧ MI u ∧ (∃ n, n ≤ 100 ∧ u.1 1 0 3 = nI n ∧ u.1 17 0 2 = nI n ∧ ∀ k, k < n → u.1 11 0 k = u.1 18 0 k) ∧ tE u
theorem LT.h {u u' : ab_S} (h : LT u) (g : hK u u') : LT u' := by
  obtain ⟨hc, m, ⟨n, hn, e1, e2, e3⟩, e4⟩ := h
  obtain ⟨⟨⟨g1, g2, g3, g4⟩, g5⟩, k1, k2, k3, k4, k5⟩ := g
  exact ⟨g1, m.cong g4 g2 g3, ⟨n, hn, g5.trans e1, (g2 _ _).trans e2, fun k hk => (k3 _ _).trans ((e3 k hk).trans (g3 _ _).symm)⟩, e4.cong (fun s _ => g2 _ _) (fun a k _ _ => g3 _ _) (fun k _ => k1 _ _) k2 k5 (k4 _ _)⟩
theorem LT.o {u u' : ab_S} (h : LT u) (g : oP u u') : LT u' := by
  obtain ⟨hc, -, ⟨n, hn, e1, e2, e3⟩, e4⟩ := h
  obtain ⟨m, os, t2, ot1, ot2⟩ := g
  have k : ∀ c i k, c < 17 → u'.1 c i k = u.1 c i k := fun c i k z => os.2 c i k (by omega) (by omega) (by omega)
  exact ⟨hc.oS os, m, ⟨n, hn, (k _ _ _ (by decide)).trans e1, t2.trans e2, fun j hj => (k _ _ _ (by decide)).trans ((e3 j hj).trans (ot2 0 j (by decide)).symm)⟩, e4.cong ot1 (fun a k _ z => ot2 a k z) (fun j _ => k _ _ _ (by decide)) (fun i j _ => k _ _ _ (by decide)) (fun i j => by rw [os.1]) (by rw [os.1])⟩
/-- after a read on both sides -/
theorem LT.read {u u1 u2 : ab_S} {T : Nat → Int32} {t : Nat} (w : rdR T t u u1) (m : MI u2) (os : oS u1 u2) (t2 : u2.1 17 0 2 = nI 0) (r : (parse T t = none ∧ u2.1 17 0 4 = 0) ∨ ∃ (q M O : Nat) (kd ar cn op lf : Nat → Nat) (ch : Nat → Nat → Nat), parse T t = some (q, M, O, kd, ar, cn, op, ch) ∧ u2.1 17 0 4 = 1 ∧ tW M kd ar cn lf ch ∧ tR M kd ar cn ch u2 ∧ fV M kd lf 0 u2 ∧ u2.1 17 0 6 = nI (lcn kd M)) : LT u2 := by
  obtain ⟨⟨hi, hl⟩, hp⟩ := w
  have k : ∀ c i k, c < 17 → u2.1 c i k = u1.1 c i k := fun c i k z => os.2 c i k (by omega) (by omega) (by omega)
  refine ⟨hi.1.oS os, m, ⟨0, by decide, ((k _ _ _ (by decide)).trans hl).trans rfl, t2, fun j hj => absurd hj (Nat.not_lt_zero j)⟩, ?_⟩
  rcases r with ⟨r1, r2⟩ | ⟨q, M, O, kd, ar, cn, op, lf, ch, r1, r2, W, T2, -, l6⟩
  · rcases hp with ⟨-, p2⟩ | ⟨_, _, _, _, _, _, _, _, p1, -⟩
    · exact Or.inl ⟨r2, by rw [os.1]; exact p2⟩
    · rw [r1] at p1; cases p1
  · rcases hp with ⟨p1, -⟩ | ⟨_, _, _, _, _, _, _, _, p1, p2, C⟩
    · rw [r1] at p1; cases p1
    · rw [r1] at p1
      cases p1
      exact Or.inr ⟨r2, by rw [os.1]; exact p2, M, kd, ar, cn, lf, ch, W, T2, C.cong (k _ _ _ (by decide)) (k _ _ _ (by decide)) (fun i j _ => k _ _ _ (by decide)) (fun i j => by rw [os.1]), l6⟩
theorem ab_CW_mono {l : Launch} {D : va_G} {ca : Nat → ClassId} {y : MethodName} {cc : ByteArray} {nL : Nat} {ret : Option FieldType} {hh : List (Nat × Nat × Nat × Nat)} {d : Nat} {N : Nat → Nat} {u : ab_S} {av : List ab_V} {P P' : ab_S → Option ab_V → Prop} (h : ab_CW l D ca y cc nL ret hh d N u av P) (k : ∀ u' v, P u' v → P' u' v) : ab_CW l D ca y cc nL ret hh d N u av P' := fun ad sz p e ha hc hk s m args below hf happ hP ht => by
  obtain ⟨k', o, h1, h2, h3, hq, hr⟩ := h ad sz p e ha hc hk s m args below hf happ hP ht
  obtain ⟨⟨u', r, a1, a2, a3⟩, a4⟩ := hq
  exact ⟨k', o, h1, h2, h3, ⟨⟨u', r, a1, k u' r a2, a3⟩, a4⟩, hr⟩
theorem h_LW_holdsx {l : Launch} {D : va_G} {ca : Nat → ClassId} (hfl : ab_fl0 l) (u : ab_S) (a1 a2 a3 a4 : Int32) (hT : tE u) (h : CI u) : ab_CW l D ca y_LW_holds b_LW_holds 7 (some .int) [(0, 21, 24, 19)] 9 ab_nQ u [ab_O 0 0, ab_I a1, ab_I a2, ab_I a3, ab_I a4, ab_O 20 0] (fun u' v => hK u u' ∧ ∃ x : Int32, v = some (ab_I x)) := by
  rcases hT with ⟨h4, hpn⟩ | ⟨h4, hps, P, kd, ar, cn, lf, ch, W, T2, C, l6⟩
  · refine ab_CW_mono (h_LW_holds hfl u a1 a2 a3 a4 0 z1f z1f z1f z1f z2f (Or.inl hpn) h) ?_
    rintro u' v (⟨-, rfl, rfl⟩ | ⟨-, w, -, rfl⟩)
    · exact ⟨hK.rf h, _, rfl⟩
    · exact ⟨w, _, rfl⟩
  · refine ab_CW_mono (h_LW_holds hfl u a1 a2 a3 a4 P kd ar cn lf ch (Or.inr ⟨hps, W, C⟩) h) ?_
    rintro u' v (⟨-, rfl, rfl⟩ | ⟨-, w, -, rfl⟩)
    · exact ⟨hK.rf h, _, rfl⟩
    · exact ⟨w, _, rfl⟩
/-! What is typed, on both sides. -/
def tx_C (n : Nat) (q : ab_S × Option Nat) (r : ab_S × Nat × Bool) : Prop := n ≤ r.2.1 ∧ (∀ j, q.2 = some j → n ≤ j) ∧ (∀ k, k < n → q.1.1 11 0 k = r.1.1 18 0 k) ∧ ∀ j, q.2 = some j → j ≤ 100 → ∀ k, k < j → q.1.1 11 0 k = r.1.1 18 0 k
theorem tx_C1 {n : Nat} {q : ab_S × Option Nat} {r : ab_S × Nat × Bool} {c : Int32} (h : tx_C n q r) (hR : tx_R q.2 r.2.1 r.2.2) : tx_C n (tc_st q.1 q.2 c) (tm_st r c) := by
  obtain ⟨u, o⟩ := q
  obtain ⟨v, m, b⟩ := r
  obtain ⟨h1, h2, h3, h4⟩ := h
  have h1 : n ≤ m := h1
  cases o with
  | none =>
    have e : tc_st u none c = (u, none) := rfl
    show tx_C n (tc_st u none c) (tm_st (v, m, b) c)
    rw [e]
    by_cases h0 : c = 0
    · rw [tm_st0 h0]; exact ⟨h1, h2, h3, h4⟩
    · by_cases hb : c < 33 ∨ 126 < c ∨ m = 100
      · rw [tm_stb h0 hb]
        exact ⟨h1, h2, fun k hk => (h3 k hk).trans (ui_n _ (by omega)).symm, fun j hj => (by cases hj)⟩
      · rw [tm_stg h0 hb]
        exact ⟨Nat.le_succ_of_le h1, h2, fun k hk => (h3 k hk).trans ((ui_n _ (by omega)).trans (ui_n _ (by show ¬ (18 = 18 ∧ 0 = 0 ∧ k = m); omega))).symm, fun j hj => (by cases hj)⟩
  | some j =>
    have nj : n ≤ j := h2 j rfl
    show tx_C n (tc_st u (some j) c) (tm_st (v, m, b) c)
    by_cases h0 : c = 0
    · rw [tc_st0 h0, tm_st0 h0]; exact ⟨h1, h2, h3, h4⟩
    · by_cases hb : c < 33 ∨ 126 < c
      · rw [tc_stb h0 hb, tm_stb h0 (by rcases hb with z | z; exact Or.inl z; exact Or.inr (Or.inl z))]
        exact ⟨h1, fun j hj => (by cases hj), fun k hk => (h3 k hk).trans (ui_n _ (by omega)).symm, fun j hj => (by cases hj)⟩
      · rw [tc_stg h0 hb]
        have h2' : ∀ j', some (j + 1) = some j' → n ≤ j' := fun j' e => by cases e; omega
        by_cases hm : m = 100
        · rw [tm_stb h0 (Or.inr (Or.inr hm))]
          refine ⟨h1, h2', fun k hk => ?_, fun j' e hj' => ?_⟩
          · exact (ui_n _ (by omega)).trans ((h3 k hk).trans (ui_n _ (by omega)).symm)
          · cases e
            rcases hR with ⟨x1, x2, -⟩ | ⟨x1, -⟩
            · have x2 : m = j := x2
              omega
            · omega
        · rw [tm_stg h0 (fun z => by rcases z with z | z | z; exact hb (Or.inl z); exact hb (Or.inr z); exact hm z)]
          refine ⟨Nat.le_succ_of_le h1, h2', fun k hk => ?_, fun j' e hj' k hk => ?_⟩
          · exact (ui_n _ (by omega)).trans ((h3 k hk).trans ((ui_n _ (by omega)).trans (ui_n _ (by show ¬ (18 = 18 ∧ 0 = 0 ∧ k = m); omega))).symm)
          · cases e
            rcases hR with ⟨x1, x2, -⟩ | ⟨x1, -⟩
            · have x2 : m = j := x2
              subst x2
              by_cases z : k = m
              · subst z
                exact (ui_s _).trans ((ui_n _ (by omega)).trans (ui_s _)).symm
              · exact (ui_n _ (by omega)).trans ((h4 m rfl x1 k (by omega)).trans ((ui_n _ (by omega)).trans (ui_n _ (by show ¬ (18 = 18 ∧ 0 = 0 ∧ k = m); omega))).symm)
            · omega
theorem tx_Cr {n : Nat} (cs : List Int32) : ∀ (q : ab_S × Option Nat) (r : ab_S × Nat × Bool), tx_C n q r → tx_R q.2 r.2.1 r.2.2 → tx_C n (tc_run cs q) (tm_run cs r) := by
  induction cs with
  | nil => exact fun q r h _ => h
  | cons c cs ih => exact fun q r h hR => ih _ _ (tx_C1 h hR) (tx_rel [c] q r hR)

