/-! The policy, its forms and its script are the same on both sides; so is what was typed. -/
/-- the class's forms, the rows aside -/
def cY (M : Nat) (kd ar cn : Nat → Nat) (ch : Nat → Nat → Nat) (Y : Nat → Nat → Nat × Nat × Nat) (u : ab_S) : Prop := ∀ q, q < M → ∀ j, j < 3 → Fw kd ar cn ch u q (3 * (q + 1) + j) (Y q j).1 ∧ u.1 3 (3 * (q + 1) + j) 8 = nI (Y q j).2.1 ∧ u.1 3 (3 * (q + 1) + j) 9 = nI (Y q j).2.2
theorem cX.cy {M : Nat} {kd ar cn : Nat → Nat} {ch : Nat → Nat → Nat} {Y : Nat → Nat → Nat × Nat × Nat} {R : Nat → List Nat} {u : ab_S} (h : cX M kd ar cn ch Y R 0 u) : cY M kd ar cn ch Y u := fun q hq j hj => ⟨(h q (Nat.zero_le _) hq j hj).1, (h q (Nat.zero_le _) hq j hj).2.1, (h q (Nat.zero_le _) hq j hj).2.2.1⟩
theorem cY.cong {M : Nat} {kd ar cn : Nat → Nat} {ch : Nat → Nat → Nat} {Y : Nat → Nat → Nat × Nat × Nat} {u u' : ab_S} (h : cY M kd ar cn ch Y u) (a : ∀ i k, u'.1 3 i k = u.1 3 i k) (b : ∀ i k, u'.2.1 9 i k = u.2.1 9 i k) : cY M kd ar cn ch Y u' := fun q hq j hj => by
  obtain ⟨⟨x1, x2, x3, x4, x5⟩, y1, y2⟩ := h q hq j hj
  exact ⟨⟨(a _ _).trans x1, (a _ _).trans x2, (a _ _).trans x3, (a _ _).trans x4, fun i hi => (b _ _).trans (x5 i hi)⟩, (a _ _).trans y1, (a _ _).trans y2⟩
theorem sX.cong {u u' : ab_S} {ws fs : List Nat} (h : sX u ws fs) (a : ∀ c i k, c = 5 ∨ c = 13 → u'.1 c i k = u.1 c i k) (b : ∀ i k, u'.2.1 14 i k = u.2.1 14 i k) : sX u' ws fs := ⟨(a _ _ _ (Or.inl rfl)).trans h.1, fun i hi => (a _ _ _ (Or.inr rfl)).trans (h.2.1 i hi), (a _ _ _ (Or.inl rfl)).trans h.2.2.1, fun i hi => (b _ _).trans (h.2.2.2 i hi)⟩
theorem mX.cong {M : Nat} {kd ar cn : Nat → Nat} {ch : Nat → Nat → Nat} {Y : Nat → Nat → Nat × Nat × Nat} {R : Nat → List Nat} {lo : Nat} {u u' : ab_S} (h : mX M kd ar cn ch Y R lo u) (k : ∀ a i, 1 ≤ a → a ≤ 9 → u'.1 18 a i = u.1 18 a i) : mX M kd ar cn ch Y R lo u' := fun q a b => by
  obtain ⟨⟨⟨x1, x2, x3⟩, x4⟩, y⟩ := h q a b
  have k5 := fun i => k 5 i (by decide) (by decide)
  have k6 := fun i => k 6 i (by decide) (by decide)
  have k7 := fun i => k 7 i (by decide) (by decide)
  have k8 := fun i => k 8 i (by decide) (by decide)
  have k9 := fun i => k 9 i (by decide) (by decide)
  exact ⟨⟨⟨⟨(k6 _).trans x1.1, (k7 _).trans x1.2⟩, ⟨(k6 _).trans x2.1, (k7 _).trans x2.2⟩, (k6 _).trans x3.1, (k7 _).trans x3.2⟩, (k8 _).trans x4⟩, fun j hj => ⟨(k5 _).trans (y j hj).1, (y j hj).2.keep (k6 _) (fun x _ _ => k9 x)⟩⟩
def tE (u : ab_S) : Prop := (u.1 17 0 4 = 0 ∧ u.2.1 0 0 7 = none ∧ sX u [] []) ∨ (u.1 17 0 4 = 1 ∧ u.2.1 0 0 7 = some (2, 1) ∧ ∃ (P : Nat) (kd ar cn lf : Nat → Nat) (ch : Nat → Nat → Nat) (Y : Nat → Nat → Nat × Nat × Nat) (R : Nat → List Nat), tW P kd ar cn lf ch ∧ (∀ q, q < P → xF kd ar cn ch Y R q) ∧ tR P kd ar cn ch u ∧ cT P kd ar cn ch u ∧ u.1 17 0 6 = nI (lcn kd P) ∧ cY P kd ar cn ch Y u ∧ mX P kd ar cn ch Y R 0 u ∧ sX u (Wd kd ar cn ch Y 0 0) (Fl cn ch Y 0 0) ∧ ∀ c, c < P → Rw u (2 * (3 * (c + 1) + 1) + 1) (R c))
theorem tR.cong {P : Nat} {kd ar cn : Nat → Nat} {ch : Nat → Nat → Nat} {u u' : ab_S} (T : tR P kd ar cn ch u) (e5 : u'.1 17 0 5 = u.1 17 0 5) (e8 : ∀ a k, 1 ≤ a → a ≤ 9 → u'.1 18 a k = u.1 18 a k) : tR P kd ar cn ch u' := ⟨e5.trans T.1, fun p hp => by
  obtain ⟨x1, x2, x3, x4⟩ := T.2 p hp
  exact ⟨(e8 _ _ (by decide) (by decide)).trans x1, (e8 _ _ (by decide) (by decide)).trans x2, (e8 _ _ (by decide) (by decide)).trans x3, fun i hi => (e8 _ _ (by decide) (by decide)).trans (x4 i hi)⟩⟩
theorem tE.cong {u u' : ab_S} (h : tE u) (a : ∀ s, s = 4 ∨ s = 5 ∨ s = 6 → u'.1 17 0 s = u.1 17 0 s) (b : ∀ a k, 1 ≤ a → a ≤ 9 → u'.1 18 a k = u.1 18 a k) (c : ∀ k, k ≠ 3 → u'.1 1 0 k = u.1 1 0 k) (d : ∀ i k, k ≠ 7 → u'.1 2 i k = u.1 2 i k) (e : ∀ c i k, c = 3 ∨ c = 5 ∨ c = 13 → u'.1 c i k = u.1 c i k) (f : ∀ c i k, c = 0 ∨ c = 9 ∨ c = 10 ∨ c = 14 → u'.2.1 c i k = u.2.1 c i k) (kr : kR u u') : tE u' := by
  rcases h with ⟨h4, hp, S⟩ | ⟨h4, hp, P, kd, ar, cn, lf, ch, Y, R, W, F, T, C, l6, CY, MX, S, RW⟩
  · exact Or.inl ⟨(a 4 (by omega)).trans h4, (f _ _ _ (by decide)).trans hp, S.cong (fun c i k z => e c i k (by omega)) (fun i k => f _ _ _ (by decide))⟩
  · exact Or.inr ⟨(a 4 (by omega)).trans h4, (f _ _ _ (by decide)).trans hp, P, kd, ar, cn, lf, ch, Y, R, W, F, T.cong (a 5 (by omega)) b, C.cong (c 6 (by omega)) (c 7 (by omega)) (fun i k z => d i k (by omega)) (fun i k => f _ _ _ (by decide)), (a 6 (by omega)).trans l6, CY.cong (fun i k => e _ _ _ (by decide)) (fun i k => f _ _ _ (by decide)), MX.cong b, S.cong (fun c i k z => e c i k (by omega)) (fun i k => f _ _ _ (by decide)), fun c hc => (RW c hc).cong (fun k => (kr _ _ (by omega) (by have := W.2.1; omega)).1) (fun k => (kr _ _ (by omega) (by have := W.2.1; omega)).2)⟩
theorem dnn.cong {u u' : ab_S} (h : dnn u) (a : ∀ i k, u'.1 3 i k = u.1 3 i k) : dnn u' := fun f hf => (a f 1).trans (h f hf)
/-- what holds at the law's loop, the policy and the text with it -/
def LT (u : ab_S) : Prop := CI u ∧ MI u ∧ (∃ n, n ≤ 100 ∧ u.1 1 0 3 = nI n ∧ u.1 17 0 2 = nI n ∧ ∀ k, k < n → u.1 11 0 k = u.1 18 0 k) ∧ tE u ∧ dnn u
theorem LT.h {u u' : ab_S} (h : LT u) (g : hK u u') : LT u' := by
  obtain ⟨hc, m, ⟨n, hn, e1, e2, e3⟩, e4, dn⟩ := h
  obtain ⟨⟨⟨g1, g2, g3, g4⟩, g5⟩, k1, k2, k3, k4, kr⟩ := g
  exact ⟨g1, m.cong g4 g2 g3, ⟨n, hn, g5.trans e1, (g2 _ _).trans e2, fun k hk => (k3 _ _ _ (by decide)).trans ((e3 k hk).trans (g3 _ _).symm)⟩, e4.cong (fun s _ => g2 _ _) (fun a k _ _ => g3 _ _) (fun k _ => k1 _ _) k2 (fun c i k z => k3 c i k (by omega)) k4 kr, dn.cong (fun i k => k3 _ _ _ (by decide))⟩
theorem LT.o {u u' : ab_S} (h : LT u) (g : oP u u') : LT u' := by
  obtain ⟨hc, -, ⟨n, hn, e1, e2, e3⟩, e4, dn⟩ := h
  obtain ⟨m, os, t2, ot1, ot2⟩ := g
  have k : ∀ c i k, c < 17 → u'.1 c i k = u.1 c i k := fun c i k z => os.2 c i k (by omega) (by omega) (by omega)
  exact ⟨hc.oS os, m, ⟨n, hn, (k _ _ _ (by decide)).trans e1, t2.trans e2, fun j hj => (k _ _ _ (by decide)).trans ((e3 j hj).trans (ot2 0 j (by decide)).symm)⟩, e4.cong ot1 (fun a k _ z => ot2 a k z) (fun j _ => k _ _ _ (by decide)) (fun i j _ => k _ _ _ (by decide)) (fun c i j z => k _ _ _ (by omega)) (fun c i j _ => by rw [os.1]) (fun i j _ _ => ⟨k _ _ _ (by decide), k _ _ _ (by decide)⟩), dn.cong (fun i j => k _ _ _ (by decide))⟩
/-- after a read on both sides -/
theorem LT.read0 {u u1 u2 : ab_S} (w : hI u u1 ∧ u1.1 1 0 3 = 0) (dn : dnn u1) (p : u1.2.1 0 0 7 = none) (S : sX u1 [] []) (m : MI u2) (os : oS u1 u2) (t2 : u2.1 17 0 2 = nI 0) (r : u2.1 17 0 4 = 0) : LT u2 := by
  have k : ∀ c i k, c < 17 → u2.1 c i k = u1.1 c i k := fun c i k z => os.2 c i k (by omega) (by omega) (by omega)
  exact ⟨w.1.1.oS os, m, ⟨0, by decide, ((k _ _ _ (by decide)).trans w.2).trans rfl, t2, fun j hj => absurd hj (Nat.not_lt_zero j)⟩, Or.inl ⟨r, by rw [os.1]; exact p, S.cong (fun c i j z => k _ _ _ (by omega)) (fun i j => by rw [os.1])⟩, dn.cong (fun i j => k _ _ _ (by decide))⟩
theorem LT.read1 {u u1 u2 : ab_S} (w : hI u u1 ∧ u1.1 1 0 3 = 0) (dn : dnn u1) (p : u1.2.1 0 0 7 = some (2, 1)) {P : Nat} {kd ar cn lf : Nat → Nat} {ch : Nat → Nat → Nat} {Y : Nat → Nat → Nat × Nat × Nat} {R : Nat → List Nat} (W : tW P kd ar cn lf ch) (F : ∀ q, q < P → xF kd ar cn ch Y R q) (C : cT P kd ar cn ch u1) (CX : cX P kd ar cn ch Y R 0 u1) (S : sX u1 (Wd kd ar cn ch Y 0 0) (Fl cn ch Y 0 0)) (m : MI u2) (os : oS u1 u2) (t2 : u2.1 17 0 2 = nI 0) (r : u2.1 17 0 4 = 1) (T2 : tR P kd ar cn ch u2) (MX : mX P kd ar cn ch Y R 0 u2) (l6 : u2.1 17 0 6 = nI (lcn kd P)) : LT u2 := by
  have k : ∀ c i k, c < 17 → u2.1 c i k = u1.1 c i k := fun c i k z => os.2 c i k (by omega) (by omega) (by omega)
  exact ⟨w.1.1.oS os, m, ⟨0, by decide, ((k _ _ _ (by decide)).trans w.2).trans rfl, t2, fun j hj => absurd hj (Nat.not_lt_zero j)⟩, Or.inr ⟨r, by rw [os.1]; exact p, P, kd, ar, cn, lf, ch, Y, R, W, F, T2, C.cong (k _ _ _ (by decide)) (k _ _ _ (by decide)) (fun i j _ => k _ _ _ (by decide)) (fun i j => by rw [os.1]), l6, CX.cy.cong (fun i j => k _ _ _ (by decide)) (fun i j => by rw [os.1]), MX, S.cong (fun c i j z => k _ _ _ (by omega)) (fun i j => by rw [os.1]), fun c hc => ((CX c (Nat.zero_le _) hc 1 (by decide)).2.2.2 rfl).cong (fun j => k _ _ _ (by decide)) (fun j => k _ _ _ (by decide))⟩, dn.cong (fun i j => k _ _ _ (by decide))⟩
theorem sz_eq {u U : ab_S} {P : Nat} {kd ar cn lf : Nat → Nat} {ch : Nat → Nat → Nat} {Y : Nat → Nat → Nat × Nat × Nat} {R : Nat → List Nat} (W : tW P kd ar cn lf ch) (C : cT P kd ar cn ch u) (CY : cY P kd ar cn ch Y u) (T2 : tR P kd ar cn ch U) (MX : mX P kd ar cn ch Y R 0 U) (l6 : U.1 17 0 6 = nI (lcn kd P)) {j : Nat} (hj : j ≤ 7) : szC u j = szM U j := by
  have c0 := CY 0 W.1 0 (by decide)
  have c1 := CY 0 W.1 1 (by decide)
  have c2 := CY 0 W.1 2 (by decide)
  obtain ⟨⟨⟨x1, x2⟩, ⟨y1, y2⟩, z1, z2⟩, -⟩ := (MX 0 (Nat.zero_le _) W.1).1
  have em : mn P = P := by have := W.2.1; unfold mn; split <;> omega
  have j8 : j = 0 ∨ j = 1 ∨ j = 2 ∨ j = 3 ∨ j = 4 ∨ j = 5 ∨ j = 6 ∨ j = 7 := by omega
  rcases j8 with rfl | rfl | rfl | rfl | rfl | rfl | rfl | rfl
  · exact C.2.1.trans l6.symm
  · exact c0.2.1.trans x1.symm
  · exact c1.2.1.trans y1.symm
  · exact c2.2.1.trans z1.symm
  · exact c0.2.2.trans x2.symm
  · exact c1.2.2.trans y2.symm
  · exact c2.2.2.trans z2.symm
  · exact C.1.trans ((congrArg nI em).trans T2.1.symm)
theorem wd_eq {u U : ab_S} {ws fs : List Nat} (S : sX u ws fs) (G : rg U 0 ws) {j : Nat} (hj : j < ws.length) : u.1 13 0 j = U.1 18 9 j := (S.2.1 j hj).trans ((G.2.2 j hj).symm.trans (by rw [Nat.mul_zero, Nat.zero_add]))
theorem ab_CW_mono {l : Launch} {D : va_G} {ca : Nat → ClassId} {y : MethodName} {cc : ByteArray} {nL : Nat} {ret : Option FieldType} {hh : List (Nat × Nat × Nat × Nat)} {d : Nat} {N : Nat → Nat} {u : ab_S} {av : List ab_V} {P P' : ab_S → Option ab_V → Prop} (h : ab_CW l D ca y cc nL ret hh d N u av P) (k : ∀ u' v, P u' v → P' u' v) : ab_CW l D ca y cc nL ret hh d N u av P' := fun ad sz p e ha hc hk s m args below hf happ hP ht => by
  obtain ⟨k', o, h1, h2, h3, hq, hr⟩ := h ad sz p e ha hc hk s m args below hf happ hP ht
  obtain ⟨⟨u', r, a1, a2, a3⟩, a4⟩ := hq
  exact ⟨k', o, h1, h2, h3, ⟨⟨u', r, a1, k u' r a2, a3⟩, a4⟩, hr⟩
theorem h_LW_holdsx {l : Launch} {D : va_G} {ca : Nat → ClassId} (hfl : ab_fl0 l) (u : ab_S) (a1 a2 a3 a4 : Int32) (hT : tE u) (h : CI u) : ab_CW l D ca y_LW_holds b_LW_holds 7 (some .int) [(0, 21, 24, 19)] 9 ab_nQ u [ab_O 0 0, ab_I a1, ab_I a2, ab_I a3, ab_I a4, ab_O 20 0] (fun u' v => hV u u' ∧ ∃ x : Int32, v = some (ab_I x)) := by
  rcases hT with ⟨h4, hpn, -⟩ | ⟨h4, hps, P, kd, ar, cn, lf, ch, Y, R, W, F, T2, C, -⟩
  · refine ab_CW_mono (h_LW_holds hfl u a1 a2 a3 a4 0 z1f z1f z1f z1f z2f (Or.inl hpn) h) ?_
    rintro u' v (⟨-, rfl, rfl⟩ | ⟨-, w, -, rfl⟩)
    · exact ⟨hV.rf h, _, rfl⟩
    · exact ⟨w, _, rfl⟩
  · refine ab_CW_mono (h_LW_holds hfl u a1 a2 a3 a4 P kd ar cn lf ch (Or.inr ⟨hps, W, C⟩) h) ?_
    rintro u' v (⟨-, rfl, rfl⟩ | ⟨-, w, -, rfl⟩)
    · exact ⟨hV.rf h, _, rfl⟩
    · exact ⟨w, _, rfl⟩
theorem h_LW_wordx {l : Launch} {D : va_G} {ca : Nat → ClassId} (hfl : ab_fl0 l) (u : ab_S) (a1 : Int32) (h : CI u) : ab_CW l D ca y_LW_word b_LW_word 4 (some .int) [(0, 9, 12, 25)] 9 ab_nQ u [ab_O 0 0, ab_I a1, ab_O 20 0] (fun u' v => hV u u' ∧ ∃ x : Int32, v = some (ab_I x)) := by
  obtain ⟨⟨n, hn, en⟩, -⟩ := h.scr
  refine ab_CW_mono (h_LW_word hfl u a1 n en hn h) ?_
  rintro u' v ⟨w, ⟨_, _, _, _, rfl⟩ | ⟨_, rfl⟩⟩ <;> exact ⟨w, _, rfl⟩
theorem h_LW_itemx {l : Launch} {D : va_G} {ca : Nat → ClassId} (hfl : ab_fl0 l) (u : ab_S) (a1 : Int32) (h : CI u) : ab_CW l D ca y_LW_item b_LW_item 4 (some .int) [(0, 9, 12, 25)] 9 ab_nQ u [ab_O 0 0, ab_I a1, ab_O 20 0] (fun u' v => hV u u' ∧ ∃ x : Int32, v = some (ab_I x)) := by
  obtain ⟨n, hn, en⟩ := h.row (r := 123) (by decide)
  refine ab_CW_mono (h_LW_item hfl u a1 n en (Nat.le_trans hn (ab_ln8b 123)) h) ?_
  rintro u' v ⟨w, ⟨_, _, _, _, rfl⟩ | ⟨_, rfl⟩⟩ <;> exact ⟨w, _, rfl⟩
theorem dm_W : tW 1 (fun _ => 1) (fun _ => 0) (fun _ => 0) (fun _ => 1) (fun _ _ => 0) := ⟨by decide, by decide, fun _ _ => ⟨⟨(by decide : 1 ≤ 1), (by decide : 1 ≤ 10), (by decide : 1 ≤ 1), (by decide : 1 ≤ 7), (by decide : 0 ≤ 999)⟩, fun _ => rfl, fun h => absurd h (by decide : ¬ 5 ≤ 1)⟩⟩
theorem tE.pol {u : ab_S} (h : tE u) : u.2.1 0 0 7 = none ∨ u.2.1 0 0 7 = some (2, 1) := h.elim (fun z => Or.inl z.2.1) (fun z => Or.inr z.2.1)
theorem h_LW_sizex {l : Launch} {D : va_G} {ca : Nat → ClassId} (hfl : ab_fl0 l) (u : ab_S) (a1 : Int32) (hT : tE u) (h : CI u) : ab_CW l D ca y_LW_size b_LW_size 4 (some .int) [(0, 9, 12, 19), (0, 9, 15, 13)] 9 ab_nQ u [ab_O 0 0, ab_I a1, ab_O 20 0] (fun u' v => hV u u' ∧ ∃ x : Int32, v = some (ab_I x)) := by
  refine ab_CW_mono (h_LW_size hfl u a1 hT.pol h) ?_
  rintro u' v (⟨-, rfl, rfl⟩ | ⟨-, -, rfl, rfl⟩ | ⟨-, w, _, _, _, _, rfl⟩)
  · exact ⟨hV.rf h, _, rfl⟩
  · exact ⟨hV.rf h, _, rfl⟩
  · exact ⟨w, _, rfl⟩
/-! What is typed, on both sides. -/
def tx_C (n : Nat) (q : ab_S × Option Nat) (r : ab_S × Nat × Bool) : Prop := n ≤ r.2.1 ∧ (∀ j, q.2 = some j → n ≤ j) ∧ (∀ k, k < n → q.1.1 11 0 k = r.1.1 18 0 k) ∧ ∀ j, q.2 = some j → j ≤ 100 → ∀ k, k < j → q.1.1 11 0 k = r.1.1 18 0 k
theorem tx_C1 {n : Nat} {q : ab_S × Option Nat} {r : ab_S × Nat × Bool} {c : Int32} (h : tx_C n q r) (hR : tx_R q.2 r.2.1 r.2.2) : tx_C n (tc_st q.1 q.2 c) (tm_st r c) := by
  obtain ⟨u, o⟩ := q
  obtain ⟨v, m, b⟩ := r
  obtain ⟨h1, h2, h3, h4⟩ := h
  have h1 : n ≤ m := h1
  cases o with
  | none =>
    have e : tc_st u none c = (u, none) := rfl
    show tx_C n (tc_st u none c) (tm_st (v, m, b) c)
    rw [e]
    by_cases h0 : c = 0
    · rw [tm_st0 h0]; exact ⟨h1, h2, h3, h4⟩
    · by_cases hb : c < 33 ∨ 126 < c ∨ m = 100
      · rw [tm_stb h0 hb]
        exact ⟨h1, h2, fun k hk => (h3 k hk).trans (ui_n _ (by omega)).symm, fun j hj => (by cases hj)⟩
      · rw [tm_stg h0 hb]
        exact ⟨Nat.le_succ_of_le h1, h2, fun k hk => (h3 k hk).trans ((ui_n _ (by omega)).trans (ui_n _ (by show ¬ (18 = 18 ∧ 0 = 0 ∧ k = m); omega))).symm, fun j hj => (by cases hj)⟩
  | some j =>
    have nj : n ≤ j := h2 j rfl
    show tx_C n (tc_st u (some j) c) (tm_st (v, m, b) c)
    by_cases h0 : c = 0
    · rw [tc_st0 h0, tm_st0 h0]; exact ⟨h1, h2, h3, h4⟩
    · by_cases hb : c < 33 ∨ 126 < c
      · rw [tc_stb h0 hb, tm_stb h0 (by rcases hb with z | z; exact Or.inl z; exact Or.inr (Or.inl z))]
        exact ⟨h1, fun j hj => (by cases hj), fun k hk => (h3 k hk).trans (ui_n _ (by omega)).symm, fun j hj => (by cases hj)⟩
      · rw [tc_stg h0 hb]
        have h2' : ∀ j', some (j + 1) = some j' → n ≤ j' := fun j' e => by cases e; omega
        by_cases hm : m = 100
        · rw [tm_stb h0 (Or.inr (Or.inr hm))]
          refine ⟨h1, h2', fun k hk => ?_, fun j' e hj' => ?_⟩
          · exact (ui_n _ (by omega)).trans ((h3 k hk).trans (ui_n _ (by omega)).symm)
          · cases e
            rcases hR with ⟨x1, x2, -⟩ | ⟨x1, -⟩
            · have x2 : m = j := x2
              omega
            · omega
        · rw [tm_stg h0 (fun z => by rcases z with z | z | z; exact hb (Or.inl z); exact hb (Or.inr z); exact hm z)]
          refine ⟨Nat.le_succ_of_le h1, h2', fun k hk => ?_, fun j' e hj' k hk => ?_⟩
          · exact (ui_n _ (by omega)).trans ((h3 k hk).trans ((ui_n _ (by omega)).trans (ui_n _ (by show ¬ (18 = 18 ∧ 0 = 0 ∧ k = m); omega))).symm)
          · cases e
            rcases hR with ⟨x1, x2, -⟩ | ⟨x1, -⟩
            · have x2 : m = j := x2
              subst x2
              by_cases z : k = m
              · subst z
                exact (ui_s _).trans ((ui_n _ (by omega)).trans (ui_s _)).symm
              · exact (ui_n _ (by omega)).trans ((h4 m rfl x1 k (by omega)).trans ((ui_n _ (by omega)).trans (ui_n _ (by show ¬ (18 = 18 ∧ 0 = 0 ∧ k = m); omega))).symm)
            · omega
theorem tx_Cr {n : Nat} (cs : List Int32) : ∀ (q : ab_S × Option Nat) (r : ab_S × Nat × Bool), tx_C n q r → tx_R q.2 r.2.1 r.2.2 → tx_C n (tc_run cs q) (tm_run cs r) := by
  induction cs with
  | nil => exact fun q r h _ => h
  | cons c cs ih => exact fun q r h hR => ih _ _ (tx_C1 h hR) (tx_rel [c] q r hR)

