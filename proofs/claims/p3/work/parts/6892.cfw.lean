/-! Forms in forms: how many words they say. -/
def shp (r nc : Nat) : Prop := (r = 1 → nc = 0) ∧ (r = 3 ∨ r = 6 → nc = 1) ∧ (r = 4 → 1 ≤ nc) ∧ (r = 5 ∨ r = 7 ∨ r = 8 → nc = 2)
/-- a form, its words, and how many forms say it -/
def fw (A : Nat → Prop) (u : ab_S) : Nat → Nat → Nat → Nat → Prop
  | 0, _, _, _ => False
  | d + 1, f, n, sz => (A f ∧ f < 60) ∧ ∃ (r nc : Nat) (mk nd : Int32) (g ws ss : Nat → Nat), FD u f r mk nd nc g ∧ (1 ≤ r ∧ r ≤ 8 ∧ nc ≤ 4 ∧ shp r nc) ∧ n = cwn r mk nc (sm ws nc) ∧ sz = 1 + sm ss nc ∧ u.1 3 f 8 = nI n ∧ n ≤ 900 ∧ ∀ i, i < nc → fw A u d (g i) (ws i) (ss i)
theorem fw.in {A : Nat → Prop} {u : ab_S} {d f n sz : Nat} (h : fw A u d f n sz) : A f ∧ f < 60 := by
  cases d with
  | zero => exact h.elim
  | succ d => exact h.1
theorem fw.cell {A : Nat → Prop} {u : ab_S} {d f n sz : Nat} (h : fw A u d f n sz) : u.1 3 f 8 = nI n ∧ n ≤ 900 := by
  cases d with
  | zero => exact h.elim
  | succ d =>
    obtain ⟨-, r, nc, mk, nd, g, ws, ss, -, -, -, -, a, b, -⟩ := h
    exact ⟨a, b⟩
theorem fw.fr {A B : Nat → Prop} {u u' : ab_S} (o : fO B u u') (hB : ∀ g, A g → ¬ B g) : ∀ (d f n sz : Nat), fw A u d f n sz → fw A u' d f n sz := by
  intro d
  induction d with
  | zero => intro f n sz h; exact h.elim
  | succ d ih =>
    rintro f n sz ⟨hA, r, nc, mk, nd, g, ws, ss, a1, a2, a3, a4, a5, a6, a7⟩
    exact ⟨hA, r, nc, mk, nd, g, ws, ss, a1.fr o (hB f hA.1), a2, a3, a4, (o.1 _ _ _ (fun z => hB f hA.1 z.2.1)).trans a5, a6, fun i hi => ih _ _ _ (a7 i hi)⟩
theorem fw.wk {A A' : Nat → Prop} {u : ab_S} (hA : ∀ i, A i → A' i) : ∀ (d f n sz : Nat), fw A u d f n sz → fw A' u d f n sz := by
  intro d
  induction d with
  | zero => intro f n sz h; exact h.elim
  | succ d ih =>
    rintro f n sz ⟨hA1, r, nc, mk, nd, g, ws, ss, a1, a2, a3, a4, a5, a6, a7⟩
    exact ⟨⟨hA f hA1.1, hA1.2⟩, r, nc, mk, nd, g, ws, ss, a1, a2, a3, a4, a5, a6, fun i hi => ih _ _ _ (a7 i hi)⟩
theorem fw.up {A : Nat → Prop} {u : ab_S} : ∀ (d d' f n sz : Nat), d ≤ d' → fw A u d f n sz → fw A u d' f n sz := by
  intro d
  induction d with
  | zero => intro d' f n sz _ h; exact h.elim
  | succ d ih =>
    rintro d' f n sz hd ⟨hA, r, nc, mk, nd, g, ws, ss, a1, a2, a3, a4, a5, a6, a7⟩
    obtain ⟨e, rfl⟩ : ∃ e, d' = e + 1 := ⟨d' - 1, by omega⟩
    exact ⟨hA, r, nc, mk, nd, g, ws, ss, a1, a2, a3, a4, a5, a6, fun i hi => ih e _ _ _ (by omega) (a7 i hi)⟩
theorem FD.cp {K : List Nat} {u u' : ab_S} {f r : Nat} {mk nd : Int32} {nc : Nat} {g : Nat → Nat} (h : FD u f r mk nd nc g) (o : cP K u u') (h3 : ¬ 3 ∈ K) (h9 : ¬ 9 ∈ K) : FD u' f r mk nd nc g := by
  obtain ⟨a1, a2, a3, a4, a5⟩ := h
  exact ⟨o.ii h3 a1, o.ii h3 a2, o.ii h3 a3, o.ii h3 a4, fun i hi => o.rr h9 (a5 i hi)⟩
theorem fw.cp {K : List Nat} {A : Nat → Prop} {u u' : ab_S} (o : cP K u u') (h3 : ¬ 3 ∈ K) (h9 : ¬ 9 ∈ K) : ∀ (d f n sz : Nat), fw A u d f n sz → fw A u' d f n sz := by
  intro d
  induction d with
  | zero => intro f n sz h; exact h.elim
  | succ d ih =>
    rintro f n sz ⟨hA, r, nc, mk, nd, g, ws, ss, a1, a2, a3, a4, a5, a6, a7⟩
    exact ⟨hA, r, nc, mk, nd, g, ws, ss, a1.cp o h3 h9, a2, a3, a4, o.ii h3 a5, a6, fun i hi => ih _ _ _ (a7 i hi)⟩
/-- what a form has been offered so far -/
def fB (A : Nat → Prop) (d S : Nat) (u : ab_S) (f : Nat) : Option Nat → Prop
  | none => u.1 3 f 4 = nI 0
  | some w => ∃ sz, sz ≤ S ∧ fw (fun i => A i ∨ i = f) u d f w sz
def omin : Option Nat → Nat → Nat
  | none, w => w
  | some a, w => min a w
theorem fB.fr {A B : Nat → Prop} {d S f : Nat} {u u' : ab_S} {o : Option Nat} (h : fB A d S u f o) (g : fO B u u') (hB : ∀ i, A i → ¬ B i) (hf : ¬ B f) : fB A d S u' f o := by
  cases o with
  | none => exact (g.1 _ _ _ (fun z => hf z.2.1)).trans h
  | some w =>
    obtain ⟨sz, h1, h2⟩ := h
    exact ⟨sz, h1, h2.fr g (fun i hi => by rcases hi with z | z; exact hB i z; rw [z]; exact hf) _ _ _ _⟩
/-- a form after an offer -/
theorem fB.off {A : Nat → Prop} {d S f r nc : Nat} {u u' : ab_S} {mk nd : Int32} {g ws ss : Nat → Nat} {o : Option Nat} {G : Int32} {r0 w0 : Nat} (h : fB A (d + 1) S u f o) (hf : f < 60) (hr : 1 ≤ r ∧ r ≤ 8 ∧ nc ≤ 4 ∧ shp r nc) (hw : cwn r mk nc (sm ws nc) ≤ 900) (hS : 1 + sm ss nc ≤ S) (hA : ¬ A f) (O : fO (fun i => i = f) u u') (k : ∀ i, i < nc → fw A u d (g i) (ws i) (ss i)) (h0 : o = none → r0 = 0) (h1 : ∀ w, o = some w → r0 ≠ 0 ∧ w0 = w) (z : (bt r0 (cwn r mk nc (sm ws nc)) w0 G (u.1 3 f 9) ∧ FD u' f r mk nd nc g ∧ u'.1 3 f 8 = nI (cwn r mk nc (sm ws nc)) ∧ u'.1 3 f 9 = G) ∨ (¬ bt r0 (cwn r mk nc (sm ws nc)) w0 G (u.1 3 f 9) ∧ u' = u)) : fB A (d + 1) S u' f (some (omin o (cwn r mk nc (sm ws nc)))) := by
  have kk : ∀ i, i < nc → fw (fun i => A i ∨ i = f) u' d (g i) (ws i) (ss i) := fun i hi => fw.wk (fun _ z => Or.inl z) _ _ _ _ ((k i hi).fr O (fun j hj e => hA (by rw [← e]; exact hj)) _ _ _ _)
  rcases z with ⟨b, D, e8, -⟩ | ⟨b, rfl⟩
  · have e : omin o (cwn r mk nc (sm ws nc)) = cwn r mk nc (sm ws nc) := by
      cases o with
      | none => rfl
      | some w =>
        obtain ⟨n0, rfl⟩ := h1 w rfl
        show min w0 _ = _
        rcases b with b | b | b <;> omega
    rw [e]
    exact ⟨_, hS, ⟨Or.inr rfl, hf⟩, r, nc, mk, nd, g, ws, ss, D, hr, rfl, rfl, e8, hw, kk⟩
  · cases o with
    | none => exact absurd (Or.inl (h0 rfl)) b
    | some w =>
      obtain ⟨n0, rfl⟩ := h1 w rfl
      have e : omin (some w0) (cwn r mk nc (sm ws nc)) = w0 := by
        show min w0 _ = _
        have : ¬ cwn r mk nc (sm ws nc) < w0 := fun q => b (Or.inr (Or.inl q))
        omega
      rw [e]; exact h
theorem fB.rw {A : Nat → Prop} {d S f : Nat} {u : ab_S} {o : Option Nat} (h : fB A d S u f o) : ∃ r0 w0 : Nat, r0 ≤ 8 ∧ w0 ≤ 1000 ∧ u.1 3 f 4 = nI r0 ∧ (r0 ≠ 0 → u.1 3 f 8 = nI w0) ∧ (o = none → r0 = 0) ∧ ∀ w, o = some w → r0 ≠ 0 ∧ w0 = w := by
  cases o with
  | none => exact ⟨0, 0, by decide, by decide, h, fun z => absurd rfl z, fun _ => rfl, fun w z => by cases z⟩
  | some w =>
    obtain ⟨sz, -, h2⟩ := h
    have c8 := h2.cell
    cases d with
    | zero => exact h2.elim
    | succ d =>
      obtain ⟨-, r, nc, mk, nd, g, ws, ss, a1, a2, -⟩ := h2
      exact ⟨r, w, a2.2.1, by omega, a1.1, fun _ => c8.1, fun z => (by cases z), fun w' z => by cases z; exact ⟨by omega, rfl⟩⟩
section SaFw
variable {l : Launch} {D : va_G} {ca : Nat → ClassId}
theorem t_FM_gW (u : ab_S) (f : Nat) (h : CI u) (hf : f < 61) : ab_C false l D ca y_FM_greatestWeight b_FM_greatestWeight 1 (some .int) 2 ab_nQ u [ab_O 3 f] (fun u' v => u' = u ∧ ∃ x : Int32, True ∧ v = some (ab_I x)) := ab_C_mono (t_FM_greatestWeight u f h hf) (fun u' v z => ⟨z.1, by obtain ⟨x, e⟩ := z.2; exact ⟨x, trivial, e⟩⟩)
/-- the trial is offered -/
theorem f_FM_off (u : ab_S) (A : Nat → Prop) (d S f r nc : Nat) (mk nd : Int32) (g ws ss : Nat → Nat) (o : Option Nat) (F : FD u 60 r mk nd nc g) (hr : 1 ≤ r ∧ r ≤ 8 ∧ nc ≤ 4 ∧ shp r nc) (hw : cwn r mk nc (sm ws nc) ≤ 900) (hs : sm ws nc ≤ 900) (hS : 1 + sm ss nc ≤ S) (B : fB A (d + 1) S u f o) (k : ∀ i, i < nc → fw A u d (g i) (ws i) (ss i)) (h : CI u) (hA : ¬ A f) (hf : f < 60) : ab_C false l D ca y_FM_offer b_FM_offer 6 none 3 ab_nQ u [ab_O 3 f, ab_O 3 60] (fun u' v => (cP [3, 9] u u' ∧ fO (fun i => i = f) u u' ∧ fB A (d + 1) S u' f (some (omin o (cwn r mk nc (sm ws nc))))) ∧ v = none) := by
  obtain ⟨r0, w0, b1, b2, b3, b4, b5, b6⟩ := B.rw
  refine ab_C_mono (f_FM_offer u f 60 r nc mk nd g ws F hr.2.2.1 (fun i hi => (k i hi).cell.1) hs hr.2.2.2.2.2.1 hr.2.1 (fun i hi => Nat.lt_succ_of_lt (k i hi).in.2) r0 w0 b1 b2 b3 b4 h (by omega) (by decide) (by omega) (fun _ => True) (t_FM_gW u 60 h (by decide))) ?_
  rintro u' v ⟨⟨z1, z2, G, -, z3⟩, rfl⟩
  exact ⟨⟨z1, z2, B.off hf hr hw hS hA z2 k b5 b6 z3⟩, rfl⟩
set_option maxRecDepth 100000 in
set_option maxHeartbeats 1000000 in
theorem f_PT_offerTwo (u : ab_S) (A : Nat → Prop) (d S f x1 x2 r w1 w2 s1 s2 : Nat) (o : Option Nat) (h : CI u) (hA : ¬ A f) (hA6 : ¬ A 60) (hf : f < 60) (hr : r = 2 ∨ r = 5 ∨ r = 7 ∨ r = 8) (B : fB A (d + 1) S u f o) (k1 : fw A u d x1 w1 s1) (k2 : fw A u d x2 w2 s2) (hS : 1 + (s1 + s2) ≤ S) (hw : w1 + w2 ≤ 800) : ab_C false l D ca y_PT_offerTwo b_PT_offerTwo 5 none 4 ab_nQ u [ab_O 3 f, ab_O 3 60, ab_I (nI r), ab_O 3 x1, ab_O 3 x2] (fun u' v => (cP [3, 9] u u' ∧ fO (fun i => i = f ∨ i = 60) u u' ∧ fB A (d + 1) S u' f (some (omin o (cwn r 0 2 (w1 + w2))))) ∧ v = none) := by
  refine ab_C.of (by decide) (Nat.le_of_ble_eq_true rfl) ?_
  intro p e s m args below meth c ad X hZ hr0 hlk
  have P0 : cP [3, 9] u u := cQ.rf h
  have i1 := k1.in.2
  have i2 := k2.in.2
  have es : ∀ (a b : Nat), sm (fun i => if i = 0 then a else b) 2 = a + b := fun a b => by simp [sm]
  have cl : ci_cl (nI r) 2 := ⟨fun _ => by omega, fun _ => by omega⟩
  have hc9 : cwn r 0 2 (w1 + w2) ≤ 900 := by unfold cwn; repeat' split
                                             all_goals omega
  have nA : ∀ i, A i → ¬ i = 60 := fun i hi e => hA6 (by rw [← e]; exact hi)
  refine ab_aload_n X 0 d_PT_offerTwo_0 rfl rfl ?_
  refine ab_aload_n X 1 d_PT_offerTwo_1 rfl rfl ?_
  refine ab_iload_n X 2 d_PT_offerTwo_2 rfl rfl ?_
  refine ab_iconst (v := 0) X d_PT_offerTwo_3 (by decide) ?_
  refine ab_iconst (v := 2) X d_PT_offerTwo_4 (by decide) ?_
  refine ab_callV (as := [ab_I (nI r), ab_I 0, ab_I 2]) X (fun h => by cases h) (f_FM_start u 60 r 0 2 (fun i => if i = 0 then x1 else x2) (P0.ex 60).1 (by decide)) lk_PT_65 d_PT_offerTwo_5 rfl rfl (by first | assumption | decide | (show _ < 124; omega) | (show _ < 61; omega) | (show _ < 20; omega)) ⟨by first | exact Nat.le_of_ble_eq_true rfl | (simp only [ab_rm]; omega), by first | exact Nat.le_of_ble_eq_true rfl | (simp only [ab_rm]; omega)⟩ ⟨by first | exact Nat.le_of_ble_eq_true rfl | (simp only [ab_rm]; omega), by first | exact Nat.le_of_ble_eq_true rfl | (simp only [ab_rm]; omega)⟩ (Nat.le_of_ble_eq_true rfl) (fun u5 r5 h5 => ?_)
  obtain ⟨⟨q5, o5, d5, w5, x5⟩, rfl⟩ := h5
  have P5 := P0.trans q5 (by decide)
  refine ab_aload_n X 3 d_PT_offerTwo_8 rfl rfl ?_
  refine ab_callV (as := [ab_O 3 x1]) X (fun h => by cases h) (f_FM_with u5 60 r 0 x1 0 2 (fun i => if i = 0 then x1 else x2) P5.1 (by decide) (by omega) d5 rfl (by decide)) lk_PT_69 d_PT_offerTwo_9 rfl rfl (by first | assumption | decide | (show _ < 124; omega) | (show _ < 61; omega) | (show _ < 20; omega)) ⟨by first | exact Nat.le_of_ble_eq_true rfl | (simp only [ab_rm]; omega), by first | exact Nat.le_of_ble_eq_true rfl | (simp only [ab_rm]; omega)⟩ ⟨by first | exact Nat.le_of_ble_eq_true rfl | (simp only [ab_rm]; omega), by first | exact Nat.le_of_ble_eq_true rfl | (simp only [ab_rm]; omega)⟩ (Nat.le_of_ble_eq_true rfl) (fun u9 r9 h9 => ?_)
  obtain ⟨⟨q9, o9, d9, w9, x9⟩, rfl⟩ := h9
  have P9 := P5.trans q9 (by decide)
  refine ab_aload X 4 d_PT_offerTwo_12 rfl ?_
  refine ab_callV (as := [ab_O 3 x2]) X (fun h => by cases h) (f_FM_with u9 60 r 1 x2 0 2 (fun i => if i = 0 then x1 else x2) P9.1 (by decide) (by omega) d9 rfl (by decide)) lk_PT_69 d_PT_offerTwo_14 rfl rfl (by first | assumption | decide | (show _ < 124; omega) | (show _ < 61; omega) | (show _ < 20; omega)) ⟨by first | exact Nat.le_of_ble_eq_true rfl | (simp only [ab_rm]; omega), by first | exact Nat.le_of_ble_eq_true rfl | (simp only [ab_rm]; omega)⟩ ⟨by first | exact Nat.le_of_ble_eq_true rfl | (simp only [ab_rm]; omega), by first | exact Nat.le_of_ble_eq_true rfl | (simp only [ab_rm]; omega)⟩ (Nat.le_of_ble_eq_true rfl) (fun u14 r14 h14 => ?_)
  obtain ⟨⟨q14, o14, d14, w14, x14⟩, rfl⟩ := h14
  have P14 := P9.trans q14 (by decide)
  have R17 : cP [3, 9] u u14 := ci_done P14 d14.1 d14.2.2.2.1 (by decide) cl
  have O14 : fO (fun i => i = 60) u u14 := (o5.trans o9).trans o14
  have kk : ∀ i, i < 2 → fw A u14 d ((fun i => if i = 0 then x1 else x2) i) ((fun i => if i = 0 then w1 else w2) i) ((fun i => if i = 0 then s1 else s2) i) := fun i hi => by
    have z : i = 0 ∨ i = 1 := by omega
    rcases z with rfl | rfl
    · exact k1.fr O14 nA _ _ _ _
    · exact k2.fr O14 nA _ _ _ _
  refine ab_callV (as := [ab_O 3 60]) X (fun h => by cases h) (f_FM_off u14 A d S f r 2 0 2 (fun i => if i = 0 then x1 else x2) _ _ o d14 ⟨by omega, by omega, by decide, by unfold shp; omega⟩ (by rw [es]; exact hc9) (by rw [es]; omega) (by rw [es]; omega) (B.fr O14 nA (by omega)) kk R17.1 hA hf) lk_PT_73 d_PT_offerTwo_17 rfl rfl (by first | assumption | decide | (show _ < 124; omega) | (show _ < 61; omega) | (show _ < 20; omega)) ⟨by first | exact Nat.le_of_ble_eq_true rfl | (simp only [ab_rm]; omega), by first | exact Nat.le_of_ble_eq_true rfl | (simp only [ab_rm]; omega)⟩ ⟨by first | exact Nat.le_of_ble_eq_true rfl | (simp only [ab_rm]; omega), by first | exact Nat.le_of_ble_eq_true rfl | (simp only [ab_rm]; omega)⟩ (Nat.le_of_ble_eq_true rfl) (fun u17 r17 h17 => ?_)
  obtain ⟨⟨q17, o17, b17⟩, rfl⟩ := h17
  have P17 := P14.trans q17 (by decide)
  exact ab_retv X hr0 hlk d_PT_offerTwo_20 ⟨⟨R17.trans q17 (by decide), (O14.wk (fun _ z => Or.inr z)).trans (o17.wk (fun _ z => Or.inl z)), by rw [es] at b17; exact b17⟩, rfl⟩
end SaFw

