/-! The witness is the same on both sides. -/
def wE (u : ab_S) : Prop := ∃ xs : List Nat, xs.length ≤ 40 ∧ (∀ x, x ∈ xs → x < 1020) ∧ u.1 4 123 1 = nI xs.length ∧ u.1 17 0 32 = nI xs.length ∧ ∀ k, k < xs.length → u.1 8 123 k = nI (xs.getD k 0) ∧ u.1 18 17 k = nI (xs.getD k 0)
theorem wE.cong {u u' : ab_S} (h : wE u) (a : u'.1 4 123 1 = u.1 4 123 1) (b : ∀ k, u'.1 8 123 k = u.1 8 123 k) (c : u'.1 17 0 32 = u.1 17 0 32) (d : ∀ k, u'.1 18 17 k = u.1 18 17 k) : wE u' := by
  obtain ⟨xs, h1, h2, h3, h4, h5⟩ := h
  exact ⟨xs, h1, h2, a.trans h3, c.trans h4, fun k hk => ⟨(b k).trans (h5 k hk).1, (d k).trans (h5 k hk).2⟩⟩
theorem wE.h {u u' : ab_S} (h : wE u) (g : hI u u') (k : kV u u') : wE u' := h.cong (k.1.1 _) k.1.2 (g.2.1 _ _) (fun _ => g.2.2.1 _ _)
theorem wE.o {u u' : ab_S} (h : wE u) (g : oS u u') (k : wK u u') : wE u' := h.cong (g.2 _ _ _ (by decide) (by decide) (by decide)) (fun _ => g.2 _ _ _ (by decide) (by decide) (by decide)) k.1.1 k.1.2
theorem kW.kv {u u' : ab_S} (h : kW u u') : kV u u' := ⟨⟨fun k => (h.1 123 k (by decide)).1, fun k => (h.1 123 k (by decide)).2⟩, h.2 _ _⟩
theorem gP.wk2 {F : List Nat} {u u' : ab_S} (g : gP F u u') (h32 : ¬ 32 ∈ F) (h17 : ¬ 100 + 17 ∈ F) (h33 : ¬ 33 ∈ F) : wK u u' := ⟨⟨g.fi h32 rfl, fun _ => g.ai h17 rfl⟩, g.fi h33 rfl⟩
theorem item_nI {x : Int32} (h : ab_item x) : ∃ y, y < 1020 ∧ x = nI y := by
  rcases pk_ix x (n := 30) (by decide) with q | q | ⟨j, hj, e⟩
  · exfalso
    rcases h with rfl | rfl | h | h
    · exact absurd q (by decide)
    · exact absurd q (by decide)
    · exact absurd (Int32.lt_of_le_of_lt h.1 q) (by decide)
    · exact absurd (Int32.lt_of_le_of_lt h.1 q) (by decide)
  · exfalso
    rcases h with rfl | rfl | h | h
    · exact absurd q (by decide)
    · exact absurd q (by decide)
    · exact absurd (Int32.lt_of_le_of_lt q h.2) (by decide)
    · exact absurd (Int32.lt_of_le_of_lt q h.2) (by decide)
  · exact ⟨j, by omega, e⟩
theorem wE.put {u u1 u2 : ab_S} {xs : List Nat} {x : Int32} (x24 : xs.length < 24) (xb : ∀ y, y ∈ xs → y < 1020) (ei : ∀ k, k < xs.length → u.1 8 123 k = nI (xs.getD k 0) ∧ u.1 18 17 k = nI (xs.getD k 0)) (hi : ab_item x) (pv : pV xs.length x u u1) (k8 : ∀ i k, u1.1 18 i k = u.1 18 i k) (e2 : u2 = ab_ui (ab_ui (ab_ui u1 17 0 0 0) 18 17 xs.length x) 17 0 32 (nI (xs.length + 1))) : wE u2 := by
  obtain ⟨y, hy, rfl⟩ := item_nI hi
  have L : (xs ++ [y]).length = xs.length + 1 := by rw [List.length_append]; rfl
  obtain ⟨p1, p2, p3⟩ := pv
  refine ⟨xs ++ [y], by omega, fun z hz => ?_, ?_, ?_, fun k hk => ?_⟩
  · rcases List.mem_append.mp hz with q | q
    · exact xb z q
    · rw [List.mem_singleton.mp q]; exact hy
  · rw [e2, L]; exact (ui_n _ (by omega)).trans ((ui_n _ (by omega)).trans ((ui_n _ (by omega)).trans p1))
  · rw [e2, L]; exact ui_s _
  · rw [L] at hk
    by_cases q : k = xs.length
    · subst q
      rw [show (xs ++ [y]).getD xs.length 0 = y from by rw [List.getD_eq_getElem?_getD, List.getElem?_append_right (Nat.le_refl _), Nat.sub_self]; rfl]
      rw [e2]
      exact ⟨(ui_n _ (by omega)).trans ((ui_n _ (by omega)).trans ((ui_n _ (by omega)).trans p3)), (ui_n _ (by omega)).trans (ui_s _)⟩
    · have hk' : k < xs.length := by omega
      rw [show (xs ++ [y]).getD k 0 = xs.getD k 0 from by rw [List.getD_eq_getElem?_getD, List.getElem?_append_left hk', ← List.getD_eq_getElem?_getD]]
      rw [e2]
      exact ⟨(ui_n _ (by omega)).trans ((ui_n _ (by omega)).trans ((ui_n _ (by omega)).trans ((p2 k q).trans (ei k hk').1))), (ui_n _ (by omega)).trans ((ui_n _ (by omega)).trans ((ui_n _ (by omega)).trans ((k8 _ _).trans (ei k hk').2)))⟩
theorem wE.nil {u : ab_S} (a : u.1 4 123 1 = 0) (b : u.1 17 0 32 = 0) : wE u := ⟨[], by decide, fun x hx => absurd hx List.not_mem_nil, a, b, fun k hk => absurd hk (Nat.not_lt_zero k)⟩
theorem wE.sat {u1 u2 : ab_S} {ys : List Nat} (b : ys.length ≤ 40 ∧ ∀ x, x ∈ ys → x < 1020) (r : Rw u1 123 ys) (os : oS u1 u2) (c1 : u2.1 17 0 32 = nI ys.length) (c2 : ∀ i, i < ys.length → u2.1 18 17 i = nI (ys.getD i 0)) : wE u2 := ⟨ys, b.1, b.2, (os.2 _ _ _ (by decide) (by decide) (by decide)).trans r.1, c1, fun k hk => ⟨(os.2 _ _ _ (by decide) (by decide) (by decide)).trans (r.2.1 k hk), c2 k hk⟩⟩
theorem sv_b {a1 a2 a3 a4 : Int32} {P : Nat} {kd ar cn lf : Nat → Nat} {ch : Nat → Nat → Nat} {Y : Nat → Nat → Nat × Nat × Nat} {R : Nat → List Nat} (W : tW P kd ar cn lf ch) (F : ∀ q, q < P → xF kd ar cn ch Y R q) {xs : List Nat} (h : SV kd ar cn ch Y R (slf kd ar a1 a2 a3 a4) 0 0 = some xs) : xs.length ≤ 40 ∧ ∀ x, x ∈ xs → x < 1020 := by
  have hB : ∀ q, q < P → xB lf Y R q := fun q hq => xf_b W F (P - q) q (by omega) hq
  have hH : ∀ q, q < P → oB 1 (slf kd ar a1 a2 a3 a4 q) := fun q hq => slf_B (W.2.2 q hq).1.2.2.2.2
  have b := SV_B W F hB hH _ 0 0 (Nat.le_refl _) W.1 (by decide) xs h
  have l0 := (W.2.2 0 W.1).1
  rw [if_pos rfl] at b
  exact ⟨by omega, fun x hx => by rcases b.2 x hx with z | z <;> omega⟩
theorem tx_gP {u1 : ab_S} {n : Nat} (m : mR u1.2.1) (g : ∀ (cs : List Int32) (q : ab_S × Nat × Bool), gP [0, 2, 41, 42, 100] u1 q.1 → gP [0, 2, 41, 42, 100] u1 (tm_run cs q).1) (cs : List Int32) : gP [0, 2, 41, 42, 100] u1 (tm_s (tm_run cs (ab_ui (ab_ui (ab_ui u1 17 0 0 0) 17 0 41 (nI n)) 17 0 42 0, n, false))) := by
  have g0 := g cs (ab_ui (ab_ui (ab_ui u1 17 0 0 0) 17 0 41 (nI n)) 17 0 42 0, n, false) ((((gP.rf m : gP [0, 2, 41, 42, 100] u1 u1).ui rfl trivial).ui rfl trivial).ui rfl trivial)
  revert g0
  generalize tm_run cs (ab_ui (ab_ui (ab_ui u1 17 0 0 0) 17 0 41 (nI n)) 17 0 42 0, n, false) = q
  intro g0
  unfold tm_s
  by_cases z : q.2.2 = true
  · rw [if_pos z]; exact g0
  · rw [if_neg z]; exact g0.ui rfl trivial
/-- as many words done on both sides -/
def dE (u : ab_S) : Prop := u.1 7 0 5 = u.1 17 0 33
theorem dE.q {u u1 u2 : ab_S} (h : dE u) (k5 : u1.1 7 0 5 = u.1 7 0 5) (w : ∀ i k, u1.1 17 i k = u.1 17 i k) (os : oS u1 u2) (k33 : u2.1 17 0 33 = u1.1 17 0 33) : dE u2 := (os.2 _ _ _ (by decide) (by decide) (by decide)).trans (k5.trans (h.trans ((w _ _).symm.trans k33.symm)))
theorem okm_nil {hh aa : Int32} (n : Nat) (st sd : List Nat) : okm hh aa n [] st sd := by cases n <;> exact trivial

