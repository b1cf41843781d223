/-! The law's loop. -/
theorem la_and (x : Int32) : ∃ k : Nat, k < 16 ∧ x &&& 15 = nI k := by
  have h1 : (x &&& 15).toBitVec.toNat < 16 := by
    show (x.toBitVec &&& (15 : Int32).toBitVec).toNat < 16
    rw [BitVec.toNat_and]
    exact Nat.lt_of_le_of_lt Nat.and_le_right (by decide)
  refine ⟨(x &&& 15).toBitVec.toNat, h1, Int32.toBitVec_inj.mp ?_⟩
  show _ = BitVec.ofNat 32 _
  rw [BitVec.ofNat_toNat]
  simp
theorem la_cmp (x : Int64) : lg_cmp x x = 0 := by simp [lg_cmp]
theorem tc_keep (cs : List Int32) {c i k : Nat} (h : c ≠ 11) : ∀ q : ab_S × Option Nat, (tc_run cs q).1.1 c i k = q.1.1 c i k := by
  induction cs with
  | nil => exact fun _ => rfl
  | cons a cs ih =>
    intro q
    refine (ih _).trans ?_
    obtain ⟨u, o⟩ := q
    cases o with
    | none => rfl
    | some j =>
      show (tc_st u (some j) a).1.1 c i k = u.1 c i k
      by_cases h0 : a = 0
      · rw [tc_st0 h0]
      · by_cases hb : a < 33 ∨ 126 < a
        · rw [tc_stb h0 hb]
        · rw [tc_stg h0 hb]
          exact ab_up_n _ _ (fun z => h z.1)
theorem tx_refs (q : ab_S × Option Nat) : (tx_s q).2 = q.1.2 := by
  obtain ⟨u, o⟩ := q
  cases o with
  | none => rfl
  | some k =>
    show (if k ≤ 100 then ab_ui u 1 0 3 (nI k) else u).2 = u.2
    by_cases h : k ≤ 100
    · rw [if_pos h]
    · rw [if_neg h]
theorem tx_keep (q : ab_S × Option Nat) {c i k : Nat} (h : c ≠ 1) : (tx_s q).1 c i k = q.1.1 c i k := by
  obtain ⟨u, o⟩ := q
  cases o with
  | none => rfl
  | some j =>
    show (if j ≤ 100 then ab_ui u 1 0 3 (nI j) else u).1 c i k = u.1 c i k
    by_cases hj : j ≤ 100
    · rw [if_pos hj]; exact ab_up_n _ _ (fun z => h z.1)
    · rw [if_neg hj]
def lw_Q (_ : Array Value) (s : State) (o : Outcome) (t : State) : Prop := o = .returned (some (.int 1)) ∧ Framed s o t [] 601024 7293034
def lw_Z (below : List Frame) (a : Array Value) (s : State) : State → Prop := fun t => ∃ o, t.status = .running ∧ Ended t below o ∧ lw_Q a s o t
/-- the law's own end, with 1 on the stack, nothing written that was there before, its room as the claim has it -/
theorem lw_ret {p : Program} {l : Launch} {e : Env} {s : State} {m : MethodId} {below : List Frame} {meth : Method} {c : Code} {b : Nat} (hx : p.tables.exec = Jvm.exec) (hb : c.code = code) (hr : meth.sig.returnType = ret) (hlocks : meth.locks = false) {pc : Nat} {H : Heap} {ls : Array Slot} (hdg : decode code pc = .ok (.ireturn, 1)) : W p l e room_1 s m #[Value.ref b] below meth c H [] 601024 7293034 (lw_Z below #[Value.ref b] s) (F0 m pc ls [.int 1]) := by
  intro T hT X
  obtain ⟨fs, hret, hrun, hended, hW, hframe⟩ := X.leave (v := some (.int 1)) (hlocks := hlocks) (fun h => by rw [hr] at h; cases h)
  have hmeth' : T.vm.method? m = some meth := X.method'
  refine ⟨T.setFrames fs, ?_, .returned (some (.int 1)), hrun, hended, rfl, ⟨_, rfl⟩, hW, hframe⟩
  jvm_step X.here [X.here.top, hx, hb, hdg, hmeth', hr, ret, narrow_b1]
  (try refine ⟨rfl, ?_⟩); (try refine ⟨rfl, ?_⟩)
  first | (intro acts; rw [hret _ acts rfl rfl rfl]) | rw [hret _ _ rfl rfl rfl]
  exact Steps.refl _
/-- what holds at the law's loop, the witness with it -/
def LV (u : ab_S) : Prop := LT u ∧ wE u ∧ dE u
theorem wE.text {u u1 u2 : ab_S} {n : Nat} (h : wE u) {cs : List Int32} (e1 : u1 = tx_s (tc_run cs (u, some n))) (g : gP [0, 2, 41, 42, 100] u1 u2) : wE u2 := by
  have k : ∀ c i k, c ≠ 1 → c ≠ 11 → u1.1 c i k = u.1 c i k := fun c i k a b => by rw [e1]; exact (tx_keep _ a).trans (tc_keep _ b _)
  exact (h.cong (k _ _ _ (by decide) (by decide)) (fun _ => k _ _ _ (by decide) (by decide)) (k _ _ _ (by decide) (by decide)) (fun _ => k _ _ _ (by decide) (by decide))).o g.oS (g.wk2 (by decide) (by decide) (by decide))
theorem dE.text {u u1 u2 : ab_S} {n : Nat} (h : dE u) {cs : List Int32} (e1 : u1 = tx_s (tc_run cs (u, some n))) (g : gP [0, 2, 41, 42, 100] u1 u2) : dE u2 := by
  have k : ∀ c i k, c ≠ 1 → c ≠ 11 → u1.1 c i k = u.1 c i k := fun c i k a b => by rw [e1]; exact (tx_keep _ a).trans (tc_keep _ b _)
  exact h.q (k _ _ _ (by decide) (by decide)) (fun _ _ => k _ _ _ (by decide) (by decide)) g.oS (g.fi (by decide) rfl)
theorem LV.h {u u' : ab_S} (h : LV u) (g : hV u u') : LV u' := ⟨h.1.h g.1, h.2.1.h g.1.1.1 g.2, g.2.2.trans (h.2.2.trans (g.1.1.1.2.1 _ _).symm)⟩
theorem LV.o {u u' : ab_S} (h : LV u) (g : oV u u') : LV u' := ⟨h.1.o g.1, h.2.1.o g.1.2.1 g.2, (g.1.2.1.2 _ _ _ (by decide) (by decide) (by decide)).trans (h.2.2.trans g.2.2.symm)⟩
section AbMH
variable {l : Launch} {D : va_G} {ca : Nat → ClassId}
theorem h_MO_fault (u : ab_S) (h : MI u) : ab_C false l D ca y_MO_fault b_MO_fault 1 (some .int) 0 ab_nQ u [ab_O 17 0] (fun u' v => oV u u' ∧ ∃ x : Int32, v = some (ab_I x)) := by
  refine ab_C_mono (c_MO_fault u (by decide)) ?_
  rintro u' v ⟨rfl, rfl⟩
  exact ⟨h.oV (F := [0]) ((gP.rf h.1).ui rfl trivial) (by decide) (by decide) (by decide), _, rfl⟩
theorem h_MO_done (u : ab_S) (h : MI u) : ab_C false l D ca y_MO_done b_MO_done 1 (some .int) 0 ab_nQ u [ab_O 17 0] (fun u' v => oV u u' ∧ ∃ x : Int32, v = some (ab_I x)) := by
  refine ab_C_mono (c_MO_done u (by decide)) ?_
  rintro u' v ⟨rfl, rfl⟩
  exact ⟨h.oV (F := [0]) ((gP.rf h.1).ui rfl trivial) (by decide) (by decide) (by decide), _, rfl⟩
/-- another number of items -/
theorem mi_items {u u' : ab_S} (h : MI u) (g : gP [0, 32, 117] u u') {n : Nat} (hn : n ≤ 40) (e : u'.1 17 0 32 = nI n) : oP u u' := by
  obtain ⟨-, ⟨t, t1, t2⟩, -, m4⟩ := h
  refine ⟨⟨g.1, ⟨t, t1, g.fi (by decide) t2⟩, ⟨n, hn, e⟩, ?_⟩, g.oS, g.fi (by decide) rfl, g.oT (by decide)⟩
  rcases m4 with z | ⟨z, P, kd, ar, cn, lf, ch, W, T, V⟩
  · exact Or.inl (g.fi (by decide) z)
  · exact Or.inr ⟨g.fi (by decide) z, P, kd, ar, cn, lf, ch, W, T.fr g (by decide) (by decide) (by decide) (by decide) (by decide), V.fr g (by decide) (by decide) (by decide)⟩
theorem h_MO_clear (u : ab_S) (h : MI u) : ab_C false l D ca y_MO_clear b_MO_clear 1 none 0 ab_nQ u [ab_O 17 0] (fun u' v => (oP u u' ∧ u'.1 17 0 32 = 0 ∧ u'.1 17 0 33 = u.1 17 0 33) ∧ v = none) := by
  refine ab_C_mono (c_MO_clear u (by decide)) ?_
  rintro u' v ⟨rfl, rfl⟩
  exact ⟨⟨mi_items h (n := 0) (((gP.rf h.1).ui rfl trivial).ui rfl trivial) (by decide) (ui_s _), ui_s _, (ui_n _ (by omega)).trans (ui_n _ (by omega))⟩, rfl⟩
theorem h_MO_item (u : ab_S) (x : Int32) (h : MI u) : ab_C false l D ca y_MO_item b_MO_item 2 (some .int) 0 ab_nQ u [ab_O 17 0, ab_I x] (fun u' v => oV u u' ∧ ∃ x : Int32, v = some (ab_I x)) := by
  obtain ⟨hm, -, ⟨n, hn, en⟩, -⟩ := id h
  refine ab_C_mono (c_MO_item u x n (by decide) (by decide) hm.mo31 en (by omega)) ?_
  rintro u' v (⟨j, -, -, rfl, rfl⟩ | ⟨-, rfl, rfl⟩)
  · exact ⟨h.oV (F := [0]) ((gP.rf h.1).ui rfl trivial) (by decide) (by decide) (by decide), _, rfl⟩
  · exact ⟨h.oV (F := [0]) ((gP.rf h.1).ui rfl trivial) (by decide) (by decide) (by decide), _, rfl⟩
end AbMH
/-! text, on both sides: what it leaves -/
theorem tx_keep3 (q : ab_S × Option Nat) {i k : Nat} (h : k ≠ 3) : (tx_s q).1 1 i k = q.1.1 1 i k := by
  obtain ⟨u, o⟩ := q
  cases o with
  | none => rfl
  | some j =>
    show (if j ≤ 100 then ab_ui u 1 0 3 (nI j) else u).1 1 i k = u.1 1 i k
    by_cases hj : j ≤ 100
    · rw [if_pos hj]; exact ab_up_n _ _ (fun z => h z.2.2)
    · rw [if_neg hj]
theorem tm_gP (cs : List Int32) {u0 : ab_S} : ∀ q : ab_S × Nat × Bool, gP [0, 2, 41, 42, 100] u0 q.1 → gP [0, 2, 41, 42, 100] u0 (tm_run cs q).1 := by
  induction cs with
  | nil => exact fun q h => h
  | cons a cs ih =>
    intro q h
    refine ih _ ?_
    by_cases h0 : a = 0
    · rw [tm_st0 h0]; exact h
    · by_cases hb : a < 33 ∨ 126 < a ∨ q.2.1 = 100
      · rw [tm_stb h0 hb]; exact h.ui rfl trivial
      · rw [tm_stg h0 hb]; exact (h.ui rfl trivial).ui rfl trivial
theorem LT.text {u : ab_S} {n : Nat} (hc : CI u) (hm : MI u) (hn : n ≤ 100) (e1 : u.1 1 0 3 = nI n) (e2 : u.1 17 0 2 = nI n) (e3 : ∀ k, k < n → u.1 11 0 k = u.1 18 0 k) (e4 : tE u ∧ dnn u) (cs : List Int32) (u1 : ab_S) (h1 : u1 = tx_s (tc_run cs (u, some n))) (u2 : ab_S) (h2 : u2 = tm_s (tm_run cs (ab_ui (ab_ui (ab_ui u1 17 0 0 0) 17 0 41 (nI n)) 17 0 42 0, n, false))) (hR : tx_R (tc_run cs (u, some n)).2 (tm_run cs (ab_ui (ab_ui (ab_ui u1 17 0 0 0) 17 0 41 (nI n)) 17 0 42 0, n, false)).2.1 (tm_run cs (ab_ui (ab_ui (ab_ui u1 17 0 0 0) 17 0 41 (nI n)) 17 0 42 0, n, false)).2.2) : LT u2 := by
  have ok := (tm_run_ok cs (ab_ui (ab_ui (ab_ui u1 17 0 0 0) 17 0 41 (nI n)) 17 0 42 0, n, false) ⟨by simp [ab_up], by simp [ab_up, tm_z], hn⟩).1
  -- the class's part
  have r1 : u1.2 = u.2 := by rw [h1]; exact (tx_refs _).trans (tc_refs _ _)
  have k1 : ∀ c i k, c ≠ 11 → ¬ (c = 1 ∧ k = 3) → u1.1 c i k = u.1 c i k := by
    intro c i k a b
    rw [h1]
    by_cases z : c = 1
    · subst z; exact (tx_keep3 _ (fun y => b ⟨rfl, y⟩)).trans (tc_keep _ a _)
    · exact (tx_keep _ z).trans (tc_keep _ a _)
  have l1 : (∃ k, k ≤ 100 ∧ (tc_run cs (u, some n)).2 = some k ∧ u1.1 1 0 3 = nI k) ∨ ((∀ k, (tc_run cs (u, some n)).2 = some k → ¬ k ≤ 100) ∧ u1.1 1 0 3 = nI n) := by
    rw [h1]
    have keep := tc_keep cs (c := 1) (i := 0) (k := 3) (by decide) (u, some n)
    revert keep
    cases hq : tc_run cs (u, some n) with
    | mk w o =>
      intro keep
      cases o with
      | none => exact Or.inr ⟨fun k z => (by cases z), keep.trans e1⟩
      | some k =>
        by_cases z : k ≤ 100
        · refine Or.inl ⟨k, z, rfl, ?_⟩
          show (if k ≤ 100 then ab_ui w 1 0 3 (nI k) else w).1 1 0 3 = nI k
          rw [if_pos z]; exact ui_s _
        · refine Or.inr ⟨fun k' y => (by cases y; exact z), ?_⟩
          show (if k ≤ 100 then ab_ui w 1 0 3 (nI k) else w).1 1 0 3 = nI n
          rw [if_neg z]; exact keep.trans e1
  have c1 : CI u1 := hc.cong (by rw [r1]) (fun c i k _ a b => k1 c i k a b) (by rcases l1 with ⟨k, a, -, b⟩ | ⟨-, b⟩; exact ⟨k, a, b⟩; exact ⟨n, hn, b⟩)
  have m1 : MI u1 := hm.cong (fun i k => by rw [r1]) (fun i k => k1 17 i k (by decide) (by omega)) (fun i k => k1 18 i k (by decide) (by omega))
  have t1 : u1.1 17 0 2 = nI n := (k1 17 0 2 (by decide) (by omega)).trans e2
  -- the reference's part
  have g0 : gP [0, 2, 41, 42, 100] u1 (tm_run cs (ab_ui (ab_ui (ab_ui u1 17 0 0 0) 17 0 41 (nI n)) 17 0 42 0, n, false)).1 := tm_gP cs _ ((((gP.rf m1.1 : gP [0, 2, 41, 42, 100] u1 u1).ui rfl trivial).ui rfl trivial).ui rfl trivial)
  have keep2 : (tm_run cs (ab_ui (ab_ui (ab_ui u1 17 0 0 0) 17 0 41 (nI n)) 17 0 42 0, n, false)).1.1 17 0 2 = nI n := by
    have : ∀ (cs : List Int32) (q : ab_S × Nat × Bool), (tm_run cs q).1.1 17 0 2 = q.1.1 17 0 2 := by
      intro cs
      induction cs with
      | nil => exact fun _ => rfl
      | cons a cs ih =>
        intro q
        refine (ih _).trans ?_
        by_cases h0 : a = 0
        · rw [tm_st0 h0]
        · by_cases hb : a < 33 ∨ 126 < a ∨ q.2.1 = 100
          · rw [tm_stb h0 hb]; exact ui_n _ (by omega)
          · rw [tm_stg h0 hb]; exact (ui_n _ (by omega)).trans (ui_n _ (by omega))
    refine (this cs _).trans ?_
    simpa [ab_up] using t1
  have hCC : tx_C n (tc_run cs (u, some n)) (tm_run cs (ab_ui (ab_ui (ab_ui u1 17 0 0 0) 17 0 41 (nI n)) 17 0 42 0, n, false)) := by
    refine tx_Cr cs _ _ ⟨Nat.le_refl _, fun j hj => by cases hj; exact Nat.le_refl _, fun k hk => ?_, fun j hj _ k hk => ?_⟩ (Or.inl ⟨hn, rfl, rfl⟩)
    · exact (e3 k hk).trans ((k1 18 0 k (by decide) (by omega)).symm.trans (by simp [ab_up]))
    · cases hj
      exact (e3 k hk).trans ((k1 18 0 k (by decide) (by omega)).symm.trans (by simp [ab_up]))
  have c11 : ∀ k, u1.1 11 0 k = (tc_run cs (u, some n)).1.1 11 0 k := fun k => by rw [h1]; exact tx_keep _ (by decide)
  revert g0 keep2 ok hR h2 hCC
  generalize tm_run cs (ab_ui (ab_ui (ab_ui u1 17 0 0 0) 17 0 41 (nI n)) 17 0 42 0, n, false) = q
  intro h2 hR ok g0 keep2 hCC
  obtain ⟨-, -, C3, C4⟩ := hCC
  have s18 : ∀ k, u2.1 18 0 k = q.1.1 18 0 k := fun k => by
    rw [h2]; unfold tm_s
    by_cases z : q.2.2 = true
    · rw [if_pos z]
    · rw [if_neg z]; exact ui_n _ (by omega)
  have g2 : gP [0, 2, 41, 42, 100] u1 u2 := by
    rw [h2]; unfold tm_s
    by_cases z : q.2.2 = true
    · rw [if_pos z]; exact g0
    · rw [if_neg z]; exact g0.ui rfl trivial
  have t2 : u2.1 17 0 2 = if q.2.2 = true then nI n else nI q.2.1 := by
    rw [h2]; unfold tm_s
    by_cases z : q.2.2 = true
    · rw [if_pos z, if_pos z]; exact keep2
    · rw [if_neg z, if_neg z]; exact ui_s _
  have c2 : CI u2 := c1.oS g2.oS
  have hl2 : u2.1 1 0 3 = u1.1 1 0 3 := g2.2.2.1 1 0 3 (by decide) (by decide) (by decide)
  have s11 : ∀ k, u2.1 11 0 k = (tc_run cs (u, some n)).1.1 11 0 k := fun k => (g2.2.2.1 11 0 k (by decide) (by decide) (by decide)).trans (c11 k)
  have joint : ∃ k, k ≤ 100 ∧ u2.1 1 0 3 = nI k ∧ u2.1 17 0 2 = nI k ∧ ∀ j, j < k → u2.1 11 0 j = u2.1 18 0 j := by
    rcases l1 with ⟨k, a, b, d⟩ | ⟨b, d⟩
    · rw [b] at hR
      rcases hR with ⟨x1, x2, x3⟩ | ⟨x1, -⟩
      · exact ⟨k, a, hl2.trans d, by rw [t2, x3, if_neg (by decide), x2], fun j hj => (s11 j).trans ((C4 k b a j hj).trans (s18 j).symm)⟩
      · omega
    · have hb : q.2.2 = true := by
        cases ho : (tc_run cs (u, some n)).2 with
        | none => rw [ho] at hR; exact hR
        | some k =>
          rw [ho] at hR
          rcases hR with ⟨x1, -⟩ | ⟨-, x2⟩
          · exact absurd x1 (b k ho)
          · exact x2
      exact ⟨n, hn, hl2.trans d, by rw [t2, if_pos hb], fun j hj => (s11 j).trans ((C3 j hj).trans (s18 j).symm)⟩
  obtain ⟨-, -, m3, m4⟩ := m1
  have kk : ∀ c i k, c ≠ 11 → c < 17 → ¬ (c = 1 ∧ k = 3) → u2.1 c i k = u.1 c i k := fun c i k x y z => (g2.2.2.1 c i k (by omega) (by omega) (by omega)).trans (k1 c i k x z)
  have tree : tE u2 := by
    refine e4.1.cong (fun s hs => ?_) (fun a k x y => ?_) (fun k hk => kk _ _ _ (by decide) (by decide) (by omega)) (fun i k hk => kk _ _ _ (by decide) (by decide) (by omega)) (fun c i k hc => kk _ _ _ (by omega) (by omega) (by omega)) (fun c i k _ => ?_) (fun i k _ _ => ⟨kk _ _ _ (by decide) (by decide) (by omega), kk _ _ _ (by decide) (by decide) (by omega)⟩)
    · exact (g2.fi (by rcases hs with rfl | rfl | rfl <;> decide) rfl).trans (k1 17 0 s (by decide) (by omega))
    · exact (g2.ai (by have w : a = 1 ∨ a = 2 ∨ a = 3 ∨ a = 4 ∨ a = 5 ∨ a = 6 ∨ a = 7 ∨ a = 8 ∨ a = 9 := (by omega); rcases w with rfl | rfl | rfl | rfl | rfl | rfl | rfl | rfl | rfl <;> decide) rfl).trans (k1 18 a k (by decide) (by omega))
    · rw [g2.2.1, r1]
  refine ⟨c2, ⟨g2.1, ?_, ?_, ?_⟩, joint, tree, e4.2.cong (fun i k => kk _ _ _ (by decide) (by decide) (by omega))⟩
  · obtain ⟨k, a, -, b, -⟩ := joint; exact ⟨k, a, b⟩
  · obtain ⟨k, a, b⟩ := m3; exact ⟨k, a, g2.fi (by decide) b⟩
  · rcases m4 with z | ⟨z, P, kd, ar, cn, lf, ch, W, T, V⟩
    · exact Or.inl (g2.fi (by decide) z)
    · exact Or.inr ⟨g2.fi (by decide) z, P, kd, ar, cn, lf, ch, W, T.fr g2 (by decide) (by decide) (by decide) (by decide) (by decide), V.fr g2 (by decide) (by decide) (by decide)⟩
section AbLaw
variable {l : Launch} {D : va_G} {ca : Nat → ClassId} {p : Program} {e : Env} {s : State} {m : MethodId} {below : List Frame} {meth : Method} {c : Code} {b : Nat} {ad : ab_Ad} {xs : Nat → Int32}
theorem la_end (X : ab_X p s m #[Value.ref b] c code "PolicyForgeLaw" 7 D ca (fun q => s.heap.size ≤ q) s.heap) (hr : meth.sig.returnType = ret) (hlk : meth.locks = false) {k n : Nat} (hk : k ≤ 601024) (hn : n ≤ 7293034) {pc : Nat} (hd : decode code pc = .ok (.ireturn, 1)) {N : Nat → Nat} {u : ab_S} {lv : List (Nat × ab_V)} : ab_J p l e room_1 s m #[Value.ref b] below meth c (lw_Z below #[Value.ref b] s) D ca (fun q => s.heap.size ≤ q) s.heap 7 k n ad N u pc lv [ab_I 1] := fun H locs ls hW hS hl =>
  va_forget (fun q hq => hS.2.2 q hq) (W.widen hk hn (lw_ret X.1 X.2.1 hr hlk hd))
abbrev b_LW_law : ByteArray := code
def y_LW_law : MethodName := ⟨"PolicyForgeLaw", "law", "([I)Z"⟩
theorem d_LW_law_0 : decode b_LW_law 0 = .ok (.new 8, 3) := by decide +kernel
theorem d_LW_law_3 : decode b_LW_law 3 = .ok (.dup, 1) := by decide +kernel
theorem d_LW_law_4 : decode b_LW_law 4 = .ok (.invokespecial 46, 3) := by decide +kernel
theorem d_LW_law_7 : decode b_LW_law 7 = .ok (.astore_n 1, 1) := by decide +kernel
theorem d_LW_law_8 : decode b_LW_law 8 = .ok (.new 47, 3) := by decide +kernel
theorem d_LW_law_11 : decode b_LW_law 11 = .ok (.dup, 1) := by decide +kernel
theorem d_LW_law_12 : decode b_LW_law 12 = .ok (.invokespecial 49, 3) := by decide +kernel
theorem d_LW_law_15 : decode b_LW_law 15 = .ok (.astore_n 2, 1) := by decide +kernel
theorem d_LW_law_16 : decode b_LW_law 16 = .ok (.iconst 1, 1) := by decide +kernel
theorem d_LW_law_17 : decode b_LW_law 17 = .ok (.newarray .long, 2) := by decide +kernel
theorem d_LW_law_19 : decode b_LW_law 19 = .ok (.astore_n 3, 1) := by decide +kernel
theorem d_LW_law_20 : decode b_LW_law 20 = .ok (.iconst 0, 1) := by decide +kernel
theorem d_LW_law_21 : decode b_LW_law 21 = .ok (.istore 4, 2) := by decide +kernel
theorem d_LW_law_23 : decode b_LW_law 23 = .ok (.iload 4, 2) := by decide +kernel
theorem d_LW_law_25 : decode b_LW_law 25 = .ok (.aload_n 0, 1) := by decide +kernel
theorem d_LW_law_26 : decode b_LW_law 26 = .ok (.arraylength, 1) := by decide +kernel
theorem d_LW_law_27 : decode b_LW_law 27 = .ok (.bipush 6, 2) := by decide +kernel
theorem d_LW_law_29 : decode b_LW_law 29 = .ok (.isub, 1) := by decide +kernel
theorem d_LW_law_30 : decode b_LW_law 30 = .ok (.if_icmp .gt 486, 3) := by decide +kernel
theorem d_LW_law_33 : decode b_LW_law 33 = .ok (.aload_n 0, 1) := by decide +kernel
theorem d_LW_law_34 : decode b_LW_law 34 = .ok (.iload 4, 2) := by decide +kernel
theorem d_LW_law_36 : decode b_LW_law 36 = .ok (.iaload, 1) := by decide +kernel
theorem d_LW_law_37 : decode b_LW_law 37 = .ok (.bipush 15, 2) := by decide +kernel
theorem d_LW_law_39 : decode b_LW_law 39 = .ok (.iand, 1) := by decide +kernel
theorem d_LW_law_40 : decode b_LW_law 40 = .ok (.tableswitch 470 0 11 #[64, 137, 153, 166, 230, 258, 286, 350, 378, 389, 417, 457], 64) := by decide +kernel
theorem d_LW_law_104 : decode b_LW_law 104 = .ok (.aload_n 1, 1) := by decide +kernel
theorem d_LW_law_105 : decode b_LW_law 105 = .ok (.aload_n 0, 1) := by decide +kernel
theorem d_LW_law_106 : decode b_LW_law 106 = .ok (.iload 4, 2) := by decide +kernel
theorem d_LW_law_108 : decode b_LW_law 108 = .ok (.iconst 1, 1) := by decide +kernel
theorem d_LW_law_109 : decode b_LW_law 109 = .ok (.iadd, 1) := by decide +kernel
theorem d_LW_law_110 : decode b_LW_law 110 = .ok (.iaload, 1) := by decide +kernel
theorem d_LW_law_111 : decode b_LW_law 111 = .ok (.aload_n 0, 1) := by decide +kernel
theorem d_LW_law_112 : decode b_LW_law 112 = .ok (.iload 4, 2) := by decide +kernel
theorem d_LW_law_114 : decode b_LW_law 114 = .ok (.iconst 2, 1) := by decide +kernel
theorem d_LW_law_115 : decode b_LW_law 115 = .ok (.iadd, 1) := by decide +kernel
theorem d_LW_law_116 : decode b_LW_law 116 = .ok (.iaload, 1) := by decide +kernel
theorem d_LW_law_117 : decode b_LW_law 117 = .ok (.aload_n 0, 1) := by decide +kernel
theorem d_LW_law_118 : decode b_LW_law 118 = .ok (.iload 4, 2) := by decide +kernel
theorem d_LW_law_120 : decode b_LW_law 120 = .ok (.iconst 3, 1) := by decide +kernel
theorem d_LW_law_121 : decode b_LW_law 121 = .ok (.iadd, 1) := by decide +kernel
theorem d_LW_law_122 : decode b_LW_law 122 = .ok (.iaload, 1) := by decide +kernel
theorem d_LW_law_123 : decode b_LW_law 123 = .ok (.aload_n 0, 1) := by decide +kernel
theorem d_LW_law_124 : decode b_LW_law 124 = .ok (.iload 4, 2) := by decide +kernel
theorem d_LW_law_126 : decode b_LW_law 126 = .ok (.iconst 4, 1) := by decide +kernel
theorem d_LW_law_127 : decode b_LW_law 127 = .ok (.iadd, 1) := by decide +kernel
theorem d_LW_law_128 : decode b_LW_law 128 = .ok (.iaload, 1) := by decide +kernel
theorem d_LW_law_129 : decode b_LW_law 129 = .ok (.aload_n 0, 1) := by decide +kernel
theorem d_LW_law_130 : decode b_LW_law 130 = .ok (.iload 4, 2) := by decide +kernel
theorem d_LW_law_132 : decode b_LW_law 132 = .ok (.iconst 5, 1) := by decide +kernel
theorem d_LW_law_133 : decode b_LW_law 133 = .ok (.iadd, 1) := by decide +kernel
theorem d_LW_law_134 : decode b_LW_law 134 = .ok (.iaload, 1) := by decide +kernel
theorem d_LW_law_135 : decode b_LW_law 135 = .ok (.invokevirtual 50, 3) := by decide +kernel
theorem d_LW_law_138 : decode b_LW_law 138 = .ok (.pop, 1) := by decide +kernel
theorem d_LW_law_139 : decode b_LW_law 139 = .ok (.aload_n 2, 1) := by decide +kernel
theorem d_LW_law_140 : decode b_LW_law 140 = .ok (.aload_n 0, 1) := by decide +kernel
theorem d_LW_law_141 : decode b_LW_law 141 = .ok (.iload 4, 2) := by decide +kernel
theorem d_LW_law_143 : decode b_LW_law 143 = .ok (.iconst 1, 1) := by decide +kernel
theorem d_LW_law_144 : decode b_LW_law 144 = .ok (.iadd, 1) := by decide +kernel
theorem d_LW_law_145 : decode b_LW_law 145 = .ok (.iaload, 1) := by decide +kernel
theorem d_LW_law_146 : decode b_LW_law 146 = .ok (.aload_n 0, 1) := by decide +kernel
theorem d_LW_law_147 : decode b_LW_law 147 = .ok (.iload 4, 2) := by decide +kernel
theorem d_LW_law_149 : decode b_LW_law 149 = .ok (.iconst 2, 1) := by decide +kernel
theorem d_LW_law_150 : decode b_LW_law 150 = .ok (.iadd, 1) := by decide +kernel
theorem d_LW_law_151 : decode b_LW_law 151 = .ok (.iaload, 1) := by decide +kernel
theorem d_LW_law_152 : decode b_LW_law 152 = .ok (.aload_n 0, 1) := by decide +kernel
theorem d_LW_law_153 : decode b_LW_law 153 = .ok (.iload 4, 2) := by decide +kernel
theorem d_LW_law_155 : decode b_LW_law 155 = .ok (.iconst 3, 1) := by decide +kernel
theorem d_LW_law_156 : decode b_LW_law 156 = .ok (.iadd, 1) := by decide +kernel
theorem d_LW_law_157 : decode b_LW_law 157 = .ok (.iaload, 1) := by decide +kernel
theorem d_LW_law_158 : decode b_LW_law 158 = .ok (.aload_n 0, 1) := by decide +kernel
theorem d_LW_law_159 : decode b_LW_law 159 = .ok (.iload 4, 2) := by decide +kernel
theorem d_LW_law_161 : decode b_LW_law 161 = .ok (.iconst 4, 1) := by decide +kernel
theorem d_LW_law_162 : decode b_LW_law 162 = .ok (.iadd, 1) := by decide +kernel
theorem d_LW_law_163 : decode b_LW_law 163 = .ok (.iaload, 1) := by decide +kernel
theorem d_LW_law_164 : decode b_LW_law 164 = .ok (.aload_n 0, 1) := by decide +kernel
theorem d_LW_law_165 : decode b_LW_law 165 = .ok (.iload 4, 2) := by decide +kernel
theorem d_LW_law_167 : decode b_LW_law 167 = .ok (.iconst 5, 1) := by decide +kernel
theorem d_LW_law_168 : decode b_LW_law 168 = .ok (.iadd, 1) := by decide +kernel
theorem d_LW_law_169 : decode b_LW_law 169 = .ok (.iaload, 1) := by decide +kernel
theorem d_LW_law_170 : decode b_LW_law 170 = .ok (.invokevirtual 54, 3) := by decide +kernel
theorem d_LW_law_173 : decode b_LW_law 173 = .ok (.pop, 1) := by decide +kernel
theorem d_LW_law_174 : decode b_LW_law 174 = .ok (.goto 336, 3) := by decide +kernel
theorem d_LW_law_177 : decode b_LW_law 177 = .ok (.aload_n 1, 1) := by decide +kernel
theorem d_LW_law_178 : decode b_LW_law 178 = .ok (.aload_n 3, 1) := by decide +kernel
theorem d_LW_law_179 : decode b_LW_law 179 = .ok (.invokestatic 55, 3) := by decide +kernel
theorem d_LW_law_182 : decode b_LW_law 182 = .ok (.istore 5, 2) := by decide +kernel
theorem d_LW_law_184 : decode b_LW_law 184 = .ok (.aload_n 2, 1) := by decide +kernel
theorem d_LW_law_185 : decode b_LW_law 185 = .ok (.invokevirtual 60, 3) := by decide +kernel
theorem d_LW_law_188 : decode b_LW_law 188 = .ok (.istore 6, 2) := by decide +kernel
theorem d_LW_law_190 : decode b_LW_law 190 = .ok (.goto 320, 3) := by decide +kernel
theorem d_LW_law_193 : decode b_LW_law 193 = .ok (.aload_n 1, 1) := by decide +kernel
theorem d_LW_law_194 : decode b_LW_law 194 = .ok (.invokevirtual 61, 3) := by decide +kernel
theorem d_LW_law_197 : decode b_LW_law 197 = .ok (.pop, 1) := by decide +kernel
theorem d_LW_law_198 : decode b_LW_law 198 = .ok (.aload_n 2, 1) := by decide +kernel
theorem d_LW_law_199 : decode b_LW_law 199 = .ok (.invokevirtual 64, 3) := by decide +kernel
theorem d_LW_law_202 : decode b_LW_law 202 = .ok (.pop, 1) := by decide +kernel
theorem d_LW_law_203 : decode b_LW_law 203 = .ok (.goto 307, 3) := by decide +kernel
theorem d_LW_law_206 : decode b_LW_law 206 = .ok (.aload_n 1, 1) := by decide +kernel
theorem d_LW_law_207 : decode b_LW_law 207 = .ok (.aload_n 0, 1) := by decide +kernel
theorem d_LW_law_208 : decode b_LW_law 208 = .ok (.iload 4, 2) := by decide +kernel
theorem d_LW_law_210 : decode b_LW_law 210 = .ok (.iconst 1, 1) := by decide +kernel
theorem d_LW_law_211 : decode b_LW_law 211 = .ok (.iadd, 1) := by decide +kernel
theorem d_LW_law_212 : decode b_LW_law 212 = .ok (.iaload, 1) := by decide +kernel
theorem d_LW_law_213 : decode b_LW_law 213 = .ok (.aload_n 0, 1) := by decide +kernel
theorem d_LW_law_214 : decode b_LW_law 214 = .ok (.iload 4, 2) := by decide +kernel
theorem d_LW_law_216 : decode b_LW_law 216 = .ok (.iconst 2, 1) := by decide +kernel
theorem d_LW_law_217 : decode b_LW_law 217 = .ok (.iadd, 1) := by decide +kernel
theorem d_LW_law_218 : decode b_LW_law 218 = .ok (.iaload, 1) := by decide +kernel
theorem d_LW_law_219 : decode b_LW_law 219 = .ok (.aload_n 0, 1) := by decide +kernel
theorem d_LW_law_220 : decode b_LW_law 220 = .ok (.iload 4, 2) := by decide +kernel
theorem d_LW_law_222 : decode b_LW_law 222 = .ok (.iconst 3, 1) := by decide +kernel
theorem d_LW_law_223 : decode b_LW_law 223 = .ok (.iadd, 1) := by decide +kernel
theorem d_LW_law_224 : decode b_LW_law 224 = .ok (.iaload, 1) := by decide +kernel
theorem d_LW_law_225 : decode b_LW_law 225 = .ok (.aload_n 0, 1) := by decide +kernel
theorem d_LW_law_226 : decode b_LW_law 226 = .ok (.iload 4, 2) := by decide +kernel
theorem d_LW_law_228 : decode b_LW_law 228 = .ok (.iconst 4, 1) := by decide +kernel
theorem d_LW_law_229 : decode b_LW_law 229 = .ok (.iadd, 1) := by decide +kernel
theorem d_LW_law_230 : decode b_LW_law 230 = .ok (.iaload, 1) := by decide +kernel
theorem d_LW_law_231 : decode b_LW_law 231 = .ok (.aload_n 3, 1) := by decide +kernel
theorem d_LW_law_232 : decode b_LW_law 232 = .ok (.invokestatic 65, 3) := by decide +kernel
theorem d_LW_law_235 : decode b_LW_law 235 = .ok (.istore 5, 2) := by decide +kernel
theorem d_LW_law_237 : decode b_LW_law 237 = .ok (.aload_n 2, 1) := by decide +kernel
theorem d_LW_law_238 : decode b_LW_law 238 = .ok (.aload_n 0, 1) := by decide +kernel
theorem d_LW_law_239 : decode b_LW_law 239 = .ok (.iload 4, 2) := by decide +kernel
theorem d_LW_law_241 : decode b_LW_law 241 = .ok (.iconst 1, 1) := by decide +kernel
theorem d_LW_law_242 : decode b_LW_law 242 = .ok (.iadd, 1) := by decide +kernel
theorem d_LW_law_243 : decode b_LW_law 243 = .ok (.iaload, 1) := by decide +kernel
theorem d_LW_law_244 : decode b_LW_law 244 = .ok (.aload_n 0, 1) := by decide +kernel
theorem d_LW_law_245 : decode b_LW_law 245 = .ok (.iload 4, 2) := by decide +kernel
theorem d_LW_law_247 : decode b_LW_law 247 = .ok (.iconst 2, 1) := by decide +kernel
theorem d_LW_law_248 : decode b_LW_law 248 = .ok (.iadd, 1) := by decide +kernel
theorem d_LW_law_249 : decode b_LW_law 249 = .ok (.iaload, 1) := by decide +kernel
theorem d_LW_law_250 : decode b_LW_law 250 = .ok (.aload_n 0, 1) := by decide +kernel
theorem d_LW_law_251 : decode b_LW_law 251 = .ok (.iload 4, 2) := by decide +kernel
theorem d_LW_law_253 : decode b_LW_law 253 = .ok (.iconst 3, 1) := by decide +kernel
theorem d_LW_law_254 : decode b_LW_law 254 = .ok (.iadd, 1) := by decide +kernel
theorem d_LW_law_255 : decode b_LW_law 255 = .ok (.iaload, 1) := by decide +kernel
theorem d_LW_law_256 : decode b_LW_law 256 = .ok (.aload_n 0, 1) := by decide +kernel
theorem d_LW_law_257 : decode b_LW_law 257 = .ok (.iload 4, 2) := by decide +kernel
theorem d_LW_law_259 : decode b_LW_law 259 = .ok (.iconst 4, 1) := by decide +kernel
theorem d_LW_law_260 : decode b_LW_law 260 = .ok (.iadd, 1) := by decide +kernel
theorem d_LW_law_261 : decode b_LW_law 261 = .ok (.iaload, 1) := by decide +kernel
theorem d_LW_law_262 : decode b_LW_law 262 = .ok (.invokevirtual 68, 3) := by decide +kernel
theorem d_LW_law_265 : decode b_LW_law 265 = .ok (.istore 6, 2) := by decide +kernel
theorem d_LW_law_267 : decode b_LW_law 267 = .ok (.goto 243, 3) := by decide +kernel
theorem d_LW_law_270 : decode b_LW_law 270 = .ok (.aload_n 1, 1) := by decide +kernel
theorem d_LW_law_271 : decode b_LW_law 271 = .ok (.aload_n 0, 1) := by decide +kernel
theorem d_LW_law_272 : decode b_LW_law 272 = .ok (.iload 4, 2) := by decide +kernel
theorem d_LW_law_274 : decode b_LW_law 274 = .ok (.iconst 1, 1) := by decide +kernel
theorem d_LW_law_275 : decode b_LW_law 275 = .ok (.iadd, 1) := by decide +kernel
theorem d_LW_law_276 : decode b_LW_law 276 = .ok (.iaload, 1) := by decide +kernel
theorem d_LW_law_277 : decode b_LW_law 277 = .ok (.aload_n 3, 1) := by decide +kernel
theorem d_LW_law_278 : decode b_LW_law 278 = .ok (.invokestatic 69, 3) := by decide +kernel
theorem d_LW_law_281 : decode b_LW_law 281 = .ok (.istore 5, 2) := by decide +kernel
theorem d_LW_law_283 : decode b_LW_law 283 = .ok (.aload_n 2, 1) := by decide +kernel
theorem d_LW_law_284 : decode b_LW_law 284 = .ok (.aload_n 0, 1) := by decide +kernel
theorem d_LW_law_285 : decode b_LW_law 285 = .ok (.iload 4, 2) := by decide +kernel
theorem d_LW_law_287 : decode b_LW_law 287 = .ok (.iconst 1, 1) := by decide +kernel
theorem d_LW_law_288 : decode b_LW_law 288 = .ok (.iadd, 1) := by decide +kernel
theorem d_LW_law_289 : decode b_LW_law 289 = .ok (.iaload, 1) := by decide +kernel
theorem d_LW_law_290 : decode b_LW_law 290 = .ok (.invokevirtual 72, 3) := by decide +kernel
theorem d_LW_law_293 : decode b_LW_law 293 = .ok (.istore 6, 2) := by decide +kernel
theorem d_LW_law_295 : decode b_LW_law 295 = .ok (.goto 215, 3) := by decide +kernel
theorem d_LW_law_298 : decode b_LW_law 298 = .ok (.aload_n 1, 1) := by decide +kernel
theorem d_LW_law_299 : decode b_LW_law 299 = .ok (.aload_n 0, 1) := by decide +kernel
theorem d_LW_law_300 : decode b_LW_law 300 = .ok (.iload 4, 2) := by decide +kernel
theorem d_LW_law_302 : decode b_LW_law 302 = .ok (.iconst 1, 1) := by decide +kernel
theorem d_LW_law_303 : decode b_LW_law 303 = .ok (.iadd, 1) := by decide +kernel
theorem d_LW_law_304 : decode b_LW_law 304 = .ok (.iaload, 1) := by decide +kernel
theorem d_LW_law_305 : decode b_LW_law 305 = .ok (.aload_n 3, 1) := by decide +kernel
theorem d_LW_law_306 : decode b_LW_law 306 = .ok (.invokestatic 73, 3) := by decide +kernel
theorem d_LW_law_309 : decode b_LW_law 309 = .ok (.istore 5, 2) := by decide +kernel
theorem d_LW_law_311 : decode b_LW_law 311 = .ok (.aload_n 2, 1) := by decide +kernel
theorem d_LW_law_312 : decode b_LW_law 312 = .ok (.aload_n 0, 1) := by decide +kernel
theorem d_LW_law_313 : decode b_LW_law 313 = .ok (.iload 4, 2) := by decide +kernel
theorem d_LW_law_315 : decode b_LW_law 315 = .ok (.iconst 1, 1) := by decide +kernel
theorem d_LW_law_316 : decode b_LW_law 316 = .ok (.iadd, 1) := by decide +kernel
theorem d_LW_law_317 : decode b_LW_law 317 = .ok (.iaload, 1) := by decide +kernel
theorem d_LW_law_318 : decode b_LW_law 318 = .ok (.invokevirtual 75, 3) := by decide +kernel
theorem d_LW_law_321 : decode b_LW_law 321 = .ok (.istore 6, 2) := by decide +kernel
theorem d_LW_law_323 : decode b_LW_law 323 = .ok (.goto 187, 3) := by decide +kernel
theorem d_LW_law_326 : decode b_LW_law 326 = .ok (.aload_n 1, 1) := by decide +kernel
theorem d_LW_law_327 : decode b_LW_law 327 = .ok (.aload_n 0, 1) := by decide +kernel
theorem d_LW_law_328 : decode b_LW_law 328 = .ok (.iload 4, 2) := by decide +kernel
theorem d_LW_law_330 : decode b_LW_law 330 = .ok (.iconst 1, 1) := by decide +kernel
theorem d_LW_law_331 : decode b_LW_law 331 = .ok (.iadd, 1) := by decide +kernel
theorem d_LW_law_332 : decode b_LW_law 332 = .ok (.iaload, 1) := by decide +kernel
theorem d_LW_law_333 : decode b_LW_law 333 = .ok (.aload_n 0, 1) := by decide +kernel
theorem d_LW_law_334 : decode b_LW_law 334 = .ok (.iload 4, 2) := by decide +kernel
theorem d_LW_law_336 : decode b_LW_law 336 = .ok (.iconst 2, 1) := by decide +kernel
theorem d_LW_law_337 : decode b_LW_law 337 = .ok (.iadd, 1) := by decide +kernel
theorem d_LW_law_338 : decode b_LW_law 338 = .ok (.iaload, 1) := by decide +kernel
theorem d_LW_law_339 : decode b_LW_law 339 = .ok (.aload_n 0, 1) := by decide +kernel
theorem d_LW_law_340 : decode b_LW_law 340 = .ok (.iload 4, 2) := by decide +kernel
theorem d_LW_law_342 : decode b_LW_law 342 = .ok (.iconst 3, 1) := by decide +kernel
theorem d_LW_law_343 : decode b_LW_law 343 = .ok (.iadd, 1) := by decide +kernel
theorem d_LW_law_344 : decode b_LW_law 344 = .ok (.iaload, 1) := by decide +kernel
theorem d_LW_law_345 : decode b_LW_law 345 = .ok (.aload_n 0, 1) := by decide +kernel
theorem d_LW_law_346 : decode b_LW_law 346 = .ok (.iload 4, 2) := by decide +kernel
theorem d_LW_law_348 : decode b_LW_law 348 = .ok (.iconst 4, 1) := by decide +kernel
theorem d_LW_law_349 : decode b_LW_law 349 = .ok (.iadd, 1) := by decide +kernel
theorem d_LW_law_350 : decode b_LW_law 350 = .ok (.iaload, 1) := by decide +kernel
theorem d_LW_law_351 : decode b_LW_law 351 = .ok (.aload_n 3, 1) := by decide +kernel
theorem d_LW_law_352 : decode b_LW_law 352 = .ok (.invokestatic 76, 3) := by decide +kernel
theorem d_LW_law_355 : decode b_LW_law 355 = .ok (.istore 5, 2) := by decide +kernel
theorem d_LW_law_357 : decode b_LW_law 357 = .ok (.aload_n 2, 1) := by decide +kernel
theorem d_LW_law_358 : decode b_LW_law 358 = .ok (.aload_n 0, 1) := by decide +kernel
theorem d_LW_law_359 : decode b_LW_law 359 = .ok (.iload 4, 2) := by decide +kernel
theorem d_LW_law_361 : decode b_LW_law 361 = .ok (.iconst 1, 1) := by decide +kernel
theorem d_LW_law_362 : decode b_LW_law 362 = .ok (.iadd, 1) := by decide +kernel
theorem d_LW_law_363 : decode b_LW_law 363 = .ok (.iaload, 1) := by decide +kernel
theorem d_LW_law_364 : decode b_LW_law 364 = .ok (.aload_n 0, 1) := by decide +kernel
theorem d_LW_law_365 : decode b_LW_law 365 = .ok (.iload 4, 2) := by decide +kernel
theorem d_LW_law_367 : decode b_LW_law 367 = .ok (.iconst 2, 1) := by decide +kernel
theorem d_LW_law_368 : decode b_LW_law 368 = .ok (.iadd, 1) := by decide +kernel
theorem d_LW_law_369 : decode b_LW_law 369 = .ok (.iaload, 1) := by decide +kernel
theorem d_LW_law_370 : decode b_LW_law 370 = .ok (.aload_n 0, 1) := by decide +kernel
theorem d_LW_law_371 : decode b_LW_law 371 = .ok (.iload 4, 2) := by decide +kernel
theorem d_LW_law_373 : decode b_LW_law 373 = .ok (.iconst 3, 1) := by decide +kernel
theorem d_LW_law_374 : decode b_LW_law 374 = .ok (.iadd, 1) := by decide +kernel
theorem d_LW_law_375 : decode b_LW_law 375 = .ok (.iaload, 1) := by decide +kernel
theorem d_LW_law_376 : decode b_LW_law 376 = .ok (.aload_n 0, 1) := by decide +kernel
theorem d_LW_law_377 : decode b_LW_law 377 = .ok (.iload 4, 2) := by decide +kernel
theorem d_LW_law_379 : decode b_LW_law 379 = .ok (.iconst 4, 1) := by decide +kernel
theorem d_LW_law_380 : decode b_LW_law 380 = .ok (.iadd, 1) := by decide +kernel
theorem d_LW_law_381 : decode b_LW_law 381 = .ok (.iaload, 1) := by decide +kernel
theorem d_LW_law_382 : decode b_LW_law 382 = .ok (.invokevirtual 78, 3) := by decide +kernel
theorem d_LW_law_385 : decode b_LW_law 385 = .ok (.istore 6, 2) := by decide +kernel
theorem d_LW_law_387 : decode b_LW_law 387 = .ok (.goto 123, 3) := by decide +kernel
theorem d_LW_law_390 : decode b_LW_law 390 = .ok (.aload_n 1, 1) := by decide +kernel
theorem d_LW_law_391 : decode b_LW_law 391 = .ok (.aload_n 0, 1) := by decide +kernel
theorem d_LW_law_392 : decode b_LW_law 392 = .ok (.iload 4, 2) := by decide +kernel
theorem d_LW_law_394 : decode b_LW_law 394 = .ok (.iconst 1, 1) := by decide +kernel
theorem d_LW_law_395 : decode b_LW_law 395 = .ok (.iadd, 1) := by decide +kernel
theorem d_LW_law_396 : decode b_LW_law 396 = .ok (.iaload, 1) := by decide +kernel
theorem d_LW_law_397 : decode b_LW_law 397 = .ok (.aload_n 3, 1) := by decide +kernel
theorem d_LW_law_398 : decode b_LW_law 398 = .ok (.invokestatic 79, 3) := by decide +kernel
theorem d_LW_law_401 : decode b_LW_law 401 = .ok (.istore 5, 2) := by decide +kernel
theorem d_LW_law_403 : decode b_LW_law 403 = .ok (.aload_n 2, 1) := by decide +kernel
theorem d_LW_law_404 : decode b_LW_law 404 = .ok (.aload_n 0, 1) := by decide +kernel
theorem d_LW_law_405 : decode b_LW_law 405 = .ok (.iload 4, 2) := by decide +kernel
theorem d_LW_law_407 : decode b_LW_law 407 = .ok (.iconst 1, 1) := by decide +kernel
theorem d_LW_law_408 : decode b_LW_law 408 = .ok (.iadd, 1) := by decide +kernel
theorem d_LW_law_409 : decode b_LW_law 409 = .ok (.iaload, 1) := by decide +kernel
theorem d_LW_law_410 : decode b_LW_law 410 = .ok (.invokevirtual 81, 3) := by decide +kernel
theorem d_LW_law_413 : decode b_LW_law 413 = .ok (.istore 6, 2) := by decide +kernel
theorem d_LW_law_415 : decode b_LW_law 415 = .ok (.goto 95, 3) := by decide +kernel
theorem d_LW_law_418 : decode b_LW_law 418 = .ok (.aload_n 1, 1) := by decide +kernel
theorem d_LW_law_419 : decode b_LW_law 419 = .ok (.invokevirtual 82, 3) := by decide +kernel
theorem d_LW_law_422 : decode b_LW_law 422 = .ok (.aload_n 2, 1) := by decide +kernel
theorem d_LW_law_423 : decode b_LW_law 423 = .ok (.invokevirtual 85, 3) := by decide +kernel
theorem d_LW_law_426 : decode b_LW_law 426 = .ok (.goto 84, 3) := by decide +kernel
theorem d_LW_law_429 : decode b_LW_law 429 = .ok (.aload_n 1, 1) := by decide +kernel
theorem d_LW_law_430 : decode b_LW_law 430 = .ok (.aload_n 0, 1) := by decide +kernel
theorem d_LW_law_431 : decode b_LW_law 431 = .ok (.iload 4, 2) := by decide +kernel
theorem d_LW_law_433 : decode b_LW_law 433 = .ok (.iconst 1, 1) := by decide +kernel
theorem d_LW_law_434 : decode b_LW_law 434 = .ok (.iadd, 1) := by decide +kernel
theorem d_LW_law_435 : decode b_LW_law 435 = .ok (.iaload, 1) := by decide +kernel
theorem d_LW_law_436 : decode b_LW_law 436 = .ok (.aload_n 3, 1) := by decide +kernel
theorem d_LW_law_437 : decode b_LW_law 437 = .ok (.invokestatic 86, 3) := by decide +kernel
theorem d_LW_law_440 : decode b_LW_law 440 = .ok (.istore 5, 2) := by decide +kernel
theorem d_LW_law_442 : decode b_LW_law 442 = .ok (.aload_n 2, 1) := by decide +kernel
theorem d_LW_law_443 : decode b_LW_law 443 = .ok (.aload_n 0, 1) := by decide +kernel
theorem d_LW_law_444 : decode b_LW_law 444 = .ok (.iload 4, 2) := by decide +kernel
theorem d_LW_law_446 : decode b_LW_law 446 = .ok (.iconst 1, 1) := by decide +kernel
theorem d_LW_law_447 : decode b_LW_law 447 = .ok (.iadd, 1) := by decide +kernel
theorem d_LW_law_448 : decode b_LW_law 448 = .ok (.iaload, 1) := by decide +kernel
theorem d_LW_law_449 : decode b_LW_law 449 = .ok (.invokevirtual 88, 3) := by decide +kernel
theorem d_LW_law_452 : decode b_LW_law 452 = .ok (.istore 6, 2) := by decide +kernel
theorem d_LW_law_454 : decode b_LW_law 454 = .ok (.goto 56, 3) := by decide +kernel
theorem d_LW_law_457 : decode b_LW_law 457 = .ok (.aload_n 1, 1) := by decide +kernel
theorem d_LW_law_458 : decode b_LW_law 458 = .ok (.aload_n 0, 1) := by decide +kernel
theorem d_LW_law_459 : decode b_LW_law 459 = .ok (.iload 4, 2) := by decide +kernel
theorem d_LW_law_461 : decode b_LW_law 461 = .ok (.iconst 1, 1) := by decide +kernel
theorem d_LW_law_462 : decode b_LW_law 462 = .ok (.iadd, 1) := by decide +kernel
theorem d_LW_law_463 : decode b_LW_law 463 = .ok (.iaload, 1) := by decide +kernel
theorem d_LW_law_464 : decode b_LW_law 464 = .ok (.aload_n 0, 1) := by decide +kernel
theorem d_LW_law_465 : decode b_LW_law 465 = .ok (.iload 4, 2) := by decide +kernel
theorem d_LW_law_467 : decode b_LW_law 467 = .ok (.iconst 2, 1) := by decide +kernel
theorem d_LW_law_468 : decode b_LW_law 468 = .ok (.iadd, 1) := by decide +kernel
theorem d_LW_law_469 : decode b_LW_law 469 = .ok (.iaload, 1) := by decide +kernel
theorem d_LW_law_470 : decode b_LW_law 470 = .ok (.aload_n 3, 1) := by decide +kernel
theorem d_LW_law_471 : decode b_LW_law 471 = .ok (.invokestatic 89, 3) := by decide +kernel
theorem d_LW_law_474 : decode b_LW_law 474 = .ok (.istore 5, 2) := by decide +kernel
theorem d_LW_law_476 : decode b_LW_law 476 = .ok (.aload_n 2, 1) := by decide +kernel
theorem d_LW_law_477 : decode b_LW_law 477 = .ok (.aload_n 0, 1) := by decide +kernel
theorem d_LW_law_478 : decode b_LW_law 478 = .ok (.iload 4, 2) := by decide +kernel
theorem d_LW_law_480 : decode b_LW_law 480 = .ok (.iconst 1, 1) := by decide +kernel
theorem d_LW_law_481 : decode b_LW_law 481 = .ok (.iadd, 1) := by decide +kernel
theorem d_LW_law_482 : decode b_LW_law 482 = .ok (.iaload, 1) := by decide +kernel
theorem d_LW_law_483 : decode b_LW_law 483 = .ok (.aload_n 0, 1) := by decide +kernel
theorem d_LW_law_484 : decode b_LW_law 484 = .ok (.iload 4, 2) := by decide +kernel
theorem d_LW_law_486 : decode b_LW_law 486 = .ok (.iconst 2, 1) := by decide +kernel
theorem d_LW_law_487 : decode b_LW_law 487 = .ok (.iadd, 1) := by decide +kernel
theorem d_LW_law_488 : decode b_LW_law 488 = .ok (.iaload, 1) := by decide +kernel
theorem d_LW_law_489 : decode b_LW_law 489 = .ok (.invokevirtual 92, 3) := by decide +kernel
theorem d_LW_law_492 : decode b_LW_law 492 = .ok (.istore 6, 2) := by decide +kernel
theorem d_LW_law_494 : decode b_LW_law 494 = .ok (.goto 16, 3) := by decide +kernel
theorem d_LW_law_497 : decode b_LW_law 497 = .ok (.aload_n 1, 1) := by decide +kernel
theorem d_LW_law_498 : decode b_LW_law 498 = .ok (.invokevirtual 93, 3) := by decide +kernel
theorem d_LW_law_501 : decode b_LW_law 501 = .ok (.aload_n 2, 1) := by decide +kernel
theorem d_LW_law_502 : decode b_LW_law 502 = .ok (.invokevirtual 96, 3) := by decide +kernel
theorem d_LW_law_505 : decode b_LW_law 505 = .ok (.if_icmp .eq 5, 3) := by decide +kernel
theorem d_LW_law_508 : decode b_LW_law 508 = .ok (.iconst 0, 1) := by decide +kernel
theorem d_LW_law_509 : decode b_LW_law 509 = .ok (.ireturn, 1) := by decide +kernel
theorem d_LW_law_510 : decode b_LW_law 510 = .ok (.iinc 4 6, 3) := by decide +kernel
theorem d_LW_law_513 : decode b_LW_law 513 = .ok (.goto (-490), 3) := by decide +kernel
theorem d_LW_law_516 : decode b_LW_law 516 = .ok (.iconst 1, 1) := by decide +kernel
theorem d_LW_law_517 : decode b_LW_law 517 = .ok (.ireturn, 1) := by decide +kernel
theorem nw_LW_8 : ab_nw "PolicyForgeLaw" 8 0 8 := ⟨rfl, R_PF, T_PF, t_PF, rfl, uw_PF, t_PF_ok, List.forall_mem_cons.mpr ⟨(ab_in 114 (by decide +kernel) (by decide +kernel)), List.forall_mem_cons.mpr ⟨(ab_in 115 (by decide +kernel) (by decide +kernel)), List.forall_mem_cons.mpr ⟨(ab_in 92 (by decide +kernel) (by decide +kernel)), fun _ h => absurd h List.not_mem_nil⟩⟩⟩, rfl, by decide +kernel⟩
theorem lI_LW_46 : ab_lI "PolicyForgeLaw" 46 y_PF_init b_PF_init 1 0 := ⟨List.forall_mem_cons.mpr ⟨(ab_in 116 (by decide +kernel) (by decide +kernel)), List.forall_mem_cons.mpr ⟨(ab_in 117 (by decide +kernel) (by decide +kernel)), List.forall_mem_cons.mpr ⟨(ab_in 92 (by decide +kernel) (by decide +kernel)), List.forall_mem_cons.mpr ⟨(ab_in 118 (by decide +kernel) (by decide +kernel)), fun _ h => absurd h List.not_mem_nil⟩⟩⟩⟩, ⟨rfl, by decide +kernel, by decide +kernel, by decide +kernel⟩, by decide⟩
theorem nw_LW_47 : ab_nw "PolicyForgeLaw" 47 17 44 := ⟨rfl, R_MO, T_MO, t_MO, rfl, uw_MO, t_MO_ok, List.forall_mem_cons.mpr ⟨(ab_in 920 (by decide +kernel) (by decide +kernel)), List.forall_mem_cons.mpr ⟨(ab_in 921 (by decide +kernel) (by decide +kernel)), List.forall_mem_cons.mpr ⟨(ab_in 100 (by decide +kernel) (by decide +kernel)), fun _ h => absurd h List.not_mem_nil⟩⟩⟩, rfl, by decide +kernel⟩
theorem lI_LW_49 : ab_lI "PolicyForgeLaw" 49 y_MO_init b_MO_init 1 0 := ⟨List.forall_mem_cons.mpr ⟨(ab_in 922 (by decide +kernel) (by decide +kernel)), List.forall_mem_cons.mpr ⟨(ab_in 923 (by decide +kernel) (by decide +kernel)), List.forall_mem_cons.mpr ⟨(ab_in 100 (by decide +kernel) (by decide +kernel)), List.forall_mem_cons.mpr ⟨(ab_in 924 (by decide +kernel) (by decide +kernel)), fun _ h => absurd h List.not_mem_nil⟩⟩⟩⟩, ⟨rfl, by decide +kernel, by decide +kernel, by decide +kernel⟩, by decide⟩
theorem lk_LW_50 : ab_lk "PolicyForgeLaw" 50 y_PF_text b_PF_text 7 (some FieldType.boolean) 5 0 := ⟨⟨rfl, T_PF, 8, rfl⟩, List.forall_mem_cons.mpr ⟨(ab_in 380 (by decide +kernel) (by decide +kernel)), List.forall_mem_cons.mpr ⟨(ab_in 381 (by decide +kernel) (by decide +kernel)), List.forall_mem_cons.mpr ⟨(ab_in 382 (by decide +kernel) (by decide +kernel)), List.forall_mem_cons.mpr ⟨(ab_in 92 (by decide +kernel) (by decide +kernel)), List.forall_mem_cons.mpr ⟨(ab_in 383 (by decide +kernel) (by decide +kernel)), fun _ h => absurd h List.not_mem_nil⟩⟩⟩⟩⟩, ⟨by decide +kernel, by decide +kernel, by decide +kernel⟩, by decide⟩
theorem lk_LW_54 : ab_lk "PolicyForgeLaw" 54 y_MO_text b_MO_text 6 (some FieldType.boolean) 5 17 := ⟨⟨rfl, T_MO, 44, rfl⟩, List.forall_mem_cons.mpr ⟨(ab_in 1060 (by decide +kernel) (by decide +kernel)), List.forall_mem_cons.mpr ⟨(ab_in 1061 (by decide +kernel) (by decide +kernel)), List.forall_mem_cons.mpr ⟨(ab_in 1062 (by decide +kernel) (by decide +kernel)), List.forall_mem_cons.mpr ⟨(ab_in 100 (by decide +kernel) (by decide +kernel)), List.forall_mem_cons.mpr ⟨(ab_in 1063 (by decide +kernel) (by decide +kernel)), fun _ h => absurd h List.not_mem_nil⟩⟩⟩⟩⟩, ⟨by decide +kernel, by decide +kernel, by decide +kernel⟩, by decide⟩
theorem lW_LW_55 : ∀ w ∈ ([.methodLink "PolicyForgeLaw" 55 y_LW_read, .static y_LW_read, .initialized y_LW_read.cls, .codeWith y_LW_read b_LW_read 3 (some FieldType.int) [((0), (8), (11), (13))]] : List Cond), w ∈ ab_T := List.forall_mem_cons.mpr ⟨(ab_in 400 (by decide +kernel) (by decide +kernel)), List.forall_mem_cons.mpr ⟨(ab_in 401 (by decide +kernel) (by decide +kernel)), List.forall_mem_cons.mpr ⟨(ab_in 91 (by decide +kernel) (by decide +kernel)), List.forall_mem_cons.mpr ⟨(ab_in 402 (by decide +kernel) (by decide +kernel)), fun _ h => absurd h List.not_mem_nil⟩⟩⟩⟩
theorem lk_LW_60 : ab_lk "PolicyForgeLaw" 60 y_MO_read b_MO_read 2 (some FieldType.int) 0 17 := ⟨⟨rfl, T_MO, 44, rfl⟩, List.forall_mem_cons.mpr ⟨(ab_in 1068 (by decide +kernel) (by decide +kernel)), List.forall_mem_cons.mpr ⟨(ab_in 1069 (by decide +kernel) (by decide +kernel)), List.forall_mem_cons.mpr ⟨(ab_in 1070 (by decide +kernel) (by decide +kernel)), List.forall_mem_cons.mpr ⟨(ab_in 100 (by decide +kernel) (by decide +kernel)), List.forall_mem_cons.mpr ⟨(ab_in 1071 (by decide +kernel) (by decide +kernel)), fun _ h => absurd h List.not_mem_nil⟩⟩⟩⟩⟩, ⟨by decide +kernel, by decide +kernel, by decide +kernel⟩, by decide⟩
theorem lk_LW_61 : ab_lk "PolicyForgeLaw" 61 y_PF_fault b_PF_fault 1 (some FieldType.int) 0 0 := ⟨⟨rfl, T_PF, 8, rfl⟩, List.forall_mem_cons.mpr ⟨(ab_in 388 (by decide +kernel) (by decide +kernel)), List.forall_mem_cons.mpr ⟨(ab_in 389 (by decide +kernel) (by decide +kernel)), List.forall_mem_cons.mpr ⟨(ab_in 390 (by decide +kernel) (by decide +kernel)), List.forall_mem_cons.mpr ⟨(ab_in 92 (by decide +kernel) (by decide +kernel)), List.forall_mem_cons.mpr ⟨(ab_in 391 (by decide +kernel) (by decide +kernel)), fun _ h => absurd h List.not_mem_nil⟩⟩⟩⟩⟩, ⟨by decide +kernel, by decide +kernel, by decide +kernel⟩, by decide⟩
theorem lk_LW_64 : ab_lk "PolicyForgeLaw" 64 y_MO_fault b_MO_fault 1 (some FieldType.int) 0 17 := ⟨⟨rfl, T_MO, 44, rfl⟩, List.forall_mem_cons.mpr ⟨(ab_in 1201 (by decide +kernel) (by decide +kernel)), List.forall_mem_cons.mpr ⟨(ab_in 1202 (by decide +kernel) (by decide +kernel)), List.forall_mem_cons.mpr ⟨(ab_in 1203 (by decide +kernel) (by decide +kernel)), List.forall_mem_cons.mpr ⟨(ab_in 100 (by decide +kernel) (by decide +kernel)), List.forall_mem_cons.mpr ⟨(ab_in 1204 (by decide +kernel) (by decide +kernel)), fun _ h => absurd h List.not_mem_nil⟩⟩⟩⟩⟩, ⟨by decide +kernel, by decide +kernel, by decide +kernel⟩, by decide⟩
theorem lW_LW_65 : ∀ w ∈ ([.methodLink "PolicyForgeLaw" 65 y_LW_holds, .static y_LW_holds, .initialized y_LW_holds.cls, .codeWith y_LW_holds b_LW_holds 7 (some FieldType.int) [((0), (21), (24), (19))]] : List Cond), w ∈ ab_T := List.forall_mem_cons.mpr ⟨(ab_in 714 (by decide +kernel) (by decide +kernel)), List.forall_mem_cons.mpr ⟨(ab_in 715 (by decide +kernel) (by decide +kernel)), List.forall_mem_cons.mpr ⟨(ab_in 91 (by decide +kernel) (by decide +kernel)), List.forall_mem_cons.mpr ⟨(ab_in 716 (by decide +kernel) (by decide +kernel)), fun _ h => absurd h List.not_mem_nil⟩⟩⟩⟩
theorem lk_LW_68 : ab_lk "PolicyForgeLaw" 68 y_MO_holds b_MO_holds 8 (some FieldType.boolean) 4 17 := ⟨⟨rfl, T_MO, 44, rfl⟩, List.forall_mem_cons.mpr ⟨(ab_in 1205 (by decide +kernel) (by decide +kernel)), List.forall_mem_cons.mpr ⟨(ab_in 1206 (by decide +kernel) (by decide +kernel)), List.forall_mem_cons.mpr ⟨(ab_in 1207 (by decide +kernel) (by decide +kernel)), List.forall_mem_cons.mpr ⟨(ab_in 100 (by decide +kernel) (by decide +kernel)), List.forall_mem_cons.mpr ⟨(ab_in 1208 (by decide +kernel) (by decide +kernel)), fun _ h => absurd h List.not_mem_nil⟩⟩⟩⟩⟩, ⟨by decide +kernel, by decide +kernel, by decide +kernel⟩, by decide⟩
theorem lW_LW_69 : ∀ w ∈ ([.methodLink "PolicyForgeLaw" 69 y_LW_word, .static y_LW_word, .initialized y_LW_word.cls, .codeWith y_LW_word b_LW_word 4 (some FieldType.int) [((0), (9), (12), (25))]] : List Cond), w ∈ ab_T := List.forall_mem_cons.mpr ⟨(ab_in 749 (by decide +kernel) (by decide +kernel)), List.forall_mem_cons.mpr ⟨(ab_in 750 (by decide +kernel) (by decide +kernel)), List.forall_mem_cons.mpr ⟨(ab_in 91 (by decide +kernel) (by decide +kernel)), List.forall_mem_cons.mpr ⟨(ab_in 751 (by decide +kernel) (by decide +kernel)), fun _ h => absurd h List.not_mem_nil⟩⟩⟩⟩
theorem lk_LW_72 : ab_lk "PolicyForgeLaw" 72 y_MO_word b_MO_word 2 (some FieldType.int) 1 17 := ⟨⟨rfl, T_MO, 44, rfl⟩, List.forall_mem_cons.mpr ⟨(ab_in 1213 (by decide +kernel) (by decide +kernel)), List.forall_mem_cons.mpr ⟨(ab_in 1214 (by decide +kernel) (by decide +kernel)), List.forall_mem_cons.mpr ⟨(ab_in 1215 (by decide +kernel) (by decide +kernel)), List.forall_mem_cons.mpr ⟨(ab_in 100 (by decide +kernel) (by decide +kernel)), List.forall_mem_cons.mpr ⟨(ab_in 1216 (by decide +kernel) (by decide +kernel)), fun _ h => absurd h List.not_mem_nil⟩⟩⟩⟩⟩, ⟨by decide +kernel, by decide +kernel, by decide +kernel⟩, by decide⟩
theorem lW_LW_73 : ∀ w ∈ ([.methodLink "PolicyForgeLaw" 73 y_LW_size, .static y_LW_size, .initialized y_LW_size.cls, .codeWith y_LW_size b_LW_size 4 (some FieldType.int) [((0), (9), (12), (19)), ((0), (9), (15), (13))]] : List Cond), w ∈ ab_T := List.forall_mem_cons.mpr ⟨(ab_in 772 (by decide +kernel) (by decide +kernel)), List.forall_mem_cons.mpr ⟨(ab_in 773 (by decide +kernel) (by decide +kernel)), List.forall_mem_cons.mpr ⟨(ab_in 91 (by decide +kernel) (by decide +kernel)), List.forall_mem_cons.mpr ⟨(ab_in 774 (by decide +kernel) (by decide +kernel)), fun _ h => absurd h List.not_mem_nil⟩⟩⟩⟩
theorem lk_LW_75 : ab_lk "PolicyForgeLaw" 75 y_MO_size b_MO_size 2 (some FieldType.int) 1 17 := ⟨⟨rfl, T_MO, 44, rfl⟩, List.forall_mem_cons.mpr ⟨(ab_in 1217 (by decide +kernel) (by decide +kernel)), List.forall_mem_cons.mpr ⟨(ab_in 1218 (by decide +kernel) (by decide +kernel)), List.forall_mem_cons.mpr ⟨(ab_in 1219 (by decide +kernel) (by decide +kernel)), List.forall_mem_cons.mpr ⟨(ab_in 100 (by decide +kernel) (by decide +kernel)), List.forall_mem_cons.mpr ⟨(ab_in 1220 (by decide +kernel) (by decide +kernel)), fun _ h => absurd h List.not_mem_nil⟩⟩⟩⟩⟩, ⟨by decide +kernel, by decide +kernel, by decide +kernel⟩, by decide⟩
theorem lW_LW_76 : ∀ w ∈ ([.methodLink "PolicyForgeLaw" 76 y_LW_satisfy, .static y_LW_satisfy, .initialized y_LW_satisfy.cls, .codeWith y_LW_satisfy b_LW_satisfy 7 (some FieldType.int) [((0), (14), (17), (19))]] : List Cond), w ∈ ab_T := List.forall_mem_cons.mpr ⟨(ab_in 779 (by decide +kernel) (by decide +kernel)), List.forall_mem_cons.mpr ⟨(ab_in 780 (by decide +kernel) (by decide +kernel)), List.forall_mem_cons.mpr ⟨(ab_in 91 (by decide +kernel) (by decide +kernel)), List.forall_mem_cons.mpr ⟨(ab_in 781 (by decide +kernel) (by decide +kernel)), fun _ h => absurd h List.not_mem_nil⟩⟩⟩⟩
theorem lk_LW_78 : ab_lk "PolicyForgeLaw" 78 y_MO_satisfy b_MO_satisfy 8 (some FieldType.int) 4 17 := ⟨⟨rfl, T_MO, 44, rfl⟩, List.forall_mem_cons.mpr ⟨(ab_in 1221 (by decide +kernel) (by decide +kernel)), List.forall_mem_cons.mpr ⟨(ab_in 1222 (by decide +kernel) (by decide +kernel)), List.forall_mem_cons.mpr ⟨(ab_in 1223 (by decide +kernel) (by decide +kernel)), List.forall_mem_cons.mpr ⟨(ab_in 100 (by decide +kernel) (by decide +kernel)), List.forall_mem_cons.mpr ⟨(ab_in 1224 (by decide +kernel) (by decide +kernel)), fun _ h => absurd h List.not_mem_nil⟩⟩⟩⟩⟩, ⟨by decide +kernel, by decide +kernel, by decide +kernel⟩, by decide⟩
theorem lW_LW_79 : ∀ w ∈ ([.methodLink "PolicyForgeLaw" 79 y_LW_put, .static y_LW_put, .initialized y_LW_put.cls, .codeWith y_LW_put b_LW_put 4 (some FieldType.int) [((0), (9), (12), (13)), ((0), (9), (15), (37))]] : List Cond), w ∈ ab_T := List.forall_mem_cons.mpr ⟨(ab_in 823 (by decide +kernel) (by decide +kernel)), List.forall_mem_cons.mpr ⟨(ab_in 824 (by decide +kernel) (by decide +kernel)), List.forall_mem_cons.mpr ⟨(ab_in 91 (by decide +kernel) (by decide +kernel)), List.forall_mem_cons.mpr ⟨(ab_in 825 (by decide +kernel) (by decide +kernel)), fun _ h => absurd h List.not_mem_nil⟩⟩⟩⟩
theorem lk_LW_81 : ab_lk "PolicyForgeLaw" 81 y_MO_put b_MO_put 3 (some FieldType.int) 1 17 := ⟨⟨rfl, T_MO, 44, rfl⟩, List.forall_mem_cons.mpr ⟨(ab_in 1277 (by decide +kernel) (by decide +kernel)), List.forall_mem_cons.mpr ⟨(ab_in 1278 (by decide +kernel) (by decide +kernel)), List.forall_mem_cons.mpr ⟨(ab_in 1279 (by decide +kernel) (by decide +kernel)), List.forall_mem_cons.mpr ⟨(ab_in 100 (by decide +kernel) (by decide +kernel)), List.forall_mem_cons.mpr ⟨(ab_in 1280 (by decide +kernel) (by decide +kernel)), fun _ h => absurd h List.not_mem_nil⟩⟩⟩⟩⟩, ⟨by decide +kernel, by decide +kernel, by decide +kernel⟩, by decide⟩
theorem lk_LW_82 : ab_lk "PolicyForgeLaw" 82 y_PF_clear b_PF_clear 1 none 0 0 := ⟨⟨rfl, T_PF, 8, rfl⟩, List.forall_mem_cons.mpr ⟨(ab_in 392 (by decide +kernel) (by decide +kernel)), List.forall_mem_cons.mpr ⟨(ab_in 393 (by decide +kernel) (by decide +kernel)), List.forall_mem_cons.mpr ⟨(ab_in 394 (by decide +kernel) (by decide +kernel)), List.forall_mem_cons.mpr ⟨(ab_in 92 (by decide +kernel) (by decide +kernel)), List.forall_mem_cons.mpr ⟨(ab_in 395 (by decide +kernel) (by decide +kernel)), fun _ h => absurd h List.not_mem_nil⟩⟩⟩⟩⟩, ⟨by decide +kernel, by decide +kernel, by decide +kernel⟩, by decide⟩
theorem lk_LW_85 : ab_lk "PolicyForgeLaw" 85 y_MO_clear b_MO_clear 1 none 0 17 := ⟨⟨rfl, T_MO, 44, rfl⟩, List.forall_mem_cons.mpr ⟨(ab_in 1281 (by decide +kernel) (by decide +kernel)), List.forall_mem_cons.mpr ⟨(ab_in 1282 (by decide +kernel) (by decide +kernel)), List.forall_mem_cons.mpr ⟨(ab_in 1283 (by decide +kernel) (by decide +kernel)), List.forall_mem_cons.mpr ⟨(ab_in 100 (by decide +kernel) (by decide +kernel)), List.forall_mem_cons.mpr ⟨(ab_in 1284 (by decide +kernel) (by decide +kernel)), fun _ h => absurd h List.not_mem_nil⟩⟩⟩⟩⟩, ⟨by decide +kernel, by decide +kernel, by decide +kernel⟩, by decide⟩
theorem lW_LW_86 : ∀ w ∈ ([.methodLink "PolicyForgeLaw" 86 y_LW_item, .static y_LW_item, .initialized y_LW_item.cls, .codeWith y_LW_item b_LW_item 4 (some FieldType.int) [((0), (9), (12), (25))]] : List Cond), w ∈ ab_T := List.forall_mem_cons.mpr ⟨(ab_in 850 (by decide +kernel) (by decide +kernel)), List.forall_mem_cons.mpr ⟨(ab_in 851 (by decide +kernel) (by decide +kernel)), List.forall_mem_cons.mpr ⟨(ab_in 91 (by decide +kernel) (by decide +kernel)), List.forall_mem_cons.mpr ⟨(ab_in 852 (by decide +kernel) (by decide +kernel)), fun _ h => absurd h List.not_mem_nil⟩⟩⟩⟩
theorem lk_LW_88 : ab_lk "PolicyForgeLaw" 88 y_MO_item b_MO_item 2 (some FieldType.int) 1 17 := ⟨⟨rfl, T_MO, 44, rfl⟩, List.forall_mem_cons.mpr ⟨(ab_in 1285 (by decide +kernel) (by decide +kernel)), List.forall_mem_cons.mpr ⟨(ab_in 1286 (by decide +kernel) (by decide +kernel)), List.forall_mem_cons.mpr ⟨(ab_in 1287 (by decide +kernel) (by decide +kernel)), List.forall_mem_cons.mpr ⟨(ab_in 100 (by decide +kernel) (by decide +kernel)), List.forall_mem_cons.mpr ⟨(ab_in 1288 (by decide +kernel) (by decide +kernel)), fun _ h => absurd h List.not_mem_nil⟩⟩⟩⟩⟩, ⟨by decide +kernel, by decide +kernel, by decide +kernel⟩, by decide⟩
theorem lW_LW_89 : ∀ w ∈ ([.methodLink "PolicyForgeLaw" 89 y_LW_check, .static y_LW_check, .initialized y_LW_check.cls, .codeWith y_LW_check b_LW_check 5 (some FieldType.int) [((0), (10), (13), (19))]] : List Cond), w ∈ ab_T := List.forall_mem_cons.mpr ⟨(ab_in 857 (by decide +kernel) (by decide +kernel)), List.forall_mem_cons.mpr ⟨(ab_in 858 (by decide +kernel) (by decide +kernel)), List.forall_mem_cons.mpr ⟨(ab_in 91 (by decide +kernel) (by decide +kernel)), List.forall_mem_cons.mpr ⟨(ab_in 859 (by decide +kernel) (by decide +kernel)), fun _ h => absurd h List.not_mem_nil⟩⟩⟩⟩
theorem lk_LW_92 : ab_lk "PolicyForgeLaw" 92 y_MO_check b_MO_check 5 (some FieldType.int) 2 17 := ⟨⟨rfl, T_MO, 44, rfl⟩, List.forall_mem_cons.mpr ⟨(ab_in 1289 (by decide +kernel) (by decide +kernel)), List.forall_mem_cons.mpr ⟨(ab_in 1290 (by decide +kernel) (by decide +kernel)), List.forall_mem_cons.mpr ⟨(ab_in 1291 (by decide +kernel) (by decide +kernel)), List.forall_mem_cons.mpr ⟨(ab_in 100 (by decide +kernel) (by decide +kernel)), List.forall_mem_cons.mpr ⟨(ab_in 1292 (by decide +kernel) (by decide +kernel)), fun _ h => absurd h List.not_mem_nil⟩⟩⟩⟩⟩, ⟨by decide +kernel, by decide +kernel, by decide +kernel⟩, by decide⟩
theorem lk_LW_93 : ab_lk "PolicyForgeLaw" 93 y_PF_done b_PF_done 1 (some FieldType.int) 0 0 := ⟨⟨rfl, T_PF, 8, rfl⟩, List.forall_mem_cons.mpr ⟨(ab_in 396 (by decide +kernel) (by decide +kernel)), List.forall_mem_cons.mpr ⟨(ab_in 397 (by decide +kernel) (by decide +kernel)), List.forall_mem_cons.mpr ⟨(ab_in 398 (by decide +kernel) (by decide +kernel)), List.forall_mem_cons.mpr ⟨(ab_in 92 (by decide +kernel) (by decide +kernel)), List.forall_mem_cons.mpr ⟨(ab_in 399 (by decide +kernel) (by decide +kernel)), fun _ h => absurd h List.not_mem_nil⟩⟩⟩⟩⟩, ⟨by decide +kernel, by decide +kernel, by decide +kernel⟩, by decide⟩
theorem lk_LW_96 : ab_lk "PolicyForgeLaw" 96 y_MO_done b_MO_done 1 (some FieldType.int) 0 17 := ⟨⟨rfl, T_MO, 44, rfl⟩, List.forall_mem_cons.mpr ⟨(ab_in 1317 (by decide +kernel) (by decide +kernel)), List.forall_mem_cons.mpr ⟨(ab_in 1318 (by decide +kernel) (by decide +kernel)), List.forall_mem_cons.mpr ⟨(ab_in 1319 (by decide +kernel) (by decide +kernel)), List.forall_mem_cons.mpr ⟨(ab_in 100 (by decide +kernel) (by decide +kernel)), List.forall_mem_cons.mpr ⟨(ab_in 1320 (by decide +kernel) (by decide +kernel)), fun _ h => absurd h List.not_mem_nil⟩⟩⟩⟩⟩, ⟨by decide +kernel, by decide +kernel, by decide +kernel⟩, by decide⟩
set_option maxRecDepth 100000 in
set_option maxHeartbeats 8000000 in
theorem la_loop (hfl : ab_fl0 l) (X : ab_X p s m #[Value.ref b] c code "PolicyForgeLaw" 7 D ca (fun q => s.heap.size ≤ q) s.heap) (hZ : ab_Zs ad (fun q => s.heap.size ≤ q) s s.heap) {n0 : Nat} (hn0 : n0 ≤ 3072) (hX : va_X (ad 23 0) n0 xs s s.heap) (hbl : ad 23 0 < s.heap.size) (hr : meth.sig.returnType = ret) (hlk : meth.locks = false) : ∀ (r i0 kc ks : Nat) (u : ab_S), i0 + r = 3078 → kc ≤ 445 + i0 → ks ≤ 20463 + 6 * i0 → LV u → ab_J p l e room_1 s m #[Value.ref b] below meth c (lw_Z below #[Value.ref b] s) D ca (fun q => s.heap.size ≤ q) s.heap 7 kc ks ad ab_nQ u 23 [(4, ab_I (nI i0)), (3, ab_O 20 0), (2, ab_O 17 0), (1, ab_O 0 0), (0, ab_O 23 0)] [] := by
  have hbA : ¬ s.heap.size ≤ ad 23 0 := Nat.not_le.mpr hbl
  intro r
  induction r using Nat.strongRecOn with
  | ind r ih =>
  intro i0 kc ks u hi hkc hks hL
  have cmp : ∀ {x : Int32}, (nI n0 - 6 < nI i0 ∨ i0 + 6 ≤ n0) := by
    intro x
    by_cases z : i0 + 6 ≤ n0
    · exact Or.inr z
    · refine Or.inl ?_
      by_cases y : 6 ≤ n0
      · rw [show nI n0 - 6 = nI (n0 - 6) from pk_sub (b := 6) y]; exact nI_lt (by omega) (by omega)
      · exact Int32.lt_of_lt_of_le (pk_sneg (b := 6) (by decide) (by omega)) (nI_pos' (by omega))
  have nle : i0 + 6 ≤ n0 → ¬ nI n0 - 6 < nI i0 := fun z => by
    rw [show nI n0 - 6 = nI (n0 - 6) from pk_sub (b := 6) (by omega)]
    exact nI_nlt (by omega) (by omega)
  rcases cmp (x := 0) with hlt | hge
  ·
    refine ab_iload X 0 d_LW_law_23 rfl ?_
    refine ab_aload_n X 4 d_LW_law_25 rfl rfl ?_
    refine ab_slen X hX hbl hbA d_LW_law_26 ?_
    refine ab_bipush (v := 6) X d_LW_law_27 (by decide) ?_
    refine ab_isub X d_LW_law_29 ?_
    refine ab_icmp_gt X 516 d_LW_law_30 rfl (fun _ => ?_) (fun hb => absurd (hlt) hb)
    refine ab_iconst (v := 1) X d_LW_law_516 (by decide) ?_
    exact la_end X hr hlk (by omega) (by omega) d_LW_law_517
  · have next : ∀ (k2 n2 : Nat) (u' : ab_S), k2 ≤ 445 + i0 + 6 → n2 ≤ 20463 + 6 * i0 + 36 → LV u' → ab_J p l e room_1 s m #[Value.ref b] below meth c (lw_Z below #[Value.ref b] s) D ca (fun q => s.heap.size ≤ q) s.heap 7 k2 n2 ad ab_nQ u' 510 [(4, ab_I (nI i0)), (3, ab_O 20 0), (2, ab_O 17 0), (1, ab_O 0 0), (0, ab_O 23 0)] [] := by
      intro k2 n2 u' hk hn hL'
      refine ab_iinc4 X 0 1 2 3 4 d_LW_law_510 rfl (by decide) rfl rfl rfl rfl rfl rfl rfl rfl ?_
      refine ab_goto X 23 d_LW_law_513 rfl ?_
      rw [show nI i0 + Int32.ofInt 6 = nI (i0 + 6) from nI_add i0 6]
      exact ih (r - 6) (by omega) (i0 + 6) k2 n2 u' (by omega) (by omega) (by omega) hL'
    refine ab_iload X 0 d_LW_law_23 rfl ?_
    refine ab_aload_n X 4 d_LW_law_25 rfl rfl ?_
    refine ab_slen X hX hbl hbA d_LW_law_26 ?_
    refine ab_bipush (v := 6) X d_LW_law_27 (by decide) ?_
    refine ab_isub X d_LW_law_29 ?_
    refine ab_icmp_gt X 516 d_LW_law_30 rfl (fun hb => absurd hb ((nle hge))) (fun _ => ?_)
    refine ab_aload_n X 4 d_LW_law_33 rfl rfl ?_
    refine ab_iload X 0 d_LW_law_34 rfl ?_
    refine ab_sld X hX hbl hbA (i0 + 0) d_LW_law_36 (rfl) (by omega) (by omega) ?_
    refine ab_bipush (v := 15) X d_LW_law_37 (by decide) ?_
    refine ab_iand X d_LW_law_39 ?_
    obtain ⟨k, hk, ek⟩ := la_and (xs i0)
    refine ab_top ek ?_
    obtain ⟨hC, hM, ⟨n, hn, el, et, ext⟩, hT⟩ := id hL.1
    have h16 : k = 0 ∨ k = 1 ∨ k = 2 ∨ k = 3 ∨ k = 4 ∨ k = 5 ∨ k = 6 ∨ k = 7 ∨ k = 8 ∨ k = 9 ∨ k = 10 ∨ k = 11 ∨ k = 12 ∨ k = 13 ∨ k = 14 ∨ k = 15 := by omega
    rcases h16 with rfl | rfl | rfl | rfl | rfl | rfl | rfl | rfl | rfl | rfl | rfl | rfl | rfl | rfl | rfl | rfl
    ·
      refine ab_tableIn X 104 d_LW_law_40 (by decide) (by decide) (off := 64) (by decide) (by decide) ?_
      refine ab_aload_n X 3 d_LW_law_104 rfl rfl ?_
      refine ab_aload_n X 4 d_LW_law_105 rfl rfl ?_
      refine ab_iload X 0 d_LW_law_106 rfl ?_
      refine ab_iconst (v := 1) X d_LW_law_108 (by decide) ?_
      refine ab_iadd X d_LW_law_109 ?_
      refine ab_sld X hX hbl hbA (i0 + 1) d_LW_law_110 (nI_add i0 1) (by omega) (by omega) ?_
      refine ab_aload_n X 4 d_LW_law_111 rfl rfl ?_
      refine ab_iload X 0 d_LW_law_112 rfl ?_
      refine ab_iconst (v := 2) X d_LW_law_114 (by decide) ?_
      refine ab_iadd X d_LW_law_115 ?_
      refine ab_sld X hX hbl hbA (i0 + 2) d_LW_law_116 (nI_add i0 2) (by omega) (by omega) ?_
      refine ab_aload_n X 4 d_LW_law_117 rfl rfl ?_
      refine ab_iload X 0 d_LW_law_118 rfl ?_
      refine ab_iconst (v := 3) X d_LW_law_120 (by decide) ?_
      refine ab_iadd X d_LW_law_121 ?_
      refine ab_sld X hX hbl hbA (i0 + 3) d_LW_law_122 (nI_add i0 3) (by omega) (by omega) ?_
      refine ab_aload_n X 4 d_LW_law_123 rfl rfl ?_
      refine ab_iload X 0 d_LW_law_124 rfl ?_
      refine ab_iconst (v := 4) X d_LW_law_126 (by decide) ?_
      refine ab_iadd X d_LW_law_127 ?_
      refine ab_sld X hX hbl hbA (i0 + 4) d_LW_law_128 (nI_add i0 4) (by omega) (by omega) ?_
      refine ab_aload_n X 4 d_LW_law_129 rfl rfl ?_
      refine ab_iload X 0 d_LW_law_130 rfl ?_
      refine ab_iconst (v := 5) X d_LW_law_132 (by decide) ?_
      refine ab_iadd X d_LW_law_133 ?_
      refine ab_sld X hX hbl hbA (i0 + 5) d_LW_law_134 (nI_add i0 5) (by omega) (by omega) ?_
      refine ab_callV (as := [ab_I (xs (i0 + 1)), ab_I (xs (i0 + 2)), ab_I (xs (i0 + 3)), ab_I (xs (i0 + 4)), ab_I (xs (i0 + 5))]) X (fun h => by cases h) (c_PF_text u (xs (i0 + 1)) (xs (i0 + 2)) (xs (i0 + 3)) (xs (i0 + 4)) (xs (i0 + 5)) n hn (by decide) (by decide) (by decide) hC.pf0 hC.rd0 el) lk_LW_50 d_LW_law_135 rfl rfl (by first | assumption | decide) ⟨by first | exact Nat.le_of_ble_eq_true rfl | (simp only [ab_rm, room_1]; omega), by first | exact Nat.le_of_ble_eq_true rfl | (simp only [ab_rm, room_1]; omega)⟩ ⟨by first | exact Nat.le_of_ble_eq_true rfl | (simp only [ab_rm, room_1]; omega), by first | exact Nat.le_of_ble_eq_true rfl | (simp only [ab_rm, room_1]; omega)⟩ (Nat.le_of_ble_eq_true rfl) (fun u135 r135 h135 => ?_)
      obtain ⟨e135, rfl⟩ := h135
      have q1 : u135.2 = u.2 := by rw [e135]; exact (tx_refs _).trans (tc_refs _ _)
      have q2 : u135.1 17 0 2 = nI n := by rw [e135]; exact ((tx_keep _ (by decide)).trans (tc_keep _ (by decide) _)).trans et
      have q3 := tx_rel (tb_l (xs (i0 + 1)) ++ (tb_l (xs (i0 + 2)) ++ (tb_l (xs (i0 + 3)) ++ (tb_l (xs (i0 + 4)) ++ tb_l (xs (i0 + 5)))))) (u, some n) (ab_ui (ab_ui (ab_ui u135 17 0 0 0) 17 0 41 (nI n)) 17 0 42 0, n, false) (Or.inl ⟨hn, rfl, rfl⟩)
      refine ab_pop X d_LW_law_138 rfl ?_
      refine ab_aload_n X 2 d_LW_law_139 rfl rfl ?_
      refine ab_aload_n X 4 d_LW_law_140 rfl rfl ?_
      refine ab_iload X 0 d_LW_law_141 rfl ?_
      refine ab_iconst (v := 1) X d_LW_law_143 (by decide) ?_
      refine ab_iadd X d_LW_law_144 ?_
      refine ab_sld X hX hbl hbA (i0 + 1) d_LW_law_145 (nI_add i0 1) (by omega) (by omega) ?_
      refine ab_aload_n X 4 d_LW_law_146 rfl rfl ?_
      refine ab_iload X 0 d_LW_law_147 rfl ?_
      refine ab_iconst (v := 2) X d_LW_law_149 (by decide) ?_
      refine ab_iadd X d_LW_law_150 ?_
      refine ab_sld X hX hbl hbA (i0 + 2) d_LW_law_151 (nI_add i0 2) (by omega) (by omega) ?_
      refine ab_aload_n X 4 d_LW_law_152 rfl rfl ?_
      refine ab_iload X 0 d_LW_law_153 rfl ?_
      refine ab_iconst (v := 3) X d_LW_law_155 (by decide) ?_
      refine ab_iadd X d_LW_law_156 ?_
      refine ab_sld X hX hbl hbA (i0 + 3) d_LW_law_157 (nI_add i0 3) (by omega) (by omega) ?_
      refine ab_aload_n X 4 d_LW_law_158 rfl rfl ?_
      refine ab_iload X 0 d_LW_law_159 rfl ?_
      refine ab_iconst (v := 4) X d_LW_law_161 (by decide) ?_
      refine ab_iadd X d_LW_law_162 ?_
      refine ab_sld X hX hbl hbA (i0 + 4) d_LW_law_163 (nI_add i0 4) (by omega) (by omega) ?_
      refine ab_aload_n X 4 d_LW_law_164 rfl rfl ?_
      refine ab_iload X 0 d_LW_law_165 rfl ?_
      refine ab_iconst (v := 5) X d_LW_law_167 (by decide) ?_
      refine ab_iadd X d_LW_law_168 ?_
      refine ab_sld X hX hbl hbA (i0 + 5) d_LW_law_169 (nI_add i0 5) (by omega) (by omega) ?_
      refine ab_callV (as := [ab_I (xs (i0 + 1)), ab_I (xs (i0 + 2)), ab_I (xs (i0 + 3)), ab_I (xs (i0 + 4)), ab_I (xs (i0 + 5))]) X (fun h => by cases h) (c_MO_text u135 (xs (i0 + 1)) (xs (i0 + 2)) (xs (i0 + 3)) (xs (i0 + 4)) (xs (i0 + 5)) n hn (by decide) (by decide) (by rw [q1]; exact hM.1.mo1) q2) lk_LW_54 d_LW_law_170 rfl rfl (by first | assumption | decide) ⟨by first | exact Nat.le_of_ble_eq_true rfl | (simp only [ab_rm, room_1]; omega), by first | exact Nat.le_of_ble_eq_true rfl | (simp only [ab_rm, room_1]; omega)⟩ ⟨by first | exact Nat.le_of_ble_eq_true rfl | (simp only [ab_rm, room_1]; omega), by first | exact Nat.le_of_ble_eq_true rfl | (simp only [ab_rm, room_1]; omega)⟩ (Nat.le_of_ble_eq_true rfl) (fun u170 r170 h170 => ?_)
      obtain ⟨e170, rfl⟩ := h170
      have hl2 := LT.text hC hM hn el et ext hT (tb_l (xs (i0 + 1)) ++ (tb_l (xs (i0 + 2)) ++ (tb_l (xs (i0 + 3)) ++ (tb_l (xs (i0 + 4)) ++ tb_l (xs (i0 + 5)))))) u135 e135 u170 e170 q3
      have g2 : gP [0, 2, 41, 42, 100] u135 u170 := by rw [e170]; exact tx_gP (by rw [q1]; exact hM.1) (fun cs q h => tm_gP cs q h) _
      have hw2 : wE u170 := hL.2.1.text e135 g2
      have hd2 : dE u170 := hL.2.2.text e135 g2
      refine ab_pop X d_LW_law_173 rfl ?_
      refine ab_goto X 510 d_LW_law_174 rfl ?_
      exact next _ _ _ (by omega) (by omega) ⟨hl2, hw2, hd2⟩
    ·
      refine ab_tableIn X 177 d_LW_law_40 (by decide) (by decide) (off := 137) (by decide) (by decide) ?_
      refine ab_aload_n X 3 d_LW_law_177 rfl rfl ?_
      refine ab_aload_n X 1 d_LW_law_178 rfl rfl ?_
      refine ab_callSW (n := 2) (as := [ab_O 0 0, ab_O 20 0]) X (hZ) (h_LW_read hfl u (fun k => u.1 11 0 k) n hn el (fun k hk => rfl) hT.2 hC) lW_LW_55 ⟨by decide +kernel, by decide +kernel, by decide +kernel⟩ (by decide) d_LW_law_179 rfl rfl ⟨by first | exact Nat.le_of_ble_eq_true rfl | (simp only [ab_rm, room_1]; omega), by first | exact Nat.le_of_ble_eq_true rfl | (simp only [ab_rm, room_1]; omega)⟩ ⟨by first | exact Nat.le_of_ble_eq_true rfl | (simp only [ab_rm, room_1]; omega), by first | exact Nat.le_of_ble_eq_true rfl | (simp only [ab_rm, room_1]; omega)⟩ (Nat.le_of_ble_eq_true rfl) (fun u179 r179 h179 => ?_)
      rcases h179 with ⟨wi, dn1, kw1, ⟨r1, r2, S1, rfl⟩ | ⟨q, M, O, kd, ar, cn, op, lf, ch, Y, R, r1, W, F, r2, C, CX, SX, o1, rfl⟩⟩
      · have hM1 : MI u179 := hM.cong wi.1.2.2.2 wi.1.2.1 wi.1.2.2.1
        refine ab_istore5 X 0 1 2 3 4 d_LW_law_182 (by decide) rfl rfl rfl rfl rfl rfl rfl rfl rfl rfl ?_
        refine ab_aload_n X 3 d_LW_law_184 rfl rfl ?_
        refine ab_callV (as := []) X (fun h => by cases h) (x_MO_read u179 (fun k => u.1 11 0 k) n hn ((wi.1.2.1 _ _).trans et) (fun k hk => (wi.1.2.2.1 _ _).trans (ext k hk).symm) (fun _ _ => (0, 0, 0)) (fun _ => []) (fun _ _ _ _ _ _ _ _ z => by rw [r1] at z; cases z) hM1) lk_LW_60 d_LW_law_185 rfl rfl (by first | assumption | decide) ⟨by first | exact Nat.le_of_ble_eq_true rfl | (simp only [ab_rm, room_1]; omega), by first | exact Nat.le_of_ble_eq_true rfl | (simp only [ab_rm, room_1]; omega)⟩ ⟨by first | exact Nat.le_of_ble_eq_true rfl | (simp only [ab_rm, room_1]; omega), by first | exact Nat.le_of_ble_eq_true rfl | (simp only [ab_rm, room_1]; omega)⟩ (Nat.le_of_ble_eq_true rfl) (fun u185 r185 h185 => ?_)
        rcases h185 with ⟨⟨v1, v2, v3⟩, ⟨s1, s2, s3, rfl⟩ | ⟨_, _, _, _, _, _, _, _, _, s1, -⟩⟩
        · have hl2 : LT u185 := LT.read0 wi dn1 r2 S1 v1 v2.oS v3 s2
          refine ab_istore6 X 0 1 2 3 4 5 d_LW_law_188 (by decide) rfl rfl rfl rfl rfl rfl rfl rfl rfl rfl rfl rfl ?_
          refine ab_goto X 510 d_LW_law_190 rfl ?_
          refine ab_lv (List.forall_mem_cons.mpr ⟨List.mem_of_getElem? (i := 2) rfl, List.forall_mem_cons.mpr ⟨List.mem_of_getElem? (i := 3) rfl, List.forall_mem_cons.mpr ⟨List.mem_of_getElem? (i := 4) rfl, List.forall_mem_cons.mpr ⟨List.mem_of_getElem? (i := 5) rfl, List.forall_mem_cons.mpr ⟨List.mem_of_getElem? (i := 6) rfl, fun _ h => absurd h List.not_mem_nil⟩⟩⟩⟩⟩) ?_
          exact next _ _ _ (by omega) (by omega) ⟨hl2, (hL.2.1.h wi.1 kw1.kv).o v2.oS (v2.wk2 (by decide) (by decide) (by decide)), hL.2.2.q (kw1.2 _ _) wi.1.2.1 v2.oS (v2.fi (by decide) rfl)⟩
        · rw [r1] at s1; cases s1
      · have hM1 : MI u179 := hM.cong wi.1.2.2.2 wi.1.2.1 wi.1.2.2.1
        refine ab_istore5 X 0 1 2 3 4 d_LW_law_182 (by decide) rfl rfl rfl rfl rfl rfl rfl rfl rfl rfl ?_
        refine ab_aload_n X 3 d_LW_law_184 rfl rfl ?_
        refine ab_callV (as := []) X (fun h => by cases h) (x_MO_read u179 (fun k => u.1 11 0 k) n hn ((wi.1.2.1 _ _).trans et) (fun k hk => (wi.1.2.2.1 _ _).trans (ext k hk).symm) Y R (fun _ _ _ _ _ _ _ _ z => by rw [r1] at z; cases z; exact F) hM1) lk_LW_60 d_LW_law_185 rfl rfl (by first | assumption | decide) ⟨by first | exact Nat.le_of_ble_eq_true rfl | (simp only [ab_rm, room_1]; omega), by first | exact Nat.le_of_ble_eq_true rfl | (simp only [ab_rm, room_1]; omega)⟩ ⟨by first | exact Nat.le_of_ble_eq_true rfl | (simp only [ab_rm, room_1]; omega), by first | exact Nat.le_of_ble_eq_true rfl | (simp only [ab_rm, room_1]; omega)⟩ (Nat.le_of_ble_eq_true rfl) (fun u185 r185 h185 => ?_)
        rcases h185 with ⟨⟨v1, v2, v3⟩, ⟨s1, -⟩ | ⟨q2, M2, O2, kd2, ar2, cn2, op2, lf2, ch2, s1, s2, W2, T2, MX, l6, s0, rfl⟩⟩
        · rw [r1] at s1; cases s1
        · rw [r1] at s1
          cases s1
          have hl2 : LT u185 := LT.read1 wi dn1 r2 W F C CX SX v1 v2.oS v3 s2 T2 MX l6
          refine ab_istore6 X 0 1 2 3 4 5 d_LW_law_188 (by decide) rfl rfl rfl rfl rfl rfl rfl rfl rfl rfl rfl rfl ?_
          refine ab_goto X 510 d_LW_law_190 rfl ?_
          refine ab_lv (List.forall_mem_cons.mpr ⟨List.mem_of_getElem? (i := 2) rfl, List.forall_mem_cons.mpr ⟨List.mem_of_getElem? (i := 3) rfl, List.forall_mem_cons.mpr ⟨List.mem_of_getElem? (i := 4) rfl, List.forall_mem_cons.mpr ⟨List.mem_of_getElem? (i := 5) rfl, List.forall_mem_cons.mpr ⟨List.mem_of_getElem? (i := 6) rfl, fun _ h => absurd h List.not_mem_nil⟩⟩⟩⟩⟩) ?_
          exact next _ _ _ (by omega) (by omega) ⟨hl2, (hL.2.1.h wi.1 kw1.kv).o v2.oS (v2.wk2 (by decide) (by decide) (by decide)), hL.2.2.q (kw1.2 _ _) wi.1.2.1 v2.oS (v2.fi (by decide) rfl)⟩
    ·
      refine ab_tableIn X 193 d_LW_law_40 (by decide) (by decide) (off := 153) (by decide) (by decide) ?_
      refine ab_aload_n X 3 d_LW_law_193 rfl rfl ?_
      refine ab_callV (as := []) X (fun h => by cases h) (c_PF_fault u (by decide) (by decide) hC.pf0) lk_LW_61 d_LW_law_194 rfl rfl (by first | assumption | decide) ⟨by first | exact Nat.le_of_ble_eq_true rfl | (simp only [ab_rm, room_1]; omega), by first | exact Nat.le_of_ble_eq_true rfl | (simp only [ab_rm, room_1]; omega)⟩ ⟨by first | exact Nat.le_of_ble_eq_true rfl | (simp only [ab_rm, room_1]; omega), by first | exact Nat.le_of_ble_eq_true rfl | (simp only [ab_rm, room_1]; omega)⟩ (Nat.le_of_ble_eq_true rfl) (fun u194 r194 h194 => ?_)
      obtain ⟨e194, rfl⟩ := h194
      subst u194
      refine ab_pop X d_LW_law_197 rfl ?_
      refine ab_aload_n X 2 d_LW_law_198 rfl rfl ?_
      refine ab_callV (as := []) X (fun h => by cases h) (h_MO_fault u hM) lk_LW_64 d_LW_law_199 rfl rfl (by first | assumption | decide) ⟨by first | exact Nat.le_of_ble_eq_true rfl | (simp only [ab_rm, room_1]; omega), by first | exact Nat.le_of_ble_eq_true rfl | (simp only [ab_rm, room_1]; omega)⟩ ⟨by first | exact Nat.le_of_ble_eq_true rfl | (simp only [ab_rm, room_1]; omega), by first | exact Nat.le_of_ble_eq_true rfl | (simp only [ab_rm, room_1]; omega)⟩ (Nat.le_of_ble_eq_true rfl) (fun u199 r199 h199 => ?_)
      obtain ⟨v1, y1, rfl⟩ := h199
      refine ab_pop X d_LW_law_202 rfl ?_
      refine ab_goto X 510 d_LW_law_203 rfl ?_
      exact next _ _ _ (by omega) (by omega) (hL.o v1)
    ·
      refine ab_tableIn X 206 d_LW_law_40 (by decide) (by decide) (off := 166) (by decide) (by decide) ?_
      refine ab_aload_n X 3 d_LW_law_206 rfl rfl ?_
      refine ab_aload_n X 4 d_LW_law_207 rfl rfl ?_
      refine ab_iload X 0 d_LW_law_208 rfl ?_
      refine ab_iconst (v := 1) X d_LW_law_210 (by decide) ?_
      refine ab_iadd X d_LW_law_211 ?_
      refine ab_sld X hX hbl hbA (i0 + 1) d_LW_law_212 (nI_add i0 1) (by omega) (by omega) ?_
      refine ab_aload_n X 4 d_LW_law_213 rfl rfl ?_
      refine ab_iload X 0 d_LW_law_214 rfl ?_
      refine ab_iconst (v := 2) X d_LW_law_216 (by decide) ?_
      refine ab_iadd X d_LW_law_217 ?_
      refine ab_sld X hX hbl hbA (i0 + 2) d_LW_law_218 (nI_add i0 2) (by omega) (by omega) ?_
      refine ab_aload_n X 4 d_LW_law_219 rfl rfl ?_
      refine ab_iload X 0 d_LW_law_220 rfl ?_
      refine ab_iconst (v := 3) X d_LW_law_222 (by decide) ?_
      refine ab_iadd X d_LW_law_223 ?_
      refine ab_sld X hX hbl hbA (i0 + 3) d_LW_law_224 (nI_add i0 3) (by omega) (by omega) ?_
      refine ab_aload_n X 4 d_LW_law_225 rfl rfl ?_
      refine ab_iload X 0 d_LW_law_226 rfl ?_
      refine ab_iconst (v := 4) X d_LW_law_228 (by decide) ?_
      refine ab_iadd X d_LW_law_229 ?_
      refine ab_sld X hX hbl hbA (i0 + 4) d_LW_law_230 (nI_add i0 4) (by omega) (by omega) ?_
      refine ab_aload_n X 1 d_LW_law_231 rfl rfl ?_
      refine ab_callSW (n := 6) (as := [ab_O 0 0, ab_I (xs (i0 + 1)), ab_I (xs (i0 + 2)), ab_I (xs (i0 + 3)), ab_I (xs (i0 + 4)), ab_O 20 0]) X (hZ) (h_LW_holdsx hfl u (xs (i0 + 1)) (xs (i0 + 2)) (xs (i0 + 3)) (xs (i0 + 4)) hT.1 hC) lW_LW_65 ⟨by decide +kernel, by decide +kernel, by decide +kernel⟩ (by decide) d_LW_law_232 rfl rfl ⟨by first | exact Nat.le_of_ble_eq_true rfl | (simp only [ab_rm, room_1]; omega), by first | exact Nat.le_of_ble_eq_true rfl | (simp only [ab_rm, room_1]; omega)⟩ ⟨by first | exact Nat.le_of_ble_eq_true rfl | (simp only [ab_rm, room_1]; omega), by first | exact Nat.le_of_ble_eq_true rfl | (simp only [ab_rm, room_1]; omega)⟩ (Nat.le_of_ble_eq_true rfl) (fun u232 r232 h232 => ?_)
      obtain ⟨w1, x1, rfl⟩ := h232
      refine ab_istore5 X 0 1 2 3 4 d_LW_law_235 (by decide) rfl rfl rfl rfl rfl rfl rfl rfl rfl rfl ?_
      have hL1 := hL.h w1
      refine ab_aload_n X 3 d_LW_law_237 rfl rfl ?_
      refine ab_aload_n X 5 d_LW_law_238 rfl rfl ?_
      refine ab_iload X 1 d_LW_law_239 rfl ?_
      refine ab_iconst (v := 1) X d_LW_law_241 (by decide) ?_
      refine ab_iadd X d_LW_law_242 ?_
      refine ab_sld X hX hbl hbA (i0 + 1) d_LW_law_243 (nI_add i0 1) (by omega) (by omega) ?_
      refine ab_aload_n X 5 d_LW_law_244 rfl rfl ?_
      refine ab_iload X 1 d_LW_law_245 rfl ?_
      refine ab_iconst (v := 2) X d_LW_law_247 (by decide) ?_
      refine ab_iadd X d_LW_law_248 ?_
      refine ab_sld X hX hbl hbA (i0 + 2) d_LW_law_249 (nI_add i0 2) (by omega) (by omega) ?_
      refine ab_aload_n X 5 d_LW_law_250 rfl rfl ?_
      refine ab_iload X 1 d_LW_law_251 rfl ?_
      refine ab_iconst (v := 3) X d_LW_law_253 (by decide) ?_
      refine ab_iadd X d_LW_law_254 ?_
      refine ab_sld X hX hbl hbA (i0 + 3) d_LW_law_255 (nI_add i0 3) (by omega) (by omega) ?_
      refine ab_aload_n X 5 d_LW_law_256 rfl rfl ?_
      refine ab_iload X 1 d_LW_law_257 rfl ?_
      refine ab_iconst (v := 4) X d_LW_law_259 (by decide) ?_
      refine ab_iadd X d_LW_law_260 ?_
      refine ab_sld X hX hbl hbA (i0 + 4) d_LW_law_261 (nI_add i0 4) (by omega) (by omega) ?_
      refine ab_callV (as := [ab_I (xs (i0 + 1)), ab_I (xs (i0 + 2)), ab_I (xs (i0 + 3)), ab_I (xs (i0 + 4))]) X (fun h => by cases h) (o_MO_holds u232 (xs (i0 + 1)) (xs (i0 + 2)) (xs (i0 + 3)) (xs (i0 + 4)) hL1.1.2.1) lk_LW_68 d_LW_law_262 rfl rfl (by first | assumption | decide) ⟨by first | exact Nat.le_of_ble_eq_true rfl | (simp only [ab_rm, room_1]; omega), by first | exact Nat.le_of_ble_eq_true rfl | (simp only [ab_rm, room_1]; omega)⟩ ⟨by first | exact Nat.le_of_ble_eq_true rfl | (simp only [ab_rm, room_1]; omega), by first | exact Nat.le_of_ble_eq_true rfl | (simp only [ab_rm, room_1]; omega)⟩ (Nat.le_of_ble_eq_true rfl) (fun u262 r262 h262 => ?_)
      obtain ⟨v1, y1, hy1, rfl⟩ := h262
      refine ab_istore6 X 0 1 2 3 4 5 d_LW_law_265 (by decide) rfl rfl rfl rfl rfl rfl rfl rfl rfl rfl rfl rfl ?_
      refine ab_goto X 510 d_LW_law_267 rfl ?_
      refine ab_lv (List.forall_mem_cons.mpr ⟨List.mem_of_getElem? (i := 2) rfl, List.forall_mem_cons.mpr ⟨List.mem_of_getElem? (i := 3) rfl, List.forall_mem_cons.mpr ⟨List.mem_of_getElem? (i := 4) rfl, List.forall_mem_cons.mpr ⟨List.mem_of_getElem? (i := 5) rfl, List.forall_mem_cons.mpr ⟨List.mem_of_getElem? (i := 6) rfl, fun _ h => absurd h List.not_mem_nil⟩⟩⟩⟩⟩) ?_
      exact next _ _ _ (by omega) (by omega) (hL1.o v1)
    ·
      refine ab_tableIn X 270 d_LW_law_40 (by decide) (by decide) (off := 230) (by decide) (by decide) ?_
      refine ab_aload_n X 3 d_LW_law_270 rfl rfl ?_
      refine ab_aload_n X 4 d_LW_law_271 rfl rfl ?_
      refine ab_iload X 0 d_LW_law_272 rfl ?_
      refine ab_iconst (v := 1) X d_LW_law_274 (by decide) ?_
      refine ab_iadd X d_LW_law_275 ?_
      refine ab_sld X hX hbl hbA (i0 + 1) d_LW_law_276 (nI_add i0 1) (by omega) (by omega) ?_
      refine ab_aload_n X 1 d_LW_law_277 rfl rfl ?_
      refine ab_callSW (n := 3) (as := [ab_O 0 0, ab_I (xs (i0 + 1)), ab_O 20 0]) X (hZ) (h_LW_wordx hfl u (xs (i0 + 1)) hC) lW_LW_69 ⟨by decide +kernel, by decide +kernel, by decide +kernel⟩ (by decide) d_LW_law_278 rfl rfl ⟨by first | exact Nat.le_of_ble_eq_true rfl | (simp only [ab_rm, room_1]; omega), by first | exact Nat.le_of_ble_eq_true rfl | (simp only [ab_rm, room_1]; omega)⟩ ⟨by first | exact Nat.le_of_ble_eq_true rfl | (simp only [ab_rm, room_1]; omega), by first | exact Nat.le_of_ble_eq_true rfl | (simp only [ab_rm, room_1]; omega)⟩ (Nat.le_of_ble_eq_true rfl) (fun u278 r278 h278 => ?_)
      obtain ⟨w1, x1, rfl⟩ := h278
      refine ab_istore5 X 0 1 2 3 4 d_LW_law_281 (by decide) rfl rfl rfl rfl rfl rfl rfl rfl rfl rfl ?_
      have hL1 := hL.h w1
      refine ab_aload_n X 3 d_LW_law_283 rfl rfl ?_
      refine ab_aload_n X 5 d_LW_law_284 rfl rfl ?_
      refine ab_iload X 1 d_LW_law_285 rfl ?_
      refine ab_iconst (v := 1) X d_LW_law_287 (by decide) ?_
      refine ab_iadd X d_LW_law_288 ?_
      refine ab_sld X hX hbl hbA (i0 + 1) d_LW_law_289 (nI_add i0 1) (by omega) (by omega) ?_
      refine ab_callV (as := [ab_I (xs (i0 + 1))]) X (fun h => by cases h) (o_MO_word u278 (xs (i0 + 1)) hL1.1.2.1) lk_LW_72 d_LW_law_290 rfl rfl (by first | assumption | decide) ⟨by first | exact Nat.le_of_ble_eq_true rfl | (simp only [ab_rm, room_1]; omega), by first | exact Nat.le_of_ble_eq_true rfl | (simp only [ab_rm, room_1]; omega)⟩ ⟨by first | exact Nat.le_of_ble_eq_true rfl | (simp only [ab_rm, room_1]; omega), by first | exact Nat.le_of_ble_eq_true rfl | (simp only [ab_rm, room_1]; omega)⟩ (Nat.le_of_ble_eq_true rfl) (fun u290 r290 h290 => ?_)
      obtain ⟨v1, y1, rfl⟩ := h290
      refine ab_istore6 X 0 1 2 3 4 5 d_LW_law_293 (by decide) rfl rfl rfl rfl rfl rfl rfl rfl rfl rfl rfl rfl ?_
      refine ab_goto X 510 d_LW_law_295 rfl ?_
      refine ab_lv (List.forall_mem_cons.mpr ⟨List.mem_of_getElem? (i := 2) rfl, List.forall_mem_cons.mpr ⟨List.mem_of_getElem? (i := 3) rfl, List.forall_mem_cons.mpr ⟨List.mem_of_getElem? (i := 4) rfl, List.forall_mem_cons.mpr ⟨List.mem_of_getElem? (i := 5) rfl, List.forall_mem_cons.mpr ⟨List.mem_of_getElem? (i := 6) rfl, fun _ h => absurd h List.not_mem_nil⟩⟩⟩⟩⟩) ?_
      exact next _ _ _ (by omega) (by omega) (hL1.o v1)
    ·
      refine ab_tableIn X 298 d_LW_law_40 (by decide) (by decide) (off := 258) (by decide) (by decide) ?_
      refine ab_aload_n X 3 d_LW_law_298 rfl rfl ?_
      refine ab_aload_n X 4 d_LW_law_299 rfl rfl ?_
      refine ab_iload X 0 d_LW_law_300 rfl ?_
      refine ab_iconst (v := 1) X d_LW_law_302 (by decide) ?_
      refine ab_iadd X d_LW_law_303 ?_
      refine ab_sld X hX hbl hbA (i0 + 1) d_LW_law_304 (nI_add i0 1) (by omega) (by omega) ?_
      refine ab_aload_n X 1 d_LW_law_305 rfl rfl ?_
      refine ab_callSW (n := 3) (as := [ab_O 0 0, ab_I (xs (i0 + 1)), ab_O 20 0]) X (hZ) (h_LW_sizex hfl u (xs (i0 + 1)) hT.1 hC) lW_LW_73 ⟨by decide +kernel, by decide +kernel, by decide +kernel⟩ (by decide) d_LW_law_306 rfl rfl ⟨by first | exact Nat.le_of_ble_eq_true rfl | (simp only [ab_rm, room_1]; omega), by first | exact Nat.le_of_ble_eq_true rfl | (simp only [ab_rm, room_1]; omega)⟩ ⟨by first | exact Nat.le_of_ble_eq_true rfl | (simp only [ab_rm, room_1]; omega), by first | exact Nat.le_of_ble_eq_true rfl | (simp only [ab_rm, room_1]; omega)⟩ (Nat.le_of_ble_eq_true rfl) (fun u306 r306 h306 => ?_)
      obtain ⟨w1, x1, rfl⟩ := h306
      refine ab_istore5 X 0 1 2 3 4 d_LW_law_309 (by decide) rfl rfl rfl rfl rfl rfl rfl rfl rfl rfl ?_
      have hL1 := hL.h w1
      refine ab_aload_n X 3 d_LW_law_311 rfl rfl ?_
      refine ab_aload_n X 5 d_LW_law_312 rfl rfl ?_
      refine ab_iload X 1 d_LW_law_313 rfl ?_
      refine ab_iconst (v := 1) X d_LW_law_315 (by decide) ?_
      refine ab_iadd X d_LW_law_316 ?_
      refine ab_sld X hX hbl hbA (i0 + 1) d_LW_law_317 (nI_add i0 1) (by omega) (by omega) ?_
      refine ab_callV (as := [ab_I (xs (i0 + 1))]) X (fun h => by cases h) (o_MO_size u306 (xs (i0 + 1)) hL1.1.2.1) lk_LW_75 d_LW_law_318 rfl rfl (by first | assumption | decide) ⟨by first | exact Nat.le_of_ble_eq_true rfl | (simp only [ab_rm, room_1]; omega), by first | exact Nat.le_of_ble_eq_true rfl | (simp only [ab_rm, room_1]; omega)⟩ ⟨by first | exact Nat.le_of_ble_eq_true rfl | (simp only [ab_rm, room_1]; omega), by first | exact Nat.le_of_ble_eq_true rfl | (simp only [ab_rm, room_1]; omega)⟩ (Nat.le_of_ble_eq_true rfl) (fun u318 r318 h318 => ?_)
      obtain ⟨v1, y1, rfl⟩ := h318
      refine ab_istore6 X 0 1 2 3 4 5 d_LW_law_321 (by decide) rfl rfl rfl rfl rfl rfl rfl rfl rfl rfl rfl rfl ?_
      refine ab_goto X 510 d_LW_law_323 rfl ?_
      refine ab_lv (List.forall_mem_cons.mpr ⟨List.mem_of_getElem? (i := 2) rfl, List.forall_mem_cons.mpr ⟨List.mem_of_getElem? (i := 3) rfl, List.forall_mem_cons.mpr ⟨List.mem_of_getElem? (i := 4) rfl, List.forall_mem_cons.mpr ⟨List.mem_of_getElem? (i := 5) rfl, List.forall_mem_cons.mpr ⟨List.mem_of_getElem? (i := 6) rfl, fun _ h => absurd h List.not_mem_nil⟩⟩⟩⟩⟩) ?_
      exact next _ _ _ (by omega) (by omega) (hL1.o v1)
    ·
      refine ab_tableIn X 326 d_LW_law_40 (by decide) (by decide) (off := 286) (by decide) (by decide) ?_
      rcases hT.1 with ⟨h4, hpn, -⟩ | ⟨h4, hps, P, kd, ar, cn, lf, ch, Y, R, W, F, T2, C, l6, CY, MX, SX, RW⟩
      · obtain ⟨Y, R, F⟩ := xf_ex dm_W
        refine ab_aload_n X 3 d_LW_law_326 rfl rfl ?_
        refine ab_aload_n X 4 d_LW_law_327 rfl rfl ?_
        refine ab_iload X 0 d_LW_law_328 rfl ?_
        refine ab_iconst (v := 1) X d_LW_law_330 (by decide) ?_
        refine ab_iadd X d_LW_law_331 ?_
        refine ab_sld X hX hbl hbA (i0 + 1) d_LW_law_332 (nI_add i0 1) (by omega) (by omega) ?_
        refine ab_aload_n X 4 d_LW_law_333 rfl rfl ?_
        refine ab_iload X 0 d_LW_law_334 rfl ?_
        refine ab_iconst (v := 2) X d_LW_law_336 (by decide) ?_
        refine ab_iadd X d_LW_law_337 ?_
        refine ab_sld X hX hbl hbA (i0 + 2) d_LW_law_338 (nI_add i0 2) (by omega) (by omega) ?_
        refine ab_aload_n X 4 d_LW_law_339 rfl rfl ?_
        refine ab_iload X 0 d_LW_law_340 rfl ?_
        refine ab_iconst (v := 3) X d_LW_law_342 (by decide) ?_
        refine ab_iadd X d_LW_law_343 ?_
        refine ab_sld X hX hbl hbA (i0 + 3) d_LW_law_344 (nI_add i0 3) (by omega) (by omega) ?_
        refine ab_aload_n X 4 d_LW_law_345 rfl rfl ?_
        refine ab_iload X 0 d_LW_law_346 rfl ?_
        refine ab_iconst (v := 4) X d_LW_law_348 (by decide) ?_
        refine ab_iadd X d_LW_law_349 ?_
        refine ab_sld X hX hbl hbA (i0 + 4) d_LW_law_350 (nI_add i0 4) (by omega) (by omega) ?_
        refine ab_aload_n X 1 d_LW_law_351 rfl rfl ?_
        refine ab_callSW (n := 6) (as := [ab_O 0 0, ab_I (xs (i0 + 1)), ab_I (xs (i0 + 2)), ab_I (xs (i0 + 3)), ab_I (xs (i0 + 4)), ab_O 20 0]) X (hZ) (h_LW_satisfy hfl u (xs (i0 + 1)) (xs (i0 + 2)) (xs (i0 + 3)) (xs (i0 + 4)) _ _ _ _ _ _ Y R dm_W F (Or.inl hpn) hC) lW_LW_76 ⟨by decide +kernel, by decide +kernel, by decide +kernel⟩ (by decide) d_LW_law_352 rfl rfl ⟨by first | exact Nat.le_of_ble_eq_true rfl | (simp only [ab_rm, room_1]; omega), by first | exact Nat.le_of_ble_eq_true rfl | (simp only [ab_rm, room_1]; omega)⟩ ⟨by first | exact Nat.le_of_ble_eq_true rfl | (simp only [ab_rm, room_1]; omega), by first | exact Nat.le_of_ble_eq_true rfl | (simp only [ab_rm, room_1]; omega)⟩ (Nat.le_of_ble_eq_true rfl) (fun u352 r352 h352 => ?_)
        rcases h352 with ⟨-, e352, rfl⟩ | ⟨g1, -⟩
        · subst u352
          refine ab_istore5 X 0 1 2 3 4 d_LW_law_355 (by decide) rfl rfl rfl rfl rfl rfl rfl rfl rfl rfl ?_
          refine ab_aload_n X 3 d_LW_law_357 rfl rfl ?_
          refine ab_aload_n X 5 d_LW_law_358 rfl rfl ?_
          refine ab_iload X 1 d_LW_law_359 rfl ?_
          refine ab_iconst (v := 1) X d_LW_law_361 (by decide) ?_
          refine ab_iadd X d_LW_law_362 ?_
          refine ab_sld X hX hbl hbA (i0 + 1) d_LW_law_363 (nI_add i0 1) (by omega) (by omega) ?_
          refine ab_aload_n X 5 d_LW_law_364 rfl rfl ?_
          refine ab_iload X 1 d_LW_law_365 rfl ?_
          refine ab_iconst (v := 2) X d_LW_law_367 (by decide) ?_
          refine ab_iadd X d_LW_law_368 ?_
          refine ab_sld X hX hbl hbA (i0 + 2) d_LW_law_369 (nI_add i0 2) (by omega) (by omega) ?_
          refine ab_aload_n X 5 d_LW_law_370 rfl rfl ?_
          refine ab_iload X 1 d_LW_law_371 rfl ?_
          refine ab_iconst (v := 3) X d_LW_law_373 (by decide) ?_
          refine ab_iadd X d_LW_law_374 ?_
          refine ab_sld X hX hbl hbA (i0 + 3) d_LW_law_375 (nI_add i0 3) (by omega) (by omega) ?_
          refine ab_aload_n X 5 d_LW_law_376 rfl rfl ?_
          refine ab_iload X 1 d_LW_law_377 rfl ?_
          refine ab_iconst (v := 4) X d_LW_law_379 (by decide) ?_
          refine ab_iadd X d_LW_law_380 ?_
          refine ab_sld X hX hbl hbA (i0 + 4) d_LW_law_381 (nI_add i0 4) (by omega) (by omega) ?_
          refine ab_callV (as := [ab_I (xs (i0 + 1)), ab_I (xs (i0 + 2)), ab_I (xs (i0 + 3)), ab_I (xs (i0 + 4))]) X (fun h => by cases h) (x_MO_satisfy u (xs (i0 + 1)) (xs (i0 + 2)) (xs (i0 + 3)) (xs (i0 + 4)) 1 (fun _ => 1) (fun _ => 0) (fun _ => 0) (fun _ => 1) (fun _ _ => 0) Y R (Or.inl h4) hM) lk_LW_78 d_LW_law_382 rfl rfl (by first | assumption | decide) ⟨by first | exact Nat.le_of_ble_eq_true rfl | (simp only [ab_rm, room_1]; omega), by first | exact Nat.le_of_ble_eq_true rfl | (simp only [ab_rm, room_1]; omega)⟩ ⟨by first | exact Nat.le_of_ble_eq_true rfl | (simp only [ab_rm, room_1]; omega), by first | exact Nat.le_of_ble_eq_true rfl | (simp only [ab_rm, room_1]; omega)⟩ (Nat.le_of_ble_eq_true rfl) (fun u382 r382 h382 => ?_)
          rcases h382 with ⟨⟨v1, v33⟩, ⟨-, -, ws, y0, rfl⟩ | ⟨z, -⟩⟩
          ·
            refine ab_istore6 X 0 1 2 3 4 5 d_LW_law_385 (by decide) rfl rfl rfl rfl rfl rfl rfl rfl rfl rfl rfl rfl ?_
            refine ab_goto X 510 d_LW_law_387 rfl ?_
            refine ab_lv (List.forall_mem_cons.mpr ⟨List.mem_of_getElem? (i := 2) rfl, List.forall_mem_cons.mpr ⟨List.mem_of_getElem? (i := 3) rfl, List.forall_mem_cons.mpr ⟨List.mem_of_getElem? (i := 4) rfl, List.forall_mem_cons.mpr ⟨List.mem_of_getElem? (i := 5) rfl, List.forall_mem_cons.mpr ⟨List.mem_of_getElem? (i := 6) rfl, fun _ h => absurd h List.not_mem_nil⟩⟩⟩⟩⟩) ?_
            exact next _ _ _ (by omega) (by omega) (hL.o ⟨v1, ws, v33⟩)
          · rw [h4] at z; exact absurd z (by decide)
        · rw [hpn] at g1; cases g1
      ·
        refine ab_aload_n X 3 d_LW_law_326 rfl rfl ?_
        refine ab_aload_n X 4 d_LW_law_327 rfl rfl ?_
        refine ab_iload X 0 d_LW_law_328 rfl ?_
        refine ab_iconst (v := 1) X d_LW_law_330 (by decide) ?_
        refine ab_iadd X d_LW_law_331 ?_
        refine ab_sld X hX hbl hbA (i0 + 1) d_LW_law_332 (nI_add i0 1) (by omega) (by omega) ?_
        refine ab_aload_n X 4 d_LW_law_333 rfl rfl ?_
        refine ab_iload X 0 d_LW_law_334 rfl ?_
        refine ab_iconst (v := 2) X d_LW_law_336 (by decide) ?_
        refine ab_iadd X d_LW_law_337 ?_
        refine ab_sld X hX hbl hbA (i0 + 2) d_LW_law_338 (nI_add i0 2) (by omega) (by omega) ?_
        refine ab_aload_n X 4 d_LW_law_339 rfl rfl ?_
        refine ab_iload X 0 d_LW_law_340 rfl ?_
        refine ab_iconst (v := 3) X d_LW_law_342 (by decide) ?_
        refine ab_iadd X d_LW_law_343 ?_
        refine ab_sld X hX hbl hbA (i0 + 3) d_LW_law_344 (nI_add i0 3) (by omega) (by omega) ?_
        refine ab_aload_n X 4 d_LW_law_345 rfl rfl ?_
        refine ab_iload X 0 d_LW_law_346 rfl ?_
        refine ab_iconst (v := 4) X d_LW_law_348 (by decide) ?_
        refine ab_iadd X d_LW_law_349 ?_
        refine ab_sld X hX hbl hbA (i0 + 4) d_LW_law_350 (nI_add i0 4) (by omega) (by omega) ?_
        refine ab_aload_n X 1 d_LW_law_351 rfl rfl ?_
        refine ab_callSW (n := 6) (as := [ab_O 0 0, ab_I (xs (i0 + 1)), ab_I (xs (i0 + 2)), ab_I (xs (i0 + 3)), ab_I (xs (i0 + 4)), ab_O 20 0]) X (hZ) (h_LW_satisfy hfl u (xs (i0 + 1)) (xs (i0 + 2)) (xs (i0 + 3)) (xs (i0 + 4)) P kd ar cn lf ch Y R W F (Or.inr ⟨hps, fun q hq j hj => (CY q hq j hj).1, RW, SX⟩) hC) lW_LW_76 ⟨by decide +kernel, by decide +kernel, by decide +kernel⟩ (by decide) d_LW_law_352 rfl rfl ⟨by first | exact Nat.le_of_ble_eq_true rfl | (simp only [ab_rm, room_1]; omega), by first | exact Nat.le_of_ble_eq_true rfl | (simp only [ab_rm, room_1]; omega)⟩ ⟨by first | exact Nat.le_of_ble_eq_true rfl | (simp only [ab_rm, room_1]; omega), by first | exact Nat.le_of_ble_eq_true rfl | (simp only [ab_rm, room_1]; omega)⟩ (Nat.le_of_ble_eq_true rfl) (fun u352 r352 h352 => ?_)
        rcases h352 with ⟨g1, -⟩ | ⟨-, w1, k5, rfl, o1⟩
        · rw [hps] at g1; cases g1
        · have hT1 := hL.1.h w1
          refine ab_istore5 X 0 1 2 3 4 d_LW_law_355 (by decide) rfl rfl rfl rfl rfl rfl rfl rfl rfl rfl ?_
          refine ab_aload_n X 3 d_LW_law_357 rfl rfl ?_
          refine ab_aload_n X 5 d_LW_law_358 rfl rfl ?_
          refine ab_iload X 1 d_LW_law_359 rfl ?_
          refine ab_iconst (v := 1) X d_LW_law_361 (by decide) ?_
          refine ab_iadd X d_LW_law_362 ?_
          refine ab_sld X hX hbl hbA (i0 + 1) d_LW_law_363 (nI_add i0 1) (by omega) (by omega) ?_
          refine ab_aload_n X 5 d_LW_law_364 rfl rfl ?_
          refine ab_iload X 1 d_LW_law_365 rfl ?_
          refine ab_iconst (v := 2) X d_LW_law_367 (by decide) ?_
          refine ab_iadd X d_LW_law_368 ?_
          refine ab_sld X hX hbl hbA (i0 + 2) d_LW_law_369 (nI_add i0 2) (by omega) (by omega) ?_
          refine ab_aload_n X 5 d_LW_law_370 rfl rfl ?_
          refine ab_iload X 1 d_LW_law_371 rfl ?_
          refine ab_iconst (v := 3) X d_LW_law_373 (by decide) ?_
          refine ab_iadd X d_LW_law_374 ?_
          refine ab_sld X hX hbl hbA (i0 + 3) d_LW_law_375 (nI_add i0 3) (by omega) (by omega) ?_
          refine ab_aload_n X 5 d_LW_law_376 rfl rfl ?_
          refine ab_iload X 1 d_LW_law_377 rfl ?_
          refine ab_iconst (v := 4) X d_LW_law_379 (by decide) ?_
          refine ab_iadd X d_LW_law_380 ?_
          refine ab_sld X hX hbl hbA (i0 + 4) d_LW_law_381 (nI_add i0 4) (by omega) (by omega) ?_
          refine ab_callV (as := [ab_I (xs (i0 + 1)), ab_I (xs (i0 + 2)), ab_I (xs (i0 + 3)), ab_I (xs (i0 + 4))]) X (fun h => by cases h) (x_MO_satisfy u352 (xs (i0 + 1)) (xs (i0 + 2)) (xs (i0 + 3)) (xs (i0 + 4)) P kd ar cn lf ch Y R (Or.inr ⟨(w1.1.1.2.1 _ _).trans h4, W, F, T2.cong (w1.1.1.2.1 _ _) (fun a k _ _ => w1.1.1.2.2.1 _ _), MX.cong (fun a k _ _ => w1.1.1.2.2.1 _ _)⟩) hT1.2.1) lk_LW_78 d_LW_law_382 rfl rfl (by first | assumption | decide) ⟨by first | exact Nat.le_of_ble_eq_true rfl | (simp only [ab_rm, room_1]; omega), by first | exact Nat.le_of_ble_eq_true rfl | (simp only [ab_rm, room_1]; omega)⟩ ⟨by first | exact Nat.le_of_ble_eq_true rfl | (simp only [ab_rm, room_1]; omega), by first | exact Nat.le_of_ble_eq_true rfl | (simp only [ab_rm, room_1]; omega)⟩ (Nat.le_of_ble_eq_true rfl) (fun u382 r382 h382 => ?_)
          rcases h382 with ⟨⟨v1, v33⟩, ⟨z, -⟩ | ⟨-, t0, ⟨s1, ws, rfl⟩ | ⟨ys, s1, c1, c2, rfl⟩⟩⟩
          · rw [w1.1.1.2.1 _ _, h4] at z; exact absurd z (by decide)
          · rcases o1 with ⟨-, kv⟩ | ⟨zs, s2, -⟩
            ·
              refine ab_istore6 X 0 1 2 3 4 5 d_LW_law_385 (by decide) rfl rfl rfl rfl rfl rfl rfl rfl rfl rfl rfl rfl ?_
              refine ab_goto X 510 d_LW_law_387 rfl ?_
              refine ab_lv (List.forall_mem_cons.mpr ⟨List.mem_of_getElem? (i := 2) rfl, List.forall_mem_cons.mpr ⟨List.mem_of_getElem? (i := 3) rfl, List.forall_mem_cons.mpr ⟨List.mem_of_getElem? (i := 4) rfl, List.forall_mem_cons.mpr ⟨List.mem_of_getElem? (i := 5) rfl, List.forall_mem_cons.mpr ⟨List.mem_of_getElem? (i := 6) rfl, fun _ h => absurd h List.not_mem_nil⟩⟩⟩⟩⟩) ?_
              exact next _ _ _ (by omega) (by omega) ((hL.h ⟨w1, kv⟩).o ⟨v1, ws, v33⟩)
            · rw [s1] at s2; cases s2
          · rcases o1 with ⟨s2, -⟩ | ⟨zs, s2, rw⟩
            · rw [s1] at s2; cases s2
            · rw [s1] at s2; cases s2
              refine ab_istore6 X 0 1 2 3 4 5 d_LW_law_385 (by decide) rfl rfl rfl rfl rfl rfl rfl rfl rfl rfl rfl rfl ?_
              refine ab_goto X 510 d_LW_law_387 rfl ?_
              refine ab_lv (List.forall_mem_cons.mpr ⟨List.mem_of_getElem? (i := 2) rfl, List.forall_mem_cons.mpr ⟨List.mem_of_getElem? (i := 3) rfl, List.forall_mem_cons.mpr ⟨List.mem_of_getElem? (i := 4) rfl, List.forall_mem_cons.mpr ⟨List.mem_of_getElem? (i := 5) rfl, List.forall_mem_cons.mpr ⟨List.mem_of_getElem? (i := 6) rfl, fun _ h => absurd h List.not_mem_nil⟩⟩⟩⟩⟩) ?_
              exact next _ _ _ (by omega) (by omega) ⟨hT1.o v1, wE.sat (sv_b W F s1) rw v1.2.1 c1 c2, hL.2.2.q k5 w1.1.1.2.1 v1.2.1 v33⟩
    ·
      refine ab_tableIn X 390 d_LW_law_40 (by decide) (by decide) (off := 350) (by decide) (by decide) ?_
      obtain ⟨xs0, x40, xb, ec, em, ei⟩ := id hL.2.1
      refine ab_aload_n X 3 d_LW_law_390 rfl rfl ?_
      refine ab_aload_n X 4 d_LW_law_391 rfl rfl ?_
      refine ab_iload X 0 d_LW_law_392 rfl ?_
      refine ab_iconst (v := 1) X d_LW_law_394 (by decide) ?_
      refine ab_iadd X d_LW_law_395 ?_
      refine ab_sld X hX hbl hbA (i0 + 1) d_LW_law_396 (nI_add i0 1) (by omega) (by omega) ?_
      refine ab_aload_n X 1 d_LW_law_397 rfl rfl ?_
      refine ab_callSW (n := 3) (as := [ab_O 0 0, ab_I (xs (i0 + 1)), ab_O 20 0]) X (hZ) (h_LW_put hfl u (xs (i0 + 1)) xs0.length ec x40 hC) lW_LW_79 ⟨by decide +kernel, by decide +kernel, by decide +kernel⟩ (by decide) d_LW_law_398 rfl rfl ⟨by first | exact Nat.le_of_ble_eq_true rfl | (simp only [ab_rm, room_1]; omega), by first | exact Nat.le_of_ble_eq_true rfl | (simp only [ab_rm, room_1]; omega)⟩ ⟨by first | exact Nat.le_of_ble_eq_true rfl | (simp only [ab_rm, room_1]; omega), by first | exact Nat.le_of_ble_eq_true rfl | (simp only [ab_rm, room_1]; omega)⟩ (Nat.le_of_ble_eq_true rfl) (fun u398 r398 h398 => ?_)
      rcases h398 with ⟨ni1, e398, rfl⟩ | ⟨hi1, h24, e398, rfl⟩ | ⟨hi1, h24, w1, pv, k5, o1, rfl⟩
      · subst u398
        refine ab_istore5 X 0 1 2 3 4 d_LW_law_401 (by decide) rfl rfl rfl rfl rfl rfl rfl rfl rfl rfl ?_
        refine ab_aload_n X 3 d_LW_law_403 rfl rfl ?_
        refine ab_aload_n X 5 d_LW_law_404 rfl rfl ?_
        refine ab_iload X 1 d_LW_law_405 rfl ?_
        refine ab_iconst (v := 1) X d_LW_law_407 (by decide) ?_
        refine ab_iadd X d_LW_law_408 ?_
        refine ab_sld X hX hbl hbA (i0 + 1) d_LW_law_409 (nI_add i0 1) (by omega) (by omega) ?_
        refine ab_callV (as := [ab_I (xs (i0 + 1))]) X (fun h => by cases h) (c_MO_put u (xs (i0 + 1)) xs0.length (by decide) (by decide) hM.1.mo31 em (by omega)) lk_LW_81 d_LW_law_410 rfl rfl (by first | assumption | decide) ⟨by first | exact Nat.le_of_ble_eq_true rfl | (simp only [ab_rm, room_1]; omega), by first | exact Nat.le_of_ble_eq_true rfl | (simp only [ab_rm, room_1]; omega)⟩ ⟨by first | exact Nat.le_of_ble_eq_true rfl | (simp only [ab_rm, room_1]; omega), by first | exact Nat.le_of_ble_eq_true rfl | (simp only [ab_rm, room_1]; omega)⟩ (Nat.le_of_ble_eq_true rfl) (fun u410 r410 h410 => ?_)
        rcases h410 with ⟨z, -⟩ | ⟨-, e2, rfl⟩ | ⟨z, -⟩
        · exact absurd z ni1
        · have v1 : oV u u410 := by rw [e2]; exact hM.oV (F := [0]) ((gP.rf hM.1).ui rfl trivial) (by decide) (by decide) (by decide)
          have t0 : u410.1 17 0 0 = 1 := by rw [e2]; exact ui_s _
          refine ab_istore6 X 0 1 2 3 4 5 d_LW_law_413 (by decide) rfl rfl rfl rfl rfl rfl rfl rfl rfl rfl rfl rfl ?_
          refine ab_goto X 510 d_LW_law_415 rfl ?_
          refine ab_lv (List.forall_mem_cons.mpr ⟨List.mem_of_getElem? (i := 2) rfl, List.forall_mem_cons.mpr ⟨List.mem_of_getElem? (i := 3) rfl, List.forall_mem_cons.mpr ⟨List.mem_of_getElem? (i := 4) rfl, List.forall_mem_cons.mpr ⟨List.mem_of_getElem? (i := 5) rfl, List.forall_mem_cons.mpr ⟨List.mem_of_getElem? (i := 6) rfl, fun _ h => absurd h List.not_mem_nil⟩⟩⟩⟩⟩) ?_
          exact next _ _ _ (by omega) (by omega) (hL.o v1)
        · exact absurd z ni1
      · subst u398
        refine ab_istore5 X 0 1 2 3 4 d_LW_law_401 (by decide) rfl rfl rfl rfl rfl rfl rfl rfl rfl rfl ?_
        refine ab_aload_n X 3 d_LW_law_403 rfl rfl ?_
        refine ab_aload_n X 5 d_LW_law_404 rfl rfl ?_
        refine ab_iload X 1 d_LW_law_405 rfl ?_
        refine ab_iconst (v := 1) X d_LW_law_407 (by decide) ?_
        refine ab_iadd X d_LW_law_408 ?_
        refine ab_sld X hX hbl hbA (i0 + 1) d_LW_law_409 (nI_add i0 1) (by omega) (by omega) ?_
        refine ab_callV (as := [ab_I (xs (i0 + 1))]) X (fun h => by cases h) (c_MO_put u (xs (i0 + 1)) xs0.length (by decide) (by decide) hM.1.mo31 em (by omega)) lk_LW_81 d_LW_law_410 rfl rfl (by first | assumption | decide) ⟨by first | exact Nat.le_of_ble_eq_true rfl | (simp only [ab_rm, room_1]; omega), by first | exact Nat.le_of_ble_eq_true rfl | (simp only [ab_rm, room_1]; omega)⟩ ⟨by first | exact Nat.le_of_ble_eq_true rfl | (simp only [ab_rm, room_1]; omega), by first | exact Nat.le_of_ble_eq_true rfl | (simp only [ab_rm, room_1]; omega)⟩ (Nat.le_of_ble_eq_true rfl) (fun u410 r410 h410 => ?_)
        rcases h410 with ⟨-, z, -⟩ | ⟨z, -⟩ | ⟨-, -, e2, rfl⟩
        · exact absurd h24 (by omega)
        · exact absurd hi1 z
        · have v1 : oV u u410 := by rw [e2]; exact hM.oV (F := [0]) ((gP.rf hM.1).ui rfl trivial) (by decide) (by decide) (by decide)
          have t0 : u410.1 17 0 0 = 2 := by rw [e2]; exact ui_s _
          refine ab_istore6 X 0 1 2 3 4 5 d_LW_law_413 (by decide) rfl rfl rfl rfl rfl rfl rfl rfl rfl rfl rfl rfl ?_
          refine ab_goto X 510 d_LW_law_415 rfl ?_
          refine ab_lv (List.forall_mem_cons.mpr ⟨List.mem_of_getElem? (i := 2) rfl, List.forall_mem_cons.mpr ⟨List.mem_of_getElem? (i := 3) rfl, List.forall_mem_cons.mpr ⟨List.mem_of_getElem? (i := 4) rfl, List.forall_mem_cons.mpr ⟨List.mem_of_getElem? (i := 5) rfl, List.forall_mem_cons.mpr ⟨List.mem_of_getElem? (i := 6) rfl, fun _ h => absurd h List.not_mem_nil⟩⟩⟩⟩⟩) ?_
          exact next _ _ _ (by omega) (by omega) (hL.o v1)
      · have hT1 := hL.1.h w1
        refine ab_istore5 X 0 1 2 3 4 d_LW_law_401 (by decide) rfl rfl rfl rfl rfl rfl rfl rfl rfl rfl ?_
        refine ab_aload_n X 3 d_LW_law_403 rfl rfl ?_
        refine ab_aload_n X 5 d_LW_law_404 rfl rfl ?_
        refine ab_iload X 1 d_LW_law_405 rfl ?_
        refine ab_iconst (v := 1) X d_LW_law_407 (by decide) ?_
        refine ab_iadd X d_LW_law_408 ?_
        refine ab_sld X hX hbl hbA (i0 + 1) d_LW_law_409 (nI_add i0 1) (by omega) (by omega) ?_
        refine ab_callV (as := [ab_I (xs (i0 + 1))]) X (fun h => by cases h) (c_MO_put u398 (xs (i0 + 1)) xs0.length (by decide) (by decide) hT1.2.1.1.mo31 ((w1.1.1.2.1 _ _).trans em) (by omega)) lk_LW_81 d_LW_law_410 rfl rfl (by first | assumption | decide) ⟨by first | exact Nat.le_of_ble_eq_true rfl | (simp only [ab_rm, room_1]; omega), by first | exact Nat.le_of_ble_eq_true rfl | (simp only [ab_rm, room_1]; omega)⟩ ⟨by first | exact Nat.le_of_ble_eq_true rfl | (simp only [ab_rm, room_1]; omega), by first | exact Nat.le_of_ble_eq_true rfl | (simp only [ab_rm, room_1]; omega)⟩ (Nat.le_of_ble_eq_true rfl) (fun u410 r410 h410 => ?_)
        rcases h410 with ⟨-, -, e2, rfl⟩ | ⟨z, -⟩ | ⟨-, z, -⟩
        · have v1 : oP u398 u410 := by rw [e2]; exact mi_items hT1.2.1 (n := xs0.length + 1) (((((gP.rf hT1.2.1.1).ui rfl trivial).ui rfl trivial)).ui rfl trivial) (by omega) (ui_s _)
          have t0 : u410.1 17 0 0 = 0 := by rw [e2]; exact (ui_n _ (by omega)).trans ((ui_n _ (by omega)).trans (ui_s _))
          have o2 : u410.2.2 20 0 0 = (nI (xs0.length + 1)).toInt64 := by rw [e2]; exact o1
          have hw2 : wE u410 := wE.put h24 xb ei hi1 pv (fun _ _ => w1.1.1.2.2.1 _ _) e2
          refine ab_istore6 X 0 1 2 3 4 5 d_LW_law_413 (by decide) rfl rfl rfl rfl rfl rfl rfl rfl rfl rfl rfl rfl ?_
          refine ab_goto X 510 d_LW_law_415 rfl ?_
          refine ab_lv (List.forall_mem_cons.mpr ⟨List.mem_of_getElem? (i := 2) rfl, List.forall_mem_cons.mpr ⟨List.mem_of_getElem? (i := 3) rfl, List.forall_mem_cons.mpr ⟨List.mem_of_getElem? (i := 4) rfl, List.forall_mem_cons.mpr ⟨List.mem_of_getElem? (i := 5) rfl, List.forall_mem_cons.mpr ⟨List.mem_of_getElem? (i := 6) rfl, fun _ h => absurd h List.not_mem_nil⟩⟩⟩⟩⟩) ?_
          exact next _ _ _ (by omega) (by omega) ⟨hT1.o v1, hw2, hL.2.2.q k5 w1.1.1.2.1 v1.2.1 (by rw [e2]; exact (ui_n _ (by omega)).trans ((ui_n _ (by omega)).trans (ui_n _ (by omega))))⟩
        · exact absurd hi1 z
        · exact absurd h24 (by omega)
    ·
      refine ab_tableIn X 418 d_LW_law_40 (by decide) (by decide) (off := 378) (by decide) (by decide) ?_
      refine ab_aload_n X 3 d_LW_law_418 rfl rfl ?_
      refine ab_callV (as := []) X (fun h => by cases h) (h_PF_clear u hC) lk_LW_82 d_LW_law_419 rfl rfl (by first | assumption | decide) ⟨by first | exact Nat.le_of_ble_eq_true rfl | (simp only [ab_rm, room_1]; omega), by first | exact Nat.le_of_ble_eq_true rfl | (simp only [ab_rm, room_1]; omega)⟩ ⟨by first | exact Nat.le_of_ble_eq_true rfl | (simp only [ab_rm, room_1]; omega), by first | exact Nat.le_of_ble_eq_true rfl | (simp only [ab_rm, room_1]; omega)⟩ (Nat.le_of_ble_eq_true rfl) (fun u419 r419 h419 => ?_)
      obtain ⟨⟨w1, k1, k5⟩, rfl⟩ := h419
      have hT1 := hL.1.h w1
      refine ab_aload_n X 2 d_LW_law_422 rfl rfl ?_
      refine ab_callV (as := []) X (fun h => by cases h) (h_MO_clear u419 hT1.2.1) lk_LW_85 d_LW_law_423 rfl rfl (by first | assumption | decide) ⟨by first | exact Nat.le_of_ble_eq_true rfl | (simp only [ab_rm, room_1]; omega), by first | exact Nat.le_of_ble_eq_true rfl | (simp only [ab_rm, room_1]; omega)⟩ ⟨by first | exact Nat.le_of_ble_eq_true rfl | (simp only [ab_rm, room_1]; omega), by first | exact Nat.le_of_ble_eq_true rfl | (simp only [ab_rm, room_1]; omega)⟩ (Nat.le_of_ble_eq_true rfl) (fun u423 r423 h423 => ?_)
      obtain ⟨⟨v1, k2, k33⟩, rfl⟩ := h423
      refine ab_goto X 510 d_LW_law_426 rfl ?_
      exact next _ _ _ (by omega) (by omega) ⟨hT1.o v1, wE.nil ((v1.2.1.2 _ _ _ (by decide) (by decide) (by decide)).trans k1) k2, hL.2.2.q k5 w1.1.1.2.1 v1.2.1 k33⟩
    ·
      refine ab_tableIn X 429 d_LW_law_40 (by decide) (by decide) (off := 389) (by decide) (by decide) ?_
      refine ab_aload_n X 3 d_LW_law_429 rfl rfl ?_
      refine ab_aload_n X 4 d_LW_law_430 rfl rfl ?_
      refine ab_iload X 0 d_LW_law_431 rfl ?_
      refine ab_iconst (v := 1) X d_LW_law_433 (by decide) ?_
      refine ab_iadd X d_LW_law_434 ?_
      refine ab_sld X hX hbl hbA (i0 + 1) d_LW_law_435 (nI_add i0 1) (by omega) (by omega) ?_
      refine ab_aload_n X 1 d_LW_law_436 rfl rfl ?_
      refine ab_callSW (n := 3) (as := [ab_O 0 0, ab_I (xs (i0 + 1)), ab_O 20 0]) X (hZ) (h_LW_itemx hfl u (xs (i0 + 1)) hC) lW_LW_86 ⟨by decide +kernel, by decide +kernel, by decide +kernel⟩ (by decide) d_LW_law_437 rfl rfl ⟨by first | exact Nat.le_of_ble_eq_true rfl | (simp only [ab_rm, room_1]; omega), by first | exact Nat.le_of_ble_eq_true rfl | (simp only [ab_rm, room_1]; omega)⟩ ⟨by first | exact Nat.le_of_ble_eq_true rfl | (simp only [ab_rm, room_1]; omega), by first | exact Nat.le_of_ble_eq_true rfl | (simp only [ab_rm, room_1]; omega)⟩ (Nat.le_of_ble_eq_true rfl) (fun u437 r437 h437 => ?_)
      obtain ⟨w1, x1, rfl⟩ := h437
      refine ab_istore5 X 0 1 2 3 4 d_LW_law_440 (by decide) rfl rfl rfl rfl rfl rfl rfl rfl rfl rfl ?_
      have hL1 := hL.h w1
      refine ab_aload_n X 3 d_LW_law_442 rfl rfl ?_
      refine ab_aload_n X 5 d_LW_law_443 rfl rfl ?_
      refine ab_iload X 1 d_LW_law_444 rfl ?_
      refine ab_iconst (v := 1) X d_LW_law_446 (by decide) ?_
      refine ab_iadd X d_LW_law_447 ?_
      refine ab_sld X hX hbl hbA (i0 + 1) d_LW_law_448 (nI_add i0 1) (by omega) (by omega) ?_
      refine ab_callV (as := [ab_I (xs (i0 + 1))]) X (fun h => by cases h) (h_MO_item u437 (xs (i0 + 1)) hL1.1.2.1) lk_LW_88 d_LW_law_449 rfl rfl (by first | assumption | decide) ⟨by first | exact Nat.le_of_ble_eq_true rfl | (simp only [ab_rm, room_1]; omega), by first | exact Nat.le_of_ble_eq_true rfl | (simp only [ab_rm, room_1]; omega)⟩ ⟨by first | exact Nat.le_of_ble_eq_true rfl | (simp only [ab_rm, room_1]; omega), by first | exact Nat.le_of_ble_eq_true rfl | (simp only [ab_rm, room_1]; omega)⟩ (Nat.le_of_ble_eq_true rfl) (fun u449 r449 h449 => ?_)
      obtain ⟨v1, y1, rfl⟩ := h449
      refine ab_istore6 X 0 1 2 3 4 5 d_LW_law_452 (by decide) rfl rfl rfl rfl rfl rfl rfl rfl rfl rfl rfl rfl ?_
      refine ab_goto X 510 d_LW_law_454 rfl ?_
      refine ab_lv (List.forall_mem_cons.mpr ⟨List.mem_of_getElem? (i := 2) rfl, List.forall_mem_cons.mpr ⟨List.mem_of_getElem? (i := 3) rfl, List.forall_mem_cons.mpr ⟨List.mem_of_getElem? (i := 4) rfl, List.forall_mem_cons.mpr ⟨List.mem_of_getElem? (i := 5) rfl, List.forall_mem_cons.mpr ⟨List.mem_of_getElem? (i := 6) rfl, fun _ h => absurd h List.not_mem_nil⟩⟩⟩⟩⟩) ?_
      exact next _ _ _ (by omega) (by omega) (hL1.o v1)
    ·
      refine ab_tableIn X 457 d_LW_law_40 (by decide) (by decide) (off := 417) (by decide) (by decide) ?_
      obtain ⟨xs0, x40, xb, ec, em, ei⟩ := id hL.2.1
      rcases hT.1 with ⟨h4, hpn, SX⟩ | ⟨h4, hps, P, kd, ar, cn, lf, ch, Y, R, W, F, T2, C, l6, CY, MX, SX, RW⟩
      ·
        refine ab_aload_n X 3 d_LW_law_457 rfl rfl ?_
        refine ab_aload_n X 4 d_LW_law_458 rfl rfl ?_
        refine ab_iload X 0 d_LW_law_459 rfl ?_
        refine ab_iconst (v := 1) X d_LW_law_461 (by decide) ?_
        refine ab_iadd X d_LW_law_462 ?_
        refine ab_sld X hX hbl hbA (i0 + 1) d_LW_law_463 (nI_add i0 1) (by omega) (by omega) ?_
        refine ab_aload_n X 4 d_LW_law_464 rfl rfl ?_
        refine ab_iload X 0 d_LW_law_465 rfl ?_
        refine ab_iconst (v := 2) X d_LW_law_467 (by decide) ?_
        refine ab_iadd X d_LW_law_468 ?_
        refine ab_sld X hX hbl hbA (i0 + 2) d_LW_law_469 (nI_add i0 2) (by omega) (by omega) ?_
        refine ab_aload_n X 1 d_LW_law_470 rfl rfl ?_
        refine ab_callSW (n := 4) (as := [ab_O 0 0, ab_I (xs (i0 + 1)), ab_I (xs (i0 + 2)), ab_O 20 0]) X (hZ) (h_LW_check hfl u (xs (i0 + 1)) (xs (i0 + 2)) xs0 x40 xb ec (fun k hk => (ei k hk).1) [] (by decide) (fun x hx => absurd hx List.not_mem_nil) SX.1 (fun i hi => absurd hi (Nat.not_lt_zero i)) okm_nil (Or.inl hpn) hC) lW_LW_89 ⟨by decide +kernel, by decide +kernel, by decide +kernel⟩ (by decide) d_LW_law_471 rfl rfl ⟨by first | exact Nat.le_of_ble_eq_true rfl | (simp only [ab_rm, room_1]; omega), by first | exact Nat.le_of_ble_eq_true rfl | (simp only [ab_rm, room_1]; omega)⟩ ⟨by first | exact Nat.le_of_ble_eq_true rfl | (simp only [ab_rm, room_1]; omega), by first | exact Nat.le_of_ble_eq_true rfl | (simp only [ab_rm, room_1]; omega)⟩ (Nat.le_of_ble_eq_true rfl) (fun u471 r471 h471 => ?_)
        rcases h471 with ⟨-, e471, rfl⟩ | ⟨g1, -⟩
        · subst u471
          refine ab_istore5 X 0 1 2 3 4 d_LW_law_474 (by decide) rfl rfl rfl rfl rfl rfl rfl rfl rfl rfl ?_
          refine ab_aload_n X 3 d_LW_law_476 rfl rfl ?_
          refine ab_aload_n X 5 d_LW_law_477 rfl rfl ?_
          refine ab_iload X 1 d_LW_law_478 rfl ?_
          refine ab_iconst (v := 1) X d_LW_law_480 (by decide) ?_
          refine ab_iadd X d_LW_law_481 ?_
          refine ab_sld X hX hbl hbA (i0 + 1) d_LW_law_482 (nI_add i0 1) (by omega) (by omega) ?_
          refine ab_aload_n X 5 d_LW_law_483 rfl rfl ?_
          refine ab_iload X 1 d_LW_law_484 rfl ?_
          refine ab_iconst (v := 2) X d_LW_law_486 (by decide) ?_
          refine ab_iadd X d_LW_law_487 ?_
          refine ab_sld X hX hbl hbA (i0 + 2) d_LW_law_488 (nI_add i0 2) (by omega) (by omega) ?_
          refine ab_callV (as := [ab_I (xs (i0 + 1)), ab_I (xs (i0 + 2))]) X (fun h => by cases h) (z_MO_check u (xs (i0 + 1)) (xs (i0 + 2)) xs0 x40 xb em (fun k hk => (ei k hk).2) [] (by decide) (fun x hx => absurd hx List.not_mem_nil) (by decide) okm_nil hM.1 (Or.inl h4)) lk_LW_92 d_LW_law_489 rfl rfl (by first | assumption | decide) ⟨by first | exact Nat.le_of_ble_eq_true rfl | (simp only [ab_rm, room_1]; omega), by first | exact Nat.le_of_ble_eq_true rfl | (simp only [ab_rm, room_1]; omega)⟩ ⟨by first | exact Nat.le_of_ble_eq_true rfl | (simp only [ab_rm, room_1]; omega), by first | exact Nat.le_of_ble_eq_true rfl | (simp only [ab_rm, room_1]; omega)⟩ (Nat.le_of_ble_eq_true rfl) (fun u489 r489 h489 => ?_)
          rcases h489 with ⟨g2, ⟨-, t0, k33, y0, rfl⟩ | ⟨z, -⟩⟩
          · have v1 : oV u u489 := ⟨hM.oP g2 (by decide), ⟨g2.fi (by decide) rfl, fun _ => g2.ai (by decide) rfl⟩, k33⟩
            refine ab_istore6 X 0 1 2 3 4 5 d_LW_law_492 (by decide) rfl rfl rfl rfl rfl rfl rfl rfl rfl rfl rfl rfl ?_
            refine ab_goto X 510 d_LW_law_494 rfl ?_
            refine ab_lv (List.forall_mem_cons.mpr ⟨List.mem_of_getElem? (i := 2) rfl, List.forall_mem_cons.mpr ⟨List.mem_of_getElem? (i := 3) rfl, List.forall_mem_cons.mpr ⟨List.mem_of_getElem? (i := 4) rfl, List.forall_mem_cons.mpr ⟨List.mem_of_getElem? (i := 5) rfl, List.forall_mem_cons.mpr ⟨List.mem_of_getElem? (i := 6) rfl, fun _ h => absurd h List.not_mem_nil⟩⟩⟩⟩⟩) ?_
            exact next _ _ _ (by omega) (by omega) (hL.o v1)
          · rw [h4] at z; exact absurd z (by decide)
        · rw [hpn] at g1; cases g1
      · obtain ⟨A1, A2, A3, A4⟩ := Wd_all W F
        have G0 : rg u 0 (Wd kd ar cn ch Y 0 0) := ((MX 0 (Nat.le_refl _) W.1).2 0 (by decide)).2
        refine ab_aload_n X 3 d_LW_law_457 rfl rfl ?_
        refine ab_aload_n X 4 d_LW_law_458 rfl rfl ?_
        refine ab_iload X 0 d_LW_law_459 rfl ?_
        refine ab_iconst (v := 1) X d_LW_law_461 (by decide) ?_
        refine ab_iadd X d_LW_law_462 ?_
        refine ab_sld X hX hbl hbA (i0 + 1) d_LW_law_463 (nI_add i0 1) (by omega) (by omega) ?_
        refine ab_aload_n X 4 d_LW_law_464 rfl rfl ?_
        refine ab_iload X 0 d_LW_law_465 rfl ?_
        refine ab_iconst (v := 2) X d_LW_law_467 (by decide) ?_
        refine ab_iadd X d_LW_law_468 ?_
        refine ab_sld X hX hbl hbA (i0 + 2) d_LW_law_469 (nI_add i0 2) (by omega) (by omega) ?_
        refine ab_aload_n X 1 d_LW_law_470 rfl rfl ?_
        refine ab_callSW (n := 4) (as := [ab_O 0 0, ab_I (xs (i0 + 1)), ab_I (xs (i0 + 2)), ab_O 20 0]) X (hZ) (h_LW_check hfl u (xs (i0 + 1)) (xs (i0 + 2)) xs0 x40 xb ec (fun k hk => (ei k hk).1) (Wd kd ar cn ch Y 0 0) (by omega) A2 SX.1 SX.2.1 (A4 _ _) (Or.inr hps) hC) lW_LW_89 ⟨by decide +kernel, by decide +kernel, by decide +kernel⟩ (by decide) d_LW_law_471 rfl rfl ⟨by first | exact Nat.le_of_ble_eq_true rfl | (simp only [ab_rm, room_1]; omega), by first | exact Nat.le_of_ble_eq_true rfl | (simp only [ab_rm, room_1]; omega)⟩ ⟨by first | exact Nat.le_of_ble_eq_true rfl | (simp only [ab_rm, room_1]; omega), by first | exact Nat.le_of_ble_eq_true rfl | (simp only [ab_rm, room_1]; omega)⟩ (Nat.le_of_ble_eq_true rfl) (fun u471 r471 h471 => ?_)
        rcases h471 with ⟨g1, -⟩ | ⟨-, w1, r4, r8, k5, o1, rfl⟩
        · rw [hps] at g1; cases g1
        · have hT1 := hL.1.h w1
          have GU : rg u471 0 (Wd kd ar cn ch Y 0 0) := G0.keep (w1.1.1.2.2.1 _ _) (fun _ _ _ => w1.1.1.2.2.1 _ _)
          refine ab_istore5 X 0 1 2 3 4 d_LW_law_474 (by decide) rfl rfl rfl rfl rfl rfl rfl rfl rfl rfl ?_
          refine ab_aload_n X 3 d_LW_law_476 rfl rfl ?_
          refine ab_aload_n X 5 d_LW_law_477 rfl rfl ?_
          refine ab_iload X 1 d_LW_law_478 rfl ?_
          refine ab_iconst (v := 1) X d_LW_law_480 (by decide) ?_
          refine ab_iadd X d_LW_law_481 ?_
          refine ab_sld X hX hbl hbA (i0 + 1) d_LW_law_482 (nI_add i0 1) (by omega) (by omega) ?_
          refine ab_aload_n X 5 d_LW_law_483 rfl rfl ?_
          refine ab_iload X 1 d_LW_law_484 rfl ?_
          refine ab_iconst (v := 2) X d_LW_law_486 (by decide) ?_
          refine ab_iadd X d_LW_law_487 ?_
          refine ab_sld X hX hbl hbA (i0 + 2) d_LW_law_488 (nI_add i0 2) (by omega) (by omega) ?_
          refine ab_callV (as := [ab_I (xs (i0 + 1)), ab_I (xs (i0 + 2))]) X (fun h => by cases h) (z_MO_check u471 (xs (i0 + 1)) (xs (i0 + 2)) xs0 x40 xb ((w1.1.1.2.1 _ _).trans em) (fun k hk => (w1.1.1.2.2.1 _ _).trans (ei k hk).2) (Wd kd ar cn ch Y 0 0) A1 A2 A3 (A4 _ _) hT1.2.1.1 (Or.inr ⟨(w1.1.1.2.1 _ _).trans h4, GU.1, fun i hi => by have := GU.2.2 i hi; rw [Nat.mul_zero, Nat.zero_add] at this; exact this⟩)) lk_LW_92 d_LW_law_489 rfl rfl (by first | assumption | decide) ⟨by first | exact Nat.le_of_ble_eq_true rfl | (simp only [ab_rm, room_1]; omega), by first | exact Nat.le_of_ble_eq_true rfl | (simp only [ab_rm, room_1]; omega)⟩ ⟨by first | exact Nat.le_of_ble_eq_true rfl | (simp only [ab_rm, room_1]; omega), by first | exact Nat.le_of_ble_eq_true rfl | (simp only [ab_rm, room_1]; omega)⟩ (Nat.le_of_ble_eq_true rfl) (fun u489 r489 h489 => ?_)
          rcases h489 with ⟨g2, ⟨z, -⟩ | ⟨-, t0, k33, rfl⟩⟩
          · rw [w1.1.1.2.1 _ _, h4] at z; exact absurd z (by decide)
          · have os := g2.oS
            have hw1 : wE u471 := hL.2.1.cong (r4 _) r8 (w1.1.1.2.1 _ _) (fun _ => w1.1.1.2.2.1 _ _)
            have hw2 : wE u489 := hw1.cong (os.2 _ _ _ (by decide) (by decide) (by decide)) (fun _ => os.2 _ _ _ (by decide) (by decide) (by decide)) (g2.fi (by decide) rfl) (fun _ => g2.ai (by decide) rfl)
            have hd2 : dE u489 := (os.2 _ _ _ (by decide) (by decide) (by decide)).trans (k5.trans k33.symm)
            have o2 : u489.2.2 20 0 0 = (rn (xs (i0 + 1)) (xs (i0 + 2)) (Wd kd ar cn ch Y 0 0).length ((Wd kd ar cn ch Y 0 0).length + 1) (Wd kd ar cn ch Y 0 0) xs0 [] 0).1.toInt64 := by rw [os.1]; exact o1
            refine ab_istore6 X 0 1 2 3 4 5 d_LW_law_492 (by decide) rfl rfl rfl rfl rfl rfl rfl rfl rfl rfl rfl rfl ?_
            refine ab_goto X 510 d_LW_law_494 rfl ?_
            refine ab_lv (List.forall_mem_cons.mpr ⟨List.mem_of_getElem? (i := 2) rfl, List.forall_mem_cons.mpr ⟨List.mem_of_getElem? (i := 3) rfl, List.forall_mem_cons.mpr ⟨List.mem_of_getElem? (i := 4) rfl, List.forall_mem_cons.mpr ⟨List.mem_of_getElem? (i := 5) rfl, List.forall_mem_cons.mpr ⟨List.mem_of_getElem? (i := 6) rfl, fun _ h => absurd h List.not_mem_nil⟩⟩⟩⟩⟩) ?_
            exact next _ _ _ (by omega) (by omega) ⟨hT1.o (hT1.2.1.oP g2 (by decide)), hw2, hd2⟩
    ·
      refine ab_tableIn X 497 d_LW_law_40 (by decide) (by decide) (off := 457) (by decide) (by decide) ?_
      refine ab_aload_n X 3 d_LW_law_497 rfl rfl ?_
      refine ab_callV (as := []) X (fun h => by cases h) (c_PF_done u (by decide) (by decide) hC.pf6) lk_LW_93 d_LW_law_498 rfl rfl (by first | assumption | decide) ⟨by first | exact Nat.le_of_ble_eq_true rfl | (simp only [ab_rm, room_1]; omega), by first | exact Nat.le_of_ble_eq_true rfl | (simp only [ab_rm, room_1]; omega)⟩ ⟨by first | exact Nat.le_of_ble_eq_true rfl | (simp only [ab_rm, room_1]; omega), by first | exact Nat.le_of_ble_eq_true rfl | (simp only [ab_rm, room_1]; omega)⟩ (Nat.le_of_ble_eq_true rfl) (fun u498 r498 h498 => ?_)
      obtain ⟨e498, rfl⟩ := h498
      subst u498
      refine ab_aload_n X 2 d_LW_law_501 rfl rfl ?_
      refine ab_callV (as := []) X (fun h => by cases h) (c_MO_done u (by decide)) lk_LW_96 d_LW_law_502 rfl rfl (by first | assumption | decide) ⟨by first | exact Nat.le_of_ble_eq_true rfl | (simp only [ab_rm, room_1]; omega), by first | exact Nat.le_of_ble_eq_true rfl | (simp only [ab_rm, room_1]; omega)⟩ ⟨by first | exact Nat.le_of_ble_eq_true rfl | (simp only [ab_rm, room_1]; omega), by first | exact Nat.le_of_ble_eq_true rfl | (simp only [ab_rm, room_1]; omega)⟩ (Nat.le_of_ble_eq_true rfl) (fun u502 r502 h502 => ?_)
      obtain ⟨e502, rfl⟩ := h502
      have v1 : oV u u502 := by rw [e502]; exact hM.oV (F := [0]) ((gP.rf hM.1).ui rfl trivial) (by decide) (by decide) (by decide)
      refine ab_icmp_eq X 510 d_LW_law_505 rfl (fun _ => ?_) (fun hb => absurd (hL.2.2) hb)
      exact next _ _ _ (by omega) (by omega) (hL.o v1)
    · refine ab_tableOut X 510 d_LW_law_40 (by decide) (by decide) ?_
      exact next _ _ _ (by omega) (by omega) hL
    · refine ab_tableOut X 510 d_LW_law_40 (by decide) (by decide) ?_
      exact next _ _ _ (by omega) (by omega) hL
    · refine ab_tableOut X 510 d_LW_law_40 (by decide) (by decide) ?_
      exact next _ _ _ (by omega) (by omega) hL
    · refine ab_tableOut X 510 d_LW_law_40 (by decide) (by decide) ?_
      exact next _ _ _ (by omega) (by omega) hL
end AbLaw

