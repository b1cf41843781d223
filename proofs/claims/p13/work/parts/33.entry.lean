/-! What stands at the law's entry. -/
theorem en_arr {s : State} {args : Array Value} {ty : FieldType} (hp : ty = .int ∨ ty = .boolean ∨ ty = .long) (h : (Cond.arrayClass ty).before args s = true) : ∃ cA : ClassId, ArrOfT s cA ty ∧ va_RA s cA ty := by
  obtain ⟨cA, kA, comp, h1, h2, h3⟩ := Cond.arrayClass_spec h
  refine ⟨cA, fun n z => ⟨fun k h => (by cases h), kA, h2, comp, h3⟩, ?_⟩
  rcases hp with rfl | rfl | rfl <;> exact h1
theorem en_arrO {s : State} {args : Array Value} {C : String} (h : (Cond.arrayOver (.object C)).before args s = true) : ∃ cA : ClassId, ArrOfT s cA (.object C) ∧ va_RA s cA (.object C) := by
  obtain ⟨comp, cA, kA, h1, -, h2, h3, h4⟩ := Cond.arrayOver_spec h
  exact ⟨cA, fun n z => ⟨fun k h => (by cases h), kA, h2, comp, h3⟩, kA, comp, h2, h3, h1, h4⟩
theorem en_K {s : State} {args : Array Value} (hts : ∀ w ∈ lw_tbl, w.before args s = true) : ∃ (D : va_G) (ca : Nat → ClassId), va_K D vwCl (ab_tys ca) s := by
  have ht : ∀ w ∈ ab_T, w.before args s = true := fun w h => hts w (List.mem_filter.mp h).1
  obtain ⟨c0, i0, k0⟩ := u_known (C := R_PF) (T := T_PF) (N := 8) (n := 8) ht uw_PF (hts _ (List.mem_of_getElem? (i := 115) (by decide +kernel)))
  obtain ⟨c1, i1, k1⟩ := u_known (C := R_RD) (T := T_RD) (N := 8) (n := 8) ht uw_RD (hts _ (List.mem_of_getElem? (i := 123) (by decide +kernel)))
  obtain ⟨c2, i2, k2⟩ := u_known (C := R_PT) (T := T_PT) (N := 8) (n := 8) ht uw_PT (hts _ (List.mem_of_getElem? (i := 130) (by decide +kernel)))
  obtain ⟨c3, i3, k3⟩ := u_known (C := R_FM) (T := T_FM) (N := 10) (n := 10) ht uw_FM (hts _ (List.mem_of_getElem? (i := 137) (by decide +kernel)))
  obtain ⟨c4, i4, k4⟩ := u_known (C := R_RW) (T := T_RW) (N := 4) (n := 4) ht uw_RW (hts _ (List.mem_of_getElem? (i := 145) (by decide +kernel)))
  obtain ⟨c5, i5, k5⟩ := u_known (C := R_SC) (T := T_SC) (N := 4) (n := 4) ht uw_SC (hts _ (List.mem_of_getElem? (i := 278) (by decide +kernel)))
  obtain ⟨c6, i6, k6⟩ := u_known (C := R_FA) (T := T_FA) (N := 4) (n := 4) ht uw_FA (hts _ (List.mem_of_getElem? (i := 304) (by decide +kernel)))
  obtain ⟨c7, i7, k7⟩ := u_known (C := R_MA) (T := T_MA) (N := 7) (n := 7) ht uw_MA (hts _ (List.mem_of_getElem? (i := 323) (by decide +kernel)))
  obtain ⟨c8, i8, k8⟩ := u_known (C := R_MO) (T := T_MO) (N := 44) (n := 44) ht uw_MO (hts _ (List.mem_of_getElem? (i := 921) (by decide +kernel)))
  obtain ⟨a0, m0⟩ := en_arr (ty := .int) (by simp) (hts _ (List.mem_of_getElem? (i := 171) (by decide +kernel)))
  obtain ⟨a1, m1⟩ := en_arr (ty := .boolean) (by simp) (hts _ (List.mem_of_getElem? (i := 1059) (by decide +kernel)))
  obtain ⟨a2, m2⟩ := en_arr (ty := .long) (by simp) (hts _ (List.mem_of_getElem? (i := 1321) (by decide +kernel)))
  obtain ⟨a3, m3⟩ := en_arrO (C := R_FM) (hts _ (List.mem_of_getElem? (i := 143) (by decide +kernel)))
  obtain ⟨a4, m4⟩ := en_arrO (C := R_PT) (hts _ (List.mem_of_getElem? (i := 129) (by decide +kernel)))
  refine ⟨(fun k => ([c0, c1, c2, c3, c4, c5, c6, c7, c8] : List ClassId).getD k c0, fun k => ([i0, i1, i2, i3, i4, i5, i6, i7, i8] : List (Nat → Nat)).getD k i0), fun k => ([a0, a1, a2, a3, a4] : List ClassId).getD k a0, fun c q hq => ?_, fun k q hq => ?_⟩
  · have hl : c < 9 := (List.getElem?_eq_some_iff.mp hq).1
    have h' : c = 0 ∨ c = 1 ∨ c = 2 ∨ c = 3 ∨ c = 4 ∨ c = 5 ∨ c = 6 ∨ c = 7 ∨ c = 8 := by omega
    rcases h' with rfl | rfl | rfl | rfl | rfl | rfl | rfl | rfl | rfl
    · obtain rfl := Option.some.inj (show some (R_PF, T_PF, 8) = some q from hq); exact k0
    · obtain rfl := Option.some.inj (show some (R_RD, T_RD, 8) = some q from hq); exact k1
    · obtain rfl := Option.some.inj (show some (R_PT, T_PT, 8) = some q from hq); exact k2
    · obtain rfl := Option.some.inj (show some (R_FM, T_FM, 10) = some q from hq); exact k3
    · obtain rfl := Option.some.inj (show some (R_RW, T_RW, 4) = some q from hq); exact k4
    · obtain rfl := Option.some.inj (show some (R_SC, T_SC, 4) = some q from hq); exact k5
    · obtain rfl := Option.some.inj (show some (R_FA, T_FA, 4) = some q from hq); exact k6
    · obtain rfl := Option.some.inj (show some (R_MA, T_MA, 7) = some q from hq); exact k7
    · obtain rfl := Option.some.inj (show some (R_MO, T_MO, 44) = some q from hq); exact k8
  · have hl : k < 5 := (List.getElem?_eq_some_iff.mp hq).1
    have h' : k = 0 ∨ k = 1 ∨ k = 2 ∨ k = 3 ∨ k = 4 := by omega
    rcases h' with rfl | rfl | rfl | rfl | rfl
    · obtain rfl := Option.some.inj (show some (a0, .int) = some q from hq); exact m0
    · obtain rfl := Option.some.inj (show some (a1, .boolean) = some q from hq); exact m1
    · obtain rfl := Option.some.inj (show some (a2, .long) = some q from hq); exact m2
    · obtain rfl := Option.some.inj (show some (a3, .object R_FM) = some q from hq); exact m3
    · obtain rfl := Option.some.inj (show some (a4, .object R_PT) = some q from hq); exact m4
theorem en_LS {s : State} {args : Array Value} {A : Nat → Prop} {C n d : String} (h : (Cond.laysStatic C n d).before args s = true) (hA : ∀ a : Nat, a < s.heap.size → ¬ A a) : ab_LS C n d A s s.heap := by
  obtain ⟨c, k, i, f, a, cell, hc, hi, hst, ha, hcell, hs, hcls, hlt, hty⟩ := Cond.laysStatic_spec h
  exact ⟨c, k, i, f, a, cell, hc, hi, hst, ha, hcell, hs, hcls, hlt, hty, hA a (Array.getElem?_eq_some_iff.mp hcell).1⟩
theorem en_Nw {s : State} {args : Array Value} (hts : ∀ w ∈ lw_tbl, w.before args s = true) : ab_Nw s := fun w hw => by
  have h1 := hts w (List.mem_filter.mp hw).1
  have h2 := (List.mem_filter.mp hw).2
  cases w with
  | methodLinkNest a i y host => exact va_Nw.of rfl h1
  | fieldLinkNest a i b n d hh => exact va_Nw.of rfl h1
  | castable a b => exact va_Nw.of rfl h1
  | declares x => exact va_Nw.of rfl h1
  | arrayOver t =>
    cases t with
    | object C => exact va_AO.of h1
    | _ => cases h2
  | _ => cases h2
def en_t (i : Nat) : Term := .string "PolicyForge$Reader" (93 + 2 * i)
theorem en_7 {i : Nat} (h : i < 7) : i = 0 ∨ i = 1 ∨ i = 2 ∨ i = 3 ∨ i = 4 ∨ i = 5 ∨ i = 6 := by omega
theorem en_S {s : State} {args : Array Value} {A : Nat → Prop} (hg : (Jvm.Cond.and given_1 narrow_1).before args s = true) (hA : ∀ a : Nat, a < s.heap.size → ¬ A a) : ∃ adK adV : Nat → Nat, vk_S 7 ab_sl ab_sb adK adV A s s.heap ∧ ∀ i : Nat, i < 7 → (en_t i).eval args s none [] s = some (.ref (adK i)) := by
  have hs := flat_of_before _ hg
  refine vk_Sof (tm := en_t) (fun i hi => ab_sl_lt hi) (fun i hi => ?_) (fun i hi => ?_) (fun i hi => ?_) (fun i hi => ?_) (fun i hi j hj => ?_) (fun i j hi hj hij => ?_) hA
  · rcases en_7 hi with rfl | rfl | rfl | rfl | rfl | rfl | rfl <;> exact hs _ (by decide +kernel)
  · rcases en_7 hi with rfl | rfl | rfl | rfl | rfl | rfl | rfl <;> exact hs _ (by decide +kernel)
  · rcases en_7 hi with rfl | rfl | rfl | rfl | rfl | rfl | rfl <;> exact hs _ (by decide +kernel)
  · rcases en_7 hi with rfl | rfl | rfl | rfl | rfl | rfl | rfl <;> exact hs _ (by decide +kernel)
  · have hj6 : j = 0 ∨ j = 1 ∨ j = 2 ∨ j = 3 ∨ j = 4 ∨ j = 5 := by
      have : ab_sl.getD i 0 ≤ 6 := by rcases en_7 hi with rfl | rfl | rfl | rfl | rfl | rfl | rfl <;> decide
      omega
    rcases en_7 hi with rfl | rfl | rfl | rfl | rfl | rfl | rfl <;> rcases hj6 with rfl | rfl | rfl | rfl | rfl | rfl <;> first | exact absurd hj (by decide) | exact hs _ (by decide +kernel)
  · rcases Nat.lt_or_gt_of_ne hij with h | h
    · refine Or.inl ?_
      rcases en_7 hi with rfl | rfl | rfl | rfl | rfl | rfl | rfl <;> rcases en_7 hj with rfl | rfl | rfl | rfl | rfl | rfl | rfl <;> first | exact absurd h (by decide) | exact hs _ (by decide +kernel)
    · refine Or.inr ?_
      rcases en_7 hi with rfl | rfl | rfl | rfl | rfl | rfl | rfl <;> rcases en_7 hj with rfl | rfl | rfl | rfl | rfl | rfl | rfl <;> first | exact absurd h (by decide) | exact hs _ (by decide +kernel)
set_option maxHeartbeats 1000000 in
theorem en_Z {s : State} {args : Array Value} {A : Nat → Prop} (b : Nat) (hts : ∀ w ∈ lw_tbl, w.before args s = true) (hg : (Jvm.Cond.and given_1 narrow_1).before args s = true) (hA : ∀ a : Nat, a < s.heap.size → ¬ A a) : ∃ ad : ab_Ad, ad 23 0 = b ∧ ab_Zs ad A s s.heap := by
  have hs := flat_of_before _ hg
  obtain ⟨adK, adV, hK, he⟩ := en_S hg hA
  obtain ⟨t, ht, hT⟩ := va_Tof (tm := .static "PolicyForge" "KINDS" "[I") (ty := .int) (N := 7) (f := fun j => .int (ab_kinds j)) (A := A) (by decide) (hs _ (by decide +kernel)) (va_eqt (z := 7) (hs _ (by decide +kernel))) (fun j hj => by
    rcases en_7 hj with rfl | rfl | rfl | rfl | rfl | rfl | rfl <;> exact va_eqt (hs _ (by decide +kernel))) hA
  refine ⟨fun c i => if c = 21 then t else if c = 22 then adK i else if c = 24 then adV i else b, rfl, ?_⟩
  refine ⟨va_Zqof (hts _ (List.mem_of_getElem? (i := 561) (by decide +kernel))) (hts _ (List.mem_of_getElem? (i := 106) (by decide +kernel))) (hs _ (by decide +kernel)) hA, va_Zqof (hts _ (List.mem_of_getElem? (i := 563) (by decide +kernel))) (hts _ (List.mem_of_getElem? (i := 106) (by decide +kernel))) (hs _ (by decide +kernel)) hA, va_Zof (hts _ (List.mem_of_getElem? (i := 429) (by decide +kernel))) (hts _ (List.mem_of_getElem? (i := 92) (by decide +kernel))) ht hA, hT, en_LS (hts _ (List.mem_of_getElem? (i := 561) (by decide +kernel))) hA, en_LS (hts _ (List.mem_of_getElem? (i := 563) (by decide +kernel))) hA, hK, va_Zof (hts _ (List.mem_of_getElem? (i := 453) (by decide +kernel))) (hts _ (List.mem_of_getElem? (i := 101) (by decide +kernel))) (va_eqt (hs _ (by decide +kernel))) hA, va_Zqof (hts _ (List.mem_of_getElem? (i := 469) (by decide +kernel))) (hts _ (List.mem_of_getElem? (i := 103) (by decide +kernel))) (hs _ (by decide +kernel)) hA, fun i hi => ?_, ab_nc.of (hs _ (by decide +kernel)), ab_nc.of (hs _ (by decide +kernel))⟩
  refine vk_R.of (A := args) ?_ (he i hi)
  rcases en_7 hi with rfl | rfl | rfl | rfl | rfl | rfl | rfl
  · exact (hts _ (List.mem_of_getElem? (i := 433) (by decide +kernel)))
  · exact (hts _ (List.mem_of_getElem? (i := 434) (by decide +kernel)))
  · exact (hts _ (List.mem_of_getElem? (i := 435) (by decide +kernel)))
  · exact (hts _ (List.mem_of_getElem? (i := 436) (by decide +kernel)))
  · exact (hts _ (List.mem_of_getElem? (i := 437) (by decide +kernel)))
  · exact (hts _ (List.mem_of_getElem? (i := 438) (by decide +kernel)))
  · exact (hts _ (List.mem_of_getElem? (i := 439) (by decide +kernel)))
theorem ab_Zs.ex {N : Nat → Nat} {ad ad' : ab_Ad} {A : Nat → Prop} {U : State} {H : Heap} (hx : ab_ex N ad ad') (h : ab_Zs ad A U H) : ab_Zs ad' A U H := by
  have e1 : ad' 21 0 = ad 21 0 := hx 21 0 (Or.inr (by decide))
  have e2 : ad' 22 = ad 22 := funext fun i => hx 22 i (Or.inr (by decide))
  have e3 : ad' 24 = ad 24 := funext fun i => hx 24 i (Or.inr (by decide))
  unfold ab_Zs ab_Ss at h ⊢
  rw [e1, e2, e3]
  exact h

