/-! How long and how heavy forms are. -/
theorem rul_r (w : Nat) : 1 ≤ rul w ∧ rul w ≤ 8 := by
  unfold rul
  repeat' split
  all_goals decide
theorem tG_4 {kd ar cn : Nat → Nat} {ch G : Nat → Nat → Nat} {R : Nat → List Nat} {p w : Nat} (h : rul w = 4) : tG kd ar cn ch G R p w = gm (cnu (kd p) (ar p)) (sel (fun i => G (cp ch w p i) (cj cn w p i)) (fun i => (R (cp ch w p i)).length) (ct cn w p)) (2 ^ ct cn w p) := by
  unfold tG gwm
  rw [if_neg (by omega), if_pos h]
theorem tG_5 {kd ar cn : Nat → Nat} {ch G : Nat → Nat → Nat} {R : Nat → List Nat} {p w : Nat} (h : rul w = 5) : tG kd ar cn ch G R p w = 1 + max (G (cp ch w p 0) (cj cn w p 0)) (G (cp ch w p 1) (cj cn w p 1)) := by
  unfold tG gwm
  rw [if_neg (by omega), if_neg (by omega), if_pos h]
theorem tG_6 {kd ar cn : Nat → Nat} {ch G : Nat → Nat → Nat} {R : Nat → List Nat} {p w : Nat} (h : rul w = 6) : tG kd ar cn ch G R p w = 1 + G (cp ch w p 0) (cj cn w p 0) := by
  unfold tG gwm
  rw [if_neg (by omega), if_neg (by omega), if_neg (by omega), if_pos h]
theorem tG_78 {kd ar cn : Nat → Nat} {ch G : Nat → Nat → Nat} {R : Nat → List Nat} {p w : Nat} (h : rul w = 7 ∨ rul w = 8) : tG kd ar cn ch G R p w = max (G (cp ch w p 0) (cj cn w p 0)) ((R (cp ch w p 0)).length + G (cp ch w p 1) (cj cn w p 1)) := by
  unfold tG gwm
  rw [if_neg (by omega), if_neg (by omega), if_neg (by omega), if_neg (by omega), if_pos h]
theorem tG_23 {kd ar cn : Nat → Nat} {ch G : Nat → Nat → Nat} {R : Nat → List Nat} {p w : Nat} (h : rul w = 2 ∨ rul w = 3) : tG kd ar cn ch G R p w = sm (fun i => G (cp ch w p i) (cj cn w p i)) (ct cn w p) := by
  unfold tG gwm
  rw [if_neg (by omega), if_neg (by omega), if_neg (by omega), if_neg (by omega), if_neg (by omega)]
section XB
variable {M : Nat} {kd ar cn lf : Nat → Nat} {ch : Nat → Nat → Nat} {X : Nat → Nat → Nat × Nat × Nat} {R : Nat → List Nat} {p j w : Nat}
theorem xF.way (F : xF kd ar cn ch X R p) (W : tW M kd ar cn lf ch) (hp : p < M) (hj : j < 3) : (X p j).1 ∈ wys (kd p) (ar p) (cn p) j ∧ wok (kd p) (ar p) (cn p) j (X p j).1 ∧ (X p j).2.1 = tL cn ch (xL X) p (X p j).1 ∧ (X p j).2.2 = tG kd ar cn ch (xG X) R p (X p j).1 ∧ ∀ w, w ∈ wys (kd p) (ar p) (cn p) j → (X p j).2.1 ≤ tL cn ch (xL X) p w := by
  obtain ⟨t, e1, e2, e3, -⟩ := pks_some (F := tL cn ch (xL X) p) (H := tG kd ar cn ch (xG X) R p) (wys (kd p) (ar p) (cn p) j) none (Or.inl (wys_ne _ _ _ _))
  rw [← F.1 j hj] at e1
  have e1 : X p j = t := by cases e1; rfl
  rw [e1]
  rcases e2 with e2 | ⟨w, hw, e2⟩
  · cases e2
  · rw [e2] at e3 ⊢
    exact ⟨hw, wys_ok (W.k17 hp) hj hw, rfl, rfl, e3⟩
theorem tL_pos {L : Nat → Nat → Nat} (h : ∀ i, i < ct cn w p → 1 ≤ L (cp ch w p i) (cj cn w p i)) (h0 : ct cn w p = 0 → rul w = 1) : 1 ≤ tL cn ch L p w := by
  unfold tL cwm
  by_cases z : ct cn w p = 0
  · rw [if_pos (h0 z)]; exact Nat.le_refl _
  · have := sm_one (a := fun i => L (cp ch w p i) (cj cn w p i)) (ct cn w p) (by omega) h
    repeat' split
    all_goals omega
theorem tL_8 {L : Nat → Nat → Nat} : tL cn ch L p 8 = L p 0 + 4 := by
  show 0 + L p 0 + 4 = _
  omega
theorem tL_24 {L : Nat → Nat → Nat} : tL cn ch L p 24 = L p 0 + 1 := by
  show 0 + L p 0 + 1 = _
  omega
theorem tL_asd {L : Nat → Nat → Nat} (h : w = 2 ∨ w = 3 ∨ w = 7) : tL cn ch L p w = sm (fun i => L (ch p i) 1) (cn p) + 3 * (cn p - 1) + (if w = 7 then 1 else 0) := by
  rcases h with rfl | rfl | rfl <;> rfl
theorem tL_lf {L : Nat → Nat → Nat} (h : w = 1 ∨ w = 11 ∨ w = 12) : tL cn ch L p w = 1 := by
  rcases h with rfl | rfl | rfl <;> rfl
theorem tG_8 {G : Nat → Nat → Nat} : tG kd ar cn ch G R p 8 = 1 + G p 0 := rfl
theorem tG_24 {G : Nat → Nat → Nat} : tG kd ar cn ch G R p 24 = G p 0 := Nat.zero_add _
theorem tG_le (W : tW M kd ar cn lf ch) (hp : p < M) (hw : wok (kd p) (ar p) (cn p) j w) {G : Nat → Nat → Nat} (IH : ∀ c, p < c → c < M → ∀ j, j < 3 → G c j + 2 ≤ 12 * lf c ∧ (R c).length + 2 ≤ 12 * lf c) (own : 0 < j → G p 0 + 3 ≤ 12 * lf p) : tG kd ar cn ch G R p w + 3 ≤ 12 * lf p + (if j = 0 then 0 else 1) := by
  have l1 := (W.2.2 p hp).1.1
  by_cases h8 : w = 8 ∨ w = 24
  · have j0 : 0 < j := by unfold wok at hw; omega
    have o := own j0
    rw [if_neg (show ¬ j = 0 by omega)]
    rcases h8 with rfl | rfl
    · rw [tG_8]; omega
    · rw [tG_24]; omega
  · have hS : sm (fun i => max (G (cp ch w p i) (cj cn w p i)) (R (cp ch w p i)).length) (ct cn w p) + 2 * ct cn w p ≤ 12 * lf p := by
      have z := sm_lnn (a := fun i => max (G (cp ch w p i) (cj cn w p i)) (R (cp ch w p i)).length) (g := fun i => lf (cp ch w p i)) (k := 12) (r := 2) (ct cn w p) (fun i hi => by
        rcases cp_in W hp hw hi with ⟨e, -⟩ | ⟨-, e1, e2⟩
        · exact absurd e h8
        · have := IH _ e1 e2 _ (cj_lt cn w p i)
          show max (G (cp ch w p i) (cj cn w p i)) (R (cp ch w p i)).length + 2 ≤ 12 * lf (cp ch w p i)
          omega)
      have z2 := sm_cp W hp hw h8
      omega
    have fin : ∀ v, v ≤ 9 ∨ (2 ≤ ct cn w p ∧ v ≤ 1 + sm (fun i => max (G (cp ch w p i) (cj cn w p i)) (R (cp ch w p i)).length) (ct cn w p)) → v + 3 ≤ 12 * lf p + (if j = 0 then 0 else 1) := by
      intro v hv
      omega
    refine fin _ ?_
    rcases ct_cn W hp hw h8 with ⟨-, e, -⟩ | ⟨e, n2, k5⟩
    · refine Or.inl ?_
      unfold tG gwm
      rw [if_pos e]
      repeat' split
      all_goals omega
    · by_cases z1 : rul w = 1
      · refine Or.inl ?_
        unfold tG gwm
        rw [if_pos z1]
        repeat' split
        all_goals omega
      refine Or.inr ⟨by omega, ?_⟩
      have two : ct cn w p = 2 → sm (fun i => max (G (cp ch w p i) (cj cn w p i)) (R (cp ch w p i)).length) (ct cn w p) = 0 + max (G (cp ch w p 0) (cj cn w p 0)) (R (cp ch w p 0)).length + max (G (cp ch w p 1) (cj cn w p 1)) (R (cp ch w p 1)).length := fun z => by rw [z]; rfl
      by_cases z4 : rul w = 4
      · rw [tG_4 z4]
        exact Nat.le_trans (gm_le _ (fun c _ _ => sel_le)) (by omega)
      by_cases z5 : rul w = 5
      · rw [tG_5 z5, two (ct_2 (Or.inl z5))]
        omega
      by_cases z6 : rul w = 6
      · have := ct_1 (cn := cn) (p := p) z6
        omega
      by_cases z7 : rul w = 7 ∨ rul w = 8
      · rw [tG_78 z7, two (ct_2 (Or.inr z7))]
        omega
      have rr := rul_r w
      rw [tG_23 (by omega)]
      exact Nat.le_trans (sm_le (C := fun i => max (G (cp ch w p i) (cj cn w p i)) (R (cp ch w p i)).length) _ (fun i _ => Nat.le_max_left _ _)) (by omega)
def xB (lf : Nat → Nat) (X : Nat → Nat → Nat × Nat × Nat) (R : Nat → List Nat) (q : Nat) : Prop := (∀ j, j < 3 → 1 ≤ (X q j).2.1 ∧ (X q j).2.1 ≤ 9 * lf q - 4 + (if j = 2 then 1 else 0) ∧ (X q j).2.2 + 3 ≤ 12 * lf q + (if j = 0 then 0 else 1)) ∧ (R q).length + 1 ≤ 2 * lf q ∧ (R q).length ≤ (X q 1).2.2 ∧ ∀ x, x ∈ R q → x = 0 ∨ x = 1
theorem xf_b (W : tW M kd ar cn lf ch) (F : ∀ q, q < M → xF kd ar cn ch X R q) : ∀ (k q : Nat), q + k = M → q < M → xB lf X R q := by
  intro k
  induction k using Nat.strongRecOn with
  | ind k ih =>
    intro q hk hq
    obtain ⟨⟨l1, l2, k1, k7, r9⟩, kl, kb⟩ := W.2.2 q hq
    have IH : ∀ c, q < c → c < M → xB lf X R c := fun c a b => ih (M - c) (by omega) c (by omega) b
    have IL : ∀ c, q < c → c < M → 1 ≤ lf c := fun c _ b => (W.2.2 c b).1.1
    have IG : ∀ c, q < c → c < M → ∀ j, j < 3 → (X c j).2.2 + 2 ≤ 12 * lf c ∧ (R c).length + 2 ≤ 12 * lf c := fun c a b j hj => by
      have z := (IH c a b).1 j hj
      have y := (IH c a b).2.1
      have x := IL c a b
      have : (if j = 0 then 0 else 1) ≤ 1 := by split <;> decide
      omega
    have asd : 5 ≤ kd q → ∀ w, w = 2 ∨ w = 3 ∨ w = 7 → tL cn ch (xL X) q w ≤ 9 * lf q - 4 := by
      intro k5 w hw
      obtain ⟨n2, n4, n5, n7, b5, b6⟩ := kb k5
      have z := sm_lnn (a := fun i => (X (ch q i) 1).2.1) (g := fun i => lf (ch q i)) (k := 9) (r := 4) (cn q) (fun i hi => by
        have a := ((IH _ (b5 i hi).1 (b5 i hi).2).1 1 (by decide)).2.1
        have b := IL _ (b5 i hi).1 (b5 i hi).2
        rw [if_neg (by decide)] at a
        show (X (ch q i) 1).2.1 + 4 ≤ 9 * lf (ch q i)
        omega)
      rw [tL_asd hw]
      have e : (if w = 7 then 1 else 0) ≤ 1 := by split <;> decide
      have z : sm (fun i => xL X (ch q i) 1) (cn q) + 4 * cn q ≤ 9 * sm (fun i => lf (ch q i)) (cn q) := z
      omega
    have pos : ∀ j, j < 3 → (0 < j → 1 ≤ (X q 0).2.1) → 1 ≤ (X q j).2.1 := by
      intro j hj h0
      obtain ⟨-, hw, e, -⟩ := (F q hq).way W hq hj
      rw [e]
      refine tL_pos (fun i hi => ?_) (fun z => ?_)
      · rcases cp_in W hq hw hi with ⟨-, e1, e2, e3, -⟩ | ⟨-, e1, e2⟩
        · rw [e1, e2]; exact h0 e3
        · exact ((IH _ e1 e2).1 _ (cj_lt _ _ _ _)).1
      · by_cases h8 : (X q j).1 = 8 ∨ (X q j).1 = 24
        · rcases h8 with h8 | h8 <;> rw [h8] at z <;> exact absurd (show (1 : Nat) = 0 from z) (by decide)
        · rcases ct_cn W hq hw h8 with ⟨-, e, -⟩ | ⟨e, e2, -⟩
          · exact e
          · omega
    have wgt : ∀ j, j < 3 → (0 < j → (X q 0).2.2 + 3 ≤ 12 * lf q) → (X q j).2.2 + 3 ≤ 12 * lf q + (if j = 0 then 0 else 1) := by
      intro j hj h0
      obtain ⟨-, hw, -, e, -⟩ := (F q hq).way W hq hj
      rw [e]
      exact tG_le W hq hw IG h0
    have p0 := pos 0 (by decide) (fun z => absurd z (by decide))
    have g0 := wgt 0 (by decide) (fun z => absurd z (by decide))
    rw [if_pos rfl] at g0
    have lo : ∀ j, j < 3 → ∀ w, w ∈ wys (kd q) (ar q) (cn q) j → (X q j).2.1 ≤ tL cn ch (xL X) q w := fun j hj => ((F q hq).way W hq hj).2.2.2.2
    have b0 : (X q 0).2.1 ≤ 9 * lf q - 4 ∧ (kd q < 5 → (X q 0).2.1 = 1) := by
      by_cases k5 : kd q < 5
      · have e : (X q 0).2.1 ≤ 1 := by
          have c : kd q = 1 ∨ kd q = 2 ∨ kd q = 3 ∨ kd q = 4 := by omega
          rcases c with c | c | c | c
          · exact lo 0 (by decide) 1 (by rw [c]; exact List.mem_cons_self)
          · exact lo 0 (by decide) 11 (by rw [c]; exact List.mem_cons_self)
          · exact lo 0 (by decide) 12 (by rw [c]; exact List.mem_cons_self)
          · exact lo 0 (by decide) 12 (by rw [c]; exact List.mem_cons_self)
        omega
      · refine ⟨?_, fun z => absurd z k5⟩
        have c : kd q = 5 ∨ kd q = 6 ∨ kd q = 7 := by omega
        rcases c with c | c | c
        · exact Nat.le_trans (lo 0 (by decide) 2 (by rw [c]; exact List.mem_cons_of_mem _ (List.mem_cons_of_mem _ List.mem_cons_self))) (asd (by omega) 2 (by omega))
        · exact Nat.le_trans (lo 0 (by decide) 3 (by rw [c]; exact List.mem_cons_of_mem _ (List.mem_cons_of_mem _ (List.mem_cons_of_mem _ List.mem_cons_self)))) (asd (by omega) 3 (by omega))
        · refine Nat.le_trans (lo 0 (by decide) 7 ?_) (asd (by omega) 7 (by omega))
          rw [c]
          show 7 ∈ (if ar q = cn q then [18, 7] else [7])
          split
          · exact List.mem_cons_of_mem _ List.mem_cons_self
          · exact List.mem_cons_self
    have b1 : (X q 1).2.1 ≤ 9 * lf q - 4 := by
      by_cases k5 : kd q < 5
      · by_cases c : kd q = 1
        · have := lo 1 (by decide) 1 (by rw [c]; exact List.mem_cons_self)
          rw [tL_lf (Or.inl rfl)] at this
          omega
        · have := lo 1 (by decide) 8 (by
            show 8 ∈ (if kd q = 1 then [1, 8] else if kd q < 5 then [8] else if kd q = 5 then [2, 8] else if kd q = 6 then [3, 4, 5, 6, 8] else [7, 8])
            rw [if_neg c, if_pos k5]
            exact List.mem_cons_self)
          rw [tL_8] at this
          have e := b0.2 k5
          have : (X q 1).2.1 ≤ (X q 0).2.1 + 4 := this
          omega
      · have c : kd q = 5 ∨ kd q = 6 ∨ kd q = 7 := by omega
        rcases c with c | c | c
        · exact Nat.le_trans (lo 1 (by decide) 2 (by rw [c]; exact List.mem_cons_self)) (asd (by omega) 2 (by omega))
        · exact Nat.le_trans (lo 1 (by decide) 3 (by rw [c]; exact List.mem_cons_self)) (asd (by omega) 3 (by omega))
        · exact Nat.le_trans (lo 1 (by decide) 7 (by rw [c]; exact List.mem_cons_self)) (asd (by omega) 7 (by omega))
    have b2 : (X q 2).2.1 ≤ 9 * lf q - 4 + 1 := by
      have := lo 2 (by decide) 24 (by
        show 24 ∈ (if kd q = 5 then [21, 24] else if kd q = 6 then [22, 23, 24] else [24])
        repeat' split
        · exact List.mem_cons_of_mem _ List.mem_cons_self
        · exact List.mem_cons_of_mem _ (List.mem_cons_of_mem _ List.mem_cons_self)
        · exact List.mem_cons_self)
      rw [tL_24] at this
      have : (X q 2).2.1 ≤ (X q 0).2.1 + 1 := this
      have := b0.1
      omega
    obtain ⟨-, hw, -, eG, -⟩ := (F q hq).way W hq (j := 1) (by decide)
    have eR := (F q hq).2
    have rr : (R q).length + 1 ≤ 2 * lf q ∧ (R q).length ≤ (X q 1).2.2 ∧ ∀ x, x ∈ R q → x = 0 ∨ x = 1 := by
      rw [eR, eG]
      by_cases h1 : (X q 1).1 = 1 ∨ (X q 1).1 = 8
      · have e : rfS cn ch R q (X q 1).1 = [0] := if_pos h1
        rw [e]
        refine ⟨by show 1 + 1 ≤ _; omega, ?_, fun x hx => Or.inl (List.mem_singleton.mp hx)⟩
        show 1 ≤ _
        rcases h1 with h1 | h1
        · have : kd q = 1 := by unfold wok at hw; omega
          rw [h1]
          show 1 ≤ (if kd q = 1 then 9 else if kd q = 2 then 5 else 0)
          rw [if_pos this]; decide
        · rw [h1, tG_8]; omega
      · have k5 : 5 ≤ kd q := by unfold wok at hw; omega
        obtain ⟨n2, n4, n5, n7, b5, b6⟩ := kb k5
        by_cases h5 : (X q 1).1 = 5
        · have e : rfS cn ch R q (X q 1).1 = 1 :: R (ch q 0) := (if_neg h1).trans (if_pos h5)
          have k6 : kd q = 6 := by unfold wok at hw; omega
          have c2 := n5 (by omega)
          rw [c2] at b6
          have b6 : 0 + lf (ch q 0) + lf (ch q 1) ≤ lf q := b6
          have x0 := b5 0 (by omega)
          have x1 := b5 1 (by omega)
          obtain ⟨-, y1, y2, y3⟩ := IH _ x0.1 x0.2
          have y4 := IL _ x1.1 x1.2
          rw [e]
          refine ⟨by rw [List.length_cons]; omega, ?_, fun x hx => ?_⟩
          · rw [List.length_cons, h5]
            show _ ≤ 1 + max (X (ch q 0) 1).2.2 (X (ch q 1) 0).2.2
            omega
          · rcases List.mem_cons.mp hx with hx | hx
            · exact Or.inr hx
            · exact y3 x hx
        · by_cases h6 : (X q 1).1 = 6
          · have e : rfS cn ch R q (X q 1).1 = 0 :: R (ch q 1) := (if_neg h1).trans ((if_neg h5).trans (if_pos h6))
            have k6 : kd q = 6 := by unfold wok at hw; omega
            have c2 := n5 (by omega)
            rw [c2] at b6
            have b6 : 0 + lf (ch q 0) + lf (ch q 1) ≤ lf q := b6
            have x0 := b5 0 (by omega)
            have x1 := b5 1 (by omega)
            obtain ⟨-, y1, y2, y3⟩ := IH _ x1.1 x1.2
            have y4 := IL _ x0.1 x0.2
            rw [e]
            refine ⟨by rw [List.length_cons]; omega, ?_, fun x hx => ?_⟩
            · rw [List.length_cons, h6]
              show _ ≤ 1 + max (X (ch q 0) 0).2.2 (X (ch q 1) 1).2.2
              omega
            · rcases List.mem_cons.mp hx with hx | hx
              · exact Or.inl hx
              · exact y3 x hx
          · have e : rfS cn ch R q (X q 1).1 = cat (fun i => R (ch q i)) (cn q) := (if_neg h1).trans ((if_neg h5).trans (if_neg h6))
            have lz : ∀ i, i < cn q → (R (ch q i)).length ≤ (X (ch q i) 1).2.2 := fun i hi => (IH _ (b5 i hi).1 (b5 i hi).2).2.2.1
            rw [e, cat_len]
            refine ⟨?_, ?_, fun x hx => ?_⟩
            · have z := sm_lnn (a := fun i => (R (ch q i)).length) (g := fun i => lf (ch q i)) (k := 2) (r := 1) (cn q) (fun i hi => (IH _ (b5 i hi).1 (b5 i hi).2).2.1)
              omega
            · have h4 : (X q 1).1 = 4 ∨ ((X q 1).1 = 2 ∧ kd q = 5) ∨ ((X q 1).1 = 3 ∧ kd q = 6) ∨ ((X q 1).1 = 7 ∧ kd q = 7) := by unfold wok at hw; omega
              have asd2 : ∀ w, w = 2 ∨ w = 3 ∨ w = 7 → cnu (kd q) (ar q) ≤ cn q → sm (fun i => (R (ch q i)).length) (cn q) ≤ tG kd ar cn ch (xG X) R q w := by
                intro w hw nd
                have t := th_ex (cn q) (by omega) (cnu (kd q) (ar q)) nd
                have g := gm_ge (nd := cnu (kd q) (ar q)) (s := sel (fun i => (X (ch q i) 1).2.2) (fun i => (R (ch q i)).length) (cn q)) (2 ^ cn q) _ t.1 t.2
                refine Nat.le_trans (Nat.le_trans (sel_ge lz) g) ?_
                rcases hw with rfl | rfl | rfl <;> exact Nat.le_refl _
              rcases h4 with h4 | ⟨h4, kk⟩ | ⟨h4, kk⟩ | ⟨h4, kk⟩
              · have k6 : kd q = 6 := by unfold wok at hw; omega
                have c2 := n5 (by omega)
                have y0 := lz 0 (by omega)
                have y1 := lz 1 (by omega)
                rw [h4, c2]
                show 0 + (R (ch q 0)).length + (R (ch q 1)).length ≤ max (X (ch q 0) 1).2.2 ((R (ch q 0)).length + (X (ch q 1) 1).2.2)
                omega
              · rw [h4]
                exact asd2 2 (by omega) (by rw [kk]; exact n2)
              · rw [h4]
                exact asd2 3 (by omega) (by rw [kk]; show 1 ≤ _; omega)
              · rw [h4]
                exact asd2 7 (by omega) (by rw [kk]; exact (n7 kk).2)
            · obtain ⟨i, a, b⟩ := cat_mem _ hx
              exact (IH _ (b5 i a).1 (b5 i a).2).2.2.2 x b
    refine ⟨fun j hj => ⟨pos j hj (fun _ => p0), ?_, wgt j hj (fun _ => g0)⟩, rr⟩
    have j3 : j = 0 ∨ j = 1 ∨ j = 2 := by omega
    rcases j3 with rfl | rfl | rfl
    · rw [if_neg (by decide)]; exact b0.1
    · rw [if_neg (by decide)]; exact b1
    · rw [if_pos rfl]; exact b2
end XB

