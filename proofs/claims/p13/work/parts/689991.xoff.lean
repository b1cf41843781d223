/-! What is offered to a form: a way of its part. -/
def mrk (kd ar : Nat → Nat) (w p : Nat) : Int32 := if rul w = 1 then nI (1000 * kd p + ar p) else if rul w = 4 then nI (ck (kd p)) else 0
def ned (kd ar cn : Nat → Nat) (w p : Nat) : Nat := if rul w = 1 then 0 else if rul w = 4 then cnu (kd p) (ar p) else if w = 18 then cn p else if w = 8 ∨ w = 24 then 1 else 2
/-- the form f is said in the way w of the part p -/
def Fw (kd ar cn : Nat → Nat) (ch : Nat → Nat → Nat) (u : ab_S) (p f w : Nat) : Prop := FD u f (rul w) (mrk kd ar w p) (nI (ned kd ar cn w p)) (ct cn w p) (fun i => 3 * (cp ch w p i + 1) + cj cn w p i)
/-- what a form has been offered so far -/
def xO (kd ar cn : Nat → Nat) (ch : Nat → Nat → Nat) (u : ab_S) (p f : Nat) : Option (Nat × Nat × Nat) → Prop
  | none => u.1 3 f 4 = nI 0
  | some t => Fw kd ar cn ch u p f t.1 ∧ u.1 3 f 8 = nI t.2.1 ∧ u.1 3 f 9 = nI t.2.2 ∧ t.2.1 ≤ 900 ∧ t.2.2 ≤ 900
/-- a form of another part stands: its words, its weight, whether it can be refused and how -/
def kC (X : Nat → Nat → Nat × Nat × Nat) (R : Nat → List Nat) (u : ab_S) (c j : Nat) : Prop := u.1 3 (3 * (c + 1) + j) 8 = nI (X c j).2.1 ∧ u.1 3 (3 * (c + 1) + j) 9 = nI (X c j).2.2 ∧ (j = 1 → Rw u (2 * (3 * (c + 1) + 1) + 1) (R c))
def kCs (cn : Nat → Nat) (ch : Nat → Nat → Nat) (X : Nat → Nat → Nat × Nat × Nat) (R : Nat → List Nat) (u : ab_S) (p w : Nat) : Prop := ∀ i, i < ct cn w p → kC X R u (cp ch w p i) (cj cn w p i)
theorem rul_1 {w : Nat} (h : rul w = 1) : w = 1 ∨ w = 11 ∨ w = 12 := by
  unfold rul at h
  repeat' split at h
  all_goals omega
theorem rul_2 {w : Nat} (h : rul w = 2) : w = 13 ∨ w = 14 ∨ w = 18 ∨ w = 21 := by
  unfold rul at h
  repeat' split at h
  all_goals omega
theorem rul_3 {w : Nat} (h : rul w = 3) : w = 24 := by
  unfold rul at h
  repeat' split at h
  all_goals omega
theorem rul_4 {w : Nat} (h : rul w = 4) : w = 2 ∨ w = 3 ∨ w = 7 := by
  unfold rul at h
  repeat' split at h
  all_goals omega
theorem rul_78 {k a n j w : Nat} (hw : wok k a n j w) (h : rul w = 7 ∨ rul w = 8) : w = 4 ∨ w = 15 ∨ w = 16 ∨ w = 22 := by
  unfold rul at h
  unfold wok at hw
  repeat' split at h
  all_goals omega
theorem Rw.n {u : ab_S} {r : Nat} {xs : List Nat} (h : Rw u r xs) (h1 : ∀ x, x ∈ xs → x = 0 ∨ x = 1) : u.1 4 r 2 = nI xs.length := by
  rw [← wgt_01 xs h1]; exact h.2.2.1
section FwFr
variable {kd ar cn : Nat → Nat} {ch : Nat → Nat → Nat} {X : Nat → Nat → Nat × Nat × Nat} {R : Nat → List Nat} {u u' : ab_S} {p f w : Nat} {A : Nat → Prop}
theorem Fw.fr (h : Fw kd ar cn ch u p f w) (o : fO A u u') (hf : ¬ A f) : Fw kd ar cn ch u' p f w := FD.fr h o hf
theorem xO.fr {t : Option (Nat × Nat × Nat)} (h : xO kd ar cn ch u p f t) (o : fO A u u') (hf : ¬ A f) : xO kd ar cn ch u' p f t := by
  cases t with
  | none => exact (o.1 _ _ _ (fun z => hf z.2.1)).trans h
  | some t =>
    obtain ⟨a1, a2, a3, a4⟩ := h
    exact ⟨a1.fr o hf, (o.1 _ _ _ (fun z => hf z.2.1)).trans a2, (o.1 _ _ _ (fun z => hf z.2.1)).trans a3, a4⟩
theorem kC.fr {c j : Nat} (h : kC X R u c j) (o : fO A u u') (hf : ¬ A (3 * (c + 1) + j)) : kC X R u' c j := ⟨(o.1 _ _ _ (fun z => hf z.2.1)).trans h.1, (o.1 _ _ _ (fun z => hf z.2.1)).trans h.2.1, fun z => (h.2.2 z).cong (fun k => o.1 _ _ _ (by omega)) (fun k => o.1 _ _ _ (by omega))⟩
theorem FD.co {u : ab_S} {f r : Nat} {mk nd : Int32} {nc : Nat} {g g' : Nat → Nat} (h : FD u f r mk nd nc g) (e : ∀ i, i < nc → g i = g' i) : FD u f r mk nd nc g' := ⟨h.1, h.2.1, h.2.2.1, h.2.2.2.1, fun i hi => by rw [← e i hi]; exact h.2.2.2.2 i hi⟩
end FwFr
section SaXOff
variable {l : Launch} {D : va_G} {ca : Nat → ClassId}
theorem x_FM_gW (u : ab_S) (M : Nat) (kd ar cn lf : Nat → Nat) (ch : Nat → Nat → Nat) (X : Nat → Nat → Nat × Nat × Nat) (R : Nat → List Nat) (W : tW M kd ar cn lf ch) (hB : ∀ q, q < M → xB lf X R q) (pq : Nat) (hpM : pq < M) (w j : Nat) (hw : wok (kd pq) (ar pq) (cn pq) j w) (F : Fw kd ar cn ch u pq 60 w) (K : kCs cn ch X R u pq w) (h : CI u) : ab_C false l D ca y_FM_greatestWeight b_FM_greatestWeight 1 (some .int) 2 ab_nQ u [ab_O 3 60] (fun u' v => u' = u ∧ ∃ x : Int32, x = nI (tG kd ar cn ch (xG X) R pq w) ∧ v = some (ab_I x)) := by
  have hP19 := W.2.1
  obtain ⟨⟨l1, l2, k1, k7, r9⟩, kl, kb⟩ := W.2.2 pq hpM
  have hc : ∀ i, i < ct cn w pq → (cp ch w pq i) < M := fun i hi => by
    rcases cp_in W hpM hw hi with ⟨-, e, -⟩ | ⟨-, -, e⟩ <;> omega
  have bG : ∀ i, i < ct cn w pq → xG X (cp ch w pq i) (cj cn w pq i) ≤ 130 ∧ (R (cp ch w pq i)).length ≤ 20 := fun i hi => by
    have b := hB _ (hc i hi)
    have b1 := (b.1 _ (cj_lt cn w pq i)).2.2
    have b2 := b.2.1
    have l := (W.2.2 _ (hc i hi)).1.2.1
    have : (if (cj cn w pq i) = 0 then 0 else 1) ≤ 1 := by split <;> decide
    show (X (cp ch w pq i) (cj cn w pq i)).2.2 ≤ 130 ∧ _
    omega
  have hn4 : ct cn w pq ≤ 4 ∧ (ct cn w pq = 0 → rul w = 1) := by
    by_cases h8 : w = 8 ∨ w = 24
    · rcases h8 with rfl | rfl <;> exact ⟨show 1 ≤ 4 by decide, fun z => absurd (show (1 : Nat) = 0 from z) (by decide)⟩
    · rcases ct_cn W hpM hw h8 with ⟨e, e2, -⟩ | ⟨e, e2, e3⟩
      · exact ⟨by omega, fun _ => e2⟩
      · have := (kb e3).2.1
        exact ⟨by omega, fun z => by omega⟩
  have hg : ∀ i, i < ct cn w pq → (fun i => 3 * (cp ch w pq i + 1) + cj cn w pq i) i < 61 := fun i hi => by
    have a := hc i hi
    have b := cj_lt cn w pq i
    show 3 * ((cp ch w pq i) + 1) + (cj cn w pq i) < 61
    omega
  have c9 : ∀ i, i < ct cn w pq → u.1 3 ((fun i => 3 * (cp ch w pq i + 1) + cj cn w pq i) i) 9 = nI (xG X (cp ch w pq i) (cj cn w pq i)) := fun i hi => (K i hi).2.1
  have n2 : ∀ i, i < ct cn w pq → (cj cn w pq i) = 1 → u.1 4 (2 * (fun i => 3 * (cp ch w pq i + 1) + cj cn w pq i) i + 1) 2 = nI (R (cp ch w pq i)).length := fun i hi e => by
    show u.1 4 (2 * (3 * ((cp ch w pq i) + 1) + (cj cn w pq i)) + 1) 2 = _
    rw [e]
    exact ((K i hi).2.2 e).n (hB _ (hc i hi)).2.2.2
  have sh : shx (rul w) (ct cn w pq) := by
    refine ⟨fun z => ?_, fun z => ?_, fun z => ?_, fun z => ct_2 z⟩
    · rcases rul_1 z with rfl | rfl | rfl <;> rfl
    · rcases z with z | z
      · rw [rul_3 z]; rfl
      · exact ct_1 z
    · exact Nat.pos_of_ne_zero (fun y => by have := hn4.2 y; omega)
  refine ab_C_mono (t_FM_gwv u 60 (rul w) (ct cn w pq) (tG kd ar cn ch (xG X) R pq w) (mrk kd ar w pq) (nI (ned kd ar cn w pq)) (fun i => 3 * (cp ch w pq i + 1) + cj cn w pq i) F (rul_r w) hg sh (fun z => ?_) (fun z => ?_) (fun z => ?_) (fun z => ?_) (fun z => ?_) h (by decide)) (fun u' v z => ⟨z.1, _, rfl, z.2⟩)
  · refine ⟨kd pq, ar pq, if_pos z, by omega, by omega, ?_⟩
    unfold tG gwm
    rw [if_pos z]
  · have e := ct_2 (cn := cn) (p := pq) (Or.inl z)
    have b0 := bG 0 (by omega)
    have b1 := bG 1 (by omega)
    rw [c9 0 (by omega), c9 1 (by omega), mx_nI (by omega) (by omega), tG_5 z]
    exact nI_add 1 _
  · have e := ct_1 (cn := cn) (p := pq) z
    rw [c9 0 (by omega), tG_6 z]
    exact nI_add 1 _
  · have e := ct_2 (cn := cn) (p := pq) (Or.inr z)
    have e1 : cj cn w pq 0 = 1 := by rcases rul_78 hw z with rfl | rfl | rfl | rfl <;> rfl
    have b0 := bG 0 (by omega)
    have b1 := bG 1 (by omega)
    rw [c9 0 (by omega), c9 1 (by omega), n2 0 (by omega) e1, nI_add, mx_nI (by omega) (by omega), tG_78 z]
  · by_cases z4 : rul w = 4
    · have hcj : ∀ i, (cj cn w pq i) = 1 := fun i => by rcases rul_4 z4 with rfl | rfl | rfl <;> rfl
      have en : ned kd ar cn w pq = cnu (kd pq) (ar pq) := by unfold ned; rw [if_neg (by omega), if_pos z4]
      have nd : cnu (kd pq) (ar pq) < 1000 := by unfold cnu; repeat' split
                                                 all_goals omega
      rw [tG_4 z4, ← en]
      refine t_FM_goc u 60 (rul w) (ct cn w pq) (ned kd ar cn w pq) (mrk kd ar w pq) (fun i => 3 * (cp ch w pq i + 1) + cj cn w pq i) _ F hn4.1 hg (by omega) (fun c1 _ _ => ⟨sI_sel _ (fun i hi => ⟨c9 i hi, n2 i hi (hcj i)⟩), ?_⟩) h (by decide)
      have s1 : sel (fun i => xG X (cp ch w pq i) (cj cn w pq i)) (fun i => (R (cp ch w pq i)).length) (ct cn w pq) c1 ≤ sm (fun _ => 200) (ct cn w pq) := sm_le _ (fun i hi => by
        have := bG i hi
        show (if c1 / 2 ^ i % 2 = 1 then xG X (cp ch w pq i) (cj cn w pq i) else (R (cp ch w pq i)).length) ≤ 200
        split <;> omega)
      rw [sm_const] at s1
      omega
    · have z23 : rul w = 2 ∨ rul w = 3 := by omega
      have en : ned kd ar cn w pq = ct cn w pq := by
        have w' : w = 13 ∨ w = 14 ∨ w = 18 ∨ w = 21 ∨ w = 24 := by
          rcases z23 with y | y
          · have := rul_2 y; omega
          · have := rul_3 y; omega
        rcases w' with rfl | rfl | rfl | rfl | rfl <;> rfl
      have s1 : sm (fun i => xG X (cp ch w pq i) (cj cn w pq i)) (ct cn w pq) ≤ sm (fun _ => 200) (ct cn w pq) := sm_le _ (fun i hi => by
        have := bG i hi
        show xG X (cp ch w pq i) (cj cn w pq i) ≤ 200
        omega)
      rw [sm_const] at s1
      have t := th_ex (ct cn w pq) (by omega) (ct cn w pq) (Nat.le_refl _)
      have e : gm (ned kd ar cn w pq) (fun _ => sm (fun i => xG X (cp ch w pq i) (cj cn w pq i)) (ct cn w pq)) (2 ^ ct cn w pq) = (tG kd ar cn ch (xG X) R pq w) := by
        rw [tG_23 z23, en]
        exact gm_eq (fun _ _ _ => Nat.le_refl _) ⟨_, t.1, t.2, rfl⟩
      rw [← e]
      refine t_FM_goc u 60 (rul w) (ct cn w pq) (ned kd ar cn w pq) (mrk kd ar w pq) (fun i => 3 * (cp ch w pq i + 1) + cj cn w pq i) _ F hn4.1 hg (by omega) (fun c1 h1 h2 => ⟨sI_all _ (fun i hi => th_all (ct cn w pq) (by omega) c1 (th_lt _ (by omega) _ h1) h1 (by omega) i (by omega) hi) c9, by omega⟩) h (by decide)
theorem tL_cwn {kd ar cn : Nat → Nat} {ch L : Nat → Nat → Nat} {p j w : Nat} (hw : wok (kd p) (ar p) (cn p) j w) : cwn (rul w) (mrk kd ar w p) (ct cn w p) (sm (fun i => L (cp ch w p i) (cj cn w p i)) (ct cn w p)) = tL cn ch L p w := by
  unfold cwn tL cwm
  by_cases z : rul w = 4
  · have e : (mrk kd ar w p = 8) ↔ w = 7 := by
      have m : mrk kd ar w p = nI (ck (kd p)) := by unfold mrk; rw [if_neg (by omega), if_pos z]
      rw [m]
      have c : (w = 2 ∧ kd p = 5) ∨ (w = 3 ∧ kd p = 6) ∨ (w = 7 ∧ kd p = 7) := by
        have := rul_4 z
        unfold wok at hw
        omega
      rcases c with ⟨rfl, c⟩ | ⟨rfl, c⟩ | ⟨rfl, c⟩ <;> rw [c] <;> decide
    by_cases y : w = 7
    · rw [if_pos y, if_pos (e.mpr y)]
    · rw [if_neg y, if_neg (fun x => y (e.mp x))]
  · rw [if_neg z, if_neg z]
theorem x_FM_off (u : ab_S) (M : Nat) (kd ar cn lf : Nat → Nat) (ch : Nat → Nat → Nat) (X : Nat → Nat → Nat × Nat × Nat) (R : Nat → List Nat) (W : tW M kd ar cn lf ch) (hB : ∀ q, q < M → xB lf X R q) (pq : Nat) (hpM : pq < M) (w j f : Nat) (o : Option (Nat × Nat × Nat)) (hw : wok (kd pq) (ar pq) (cn pq) j w) (F : Fw kd ar cn ch u pq 60 w) (K : kCs cn ch X R u pq w) (B : xO kd ar cn ch u pq f o) (h : CI u) (hf : f < 60) : ab_C false l D ca y_FM_offer b_FM_offer 6 none 3 ab_nQ u [ab_O 3 f, ab_O 3 60] (fun u' v => (cP [3, 9] u u' ∧ fO (fun i => i = f) u u' ∧ xO kd ar cn ch u' pq f (pk o w (tL cn ch (xL X) pq w) (tG kd ar cn ch (xG X) R pq w))) ∧ v = none) := by
  have hP19 := W.2.1
  obtain ⟨⟨l1, l2, k1, k7, r9⟩, kl, kb⟩ := W.2.2 pq hpM
  have hc : ∀ i, i < ct cn w pq → (cp ch w pq i) < M := fun i hi => by
    rcases cp_in W hpM hw hi with ⟨-, e, -⟩ | ⟨-, -, e⟩ <;> omega
  have hn4 : ct cn w pq ≤ 4 ∧ (ct cn w pq = 0 → rul w = 1) := by
    by_cases h8 : w = 8 ∨ w = 24
    · rcases h8 with rfl | rfl <;> exact ⟨show 1 ≤ 4 by decide, fun z => absurd (show (1 : Nat) = 0 from z) (by decide)⟩
    · rcases ct_cn W hpM hw h8 with ⟨e, e2, -⟩ | ⟨e, e2, e3⟩
      · exact ⟨by omega, fun _ => e2⟩
      · have := (kb e3).2.1
        exact ⟨by omega, fun z => by omega⟩
  have hs : sm (fun i => xL X (cp ch w pq i) (cj cn w pq i)) (ct cn w pq) ≤ 400 := by
    have s1 : sm (fun i => xL X (cp ch w pq i) (cj cn w pq i)) (ct cn w pq) ≤ sm (fun _ => 100) (ct cn w pq) := sm_le _ (fun i hi => by
      have b := ((hB _ (hc i hi)).1 _ (cj_lt cn w pq i)).2.1
      have l := (W.2.2 _ (hc i hi)).1.2.1
      have : (if (cj cn w pq i) = 2 then 1 else 0) ≤ 1 := by split <;> decide
      show (X (cp ch w pq i) (cj cn w pq i)).2.1 ≤ 100
      omega)
    rw [sm_const] at s1
    omega
  have hTL : (tL cn ch (xL X) pq w) ≤ 900 := by
    unfold tL cwm
    have : (if w = 7 then 1 else 0) ≤ 1 := by split <;> decide
    repeat' split
    all_goals omega
  have hTG : (tG kd ar cn ch (xG X) R pq w) ≤ 900 := by
    have z := tG_le (R := R) W hpM hw (G := xG X) (fun c a b j hj => by
      have z := (hB c b).1 j hj
      have y := (hB c b).2.1
      have x := (W.2.2 c b).1.1
      have : (if j = 0 then 0 else 1) ≤ 1 := by split <;> decide
      show (X c j).2.2 + 2 ≤ _ ∧ _
      omega) (fun _ => by
      have z := ((hB pq hpM).1 0 (by decide)).2.2
      rw [if_pos rfl] at z
      exact z)
    have : (if j = 0 then 0 else 1) ≤ 1 := by split <;> decide
    omega
  have key : ∀ (r0 w0 : Nat), r0 ≤ 8 → w0 ≤ 1000 → u.1 3 f 4 = nI r0 → (r0 ≠ 0 → u.1 3 f 8 = nI w0) → ab_C false l D ca y_FM_offer b_FM_offer 6 none 3 ab_nQ u [ab_O 3 f, ab_O 3 60] (fun u' v => (cP [3, 9] u u' ∧ fO (fun i => i = f) u u' ∧ ((bt r0 (tL cn ch (xL X) pq w) w0 (nI (tG kd ar cn ch (xG X) R pq w)) (u.1 3 f 9) ∧ Fw kd ar cn ch u' pq f w ∧ u'.1 3 f 8 = nI (tL cn ch (xL X) pq w) ∧ u'.1 3 f 9 = nI (tG kd ar cn ch (xG X) R pq w)) ∨ (¬ bt r0 (tL cn ch (xL X) pq w) w0 (nI (tG kd ar cn ch (xG X) R pq w)) (u.1 3 f 9) ∧ u' = u))) ∧ v = none) := by
    intro r0 w0 b1 b2 b3 b4
    refine ab_C_mono (f_FM_offer u f 60 (rul w) (ct cn w pq) (mrk kd ar w pq) (nI (ned kd ar cn w pq)) (fun i => 3 * (cp ch w pq i + 1) + cj cn w pq i) (fun i => xL X (cp ch w pq i) (cj cn w pq i)) F hn4.1 (fun i hi => (K i hi).1) (by omega) (fun z => Nat.pos_of_ne_zero (fun y => by have := hn4.2 y; omega)) (rul_r w).2 (fun i hi => by
      have a := hc i hi
      have b := cj_lt cn w pq i
      show 3 * ((cp ch w pq i) + 1) + (cj cn w pq i) < 61
      omega) r0 w0 b1 b2 b3 b4 h (by omega) (by decide) (by omega) (fun x => x = nI (tG kd ar cn ch (xG X) R pq w)) (x_FM_gW u M kd ar cn lf ch X R W hB pq hpM w j hw F K h)) ?_
    rintro u' v ⟨⟨z1, z2, G, rfl, z3⟩, rfl⟩
    rw [tL_cwn hw] at z3
    exact ⟨⟨z1, z2, z3⟩, rfl⟩
  cases o with
  | none =>
    refine ab_C_mono (key 0 0 (by decide) (by decide) B (fun z => absurd rfl z)) ?_
    rintro u' v ⟨⟨z1, z2, z3⟩, rfl⟩
    refine ⟨⟨z1, z2, ?_⟩, rfl⟩
    rcases z3 with ⟨-, a1, a2, a3⟩ | ⟨n, -⟩
    · exact ⟨a1, a2, a3, hTL, hTG⟩
    · exact absurd (Or.inl rfl) n
  | some t =>
    obtain ⟨B1, B2, B3, B4, B5⟩ := B
    have rt := rul_r t.1
    refine ab_C_mono (key (rul t.1) t.2.1 rt.2 (by omega) B1.1 (fun _ => B2)) ?_
    rintro u' v ⟨⟨z1, z2, z3⟩, rfl⟩
    refine ⟨⟨z1, z2, ?_⟩, rfl⟩
    have eb : bt (rul t.1) (tL cn ch (xL X) pq w) t.2.1 (nI (tG kd ar cn ch (xG X) R pq w)) (u.1 3 f 9) ↔ ((tL cn ch (xL X) pq w) < t.2.1 ∨ ((tL cn ch (xL X) pq w) = t.2.1 ∧ (tG kd ar cn ch (xG X) R pq w) < t.2.2)) := by
      unfold bt
      rw [B3, nI_ltI (by omega) (by omega)]
      omega
    rcases z3 with ⟨b, a1, a2, a3⟩ | ⟨b, rfl⟩
    · have e : pk (some t) w (tL cn ch (xL X) pq w) (tG kd ar cn ch (xG X) R pq w) = some (w, (tL cn ch (xL X) pq w), (tG kd ar cn ch (xG X) R pq w)) := if_pos (eb.mp b)
      rw [e]
      exact ⟨a1, a2, a3, hTL, hTG⟩
    · have e : pk (some t) w (tL cn ch (xL X) pq w) (tG kd ar cn ch (xG X) R pq w) = some t := if_neg (fun z => b (eb.mpr z))
      rw [e]
      exact ⟨B1, B2, B3, B4, B5⟩
end SaXOff

